def sL_placeFor (ln : Int) (siz kp : Nat → Int) : qS := spV (LC ln siz kp) (fun av r => ∃ a b z : Int, av = [q2 1, q1 a, q1 b] ∧ r = some (q1 z) ∧ (z = -1 ∨ 0 ≤ z ∧ z ≤ 1 ∧ 0 ≤ a ∧ a ≤ 3)) (fun av => ∃ a b : Int, av = [q2 1, q1 a, q1 b])
set_option maxHeartbeats 2000000 in
set_option maxRecDepth 100000 in
theorem mL_placeFor (l : Launch) (ln : Int) (siz kp : Nat → Int) : q_M l yX8_placeFor cX8_placeFor 3 (some .int) 1 22 (sL_placeFor ln siz kp) := by
  refine q_M_mono (fun av w Q h9 => ?_) (q_M_fr (m_X8_placeFor l))
  obtain ⟨h9, ⟨a, b, rfl⟩, hQ9⟩ := h9
  obtain ⟨_, e9_0, fa, pl, rfl, i9_0_0⟩ := h9 1 _ rfl
  obtain ⟨_, e9_1, tp, rfl⟩ := h9 2 _ rfl
  obtain ⟨_, e9_2, ct, rfl, i9_2_0⟩ := h9 3 _ rfl
  refine ⟨[1, 2, 3, 4, 5, 6, 7], [q2 0, q1 a, q1 b], (wT3 tp ct ln fa pl), rfl, ?_, rfl, ?_⟩
  · show [w[1]?, w[2]?, w[3]?] = _
    rw [e9_0, e9_1, e9_2]
    rfl
  · refine ⟨tp, ct, ln, fa, pl, a, b, rfl, rfl, (by first | assumption | omega), fun r hp hlen => ?_⟩
    try simp only [and_assoc] at hp
    refine hQ9 _ _ (PW_bw h9 rfl ?_) (by rw [q_bw_len]) (bw_out rfl) ⟨a, b, r, rfl, rfl, hp⟩
    refine ⟨(show PX_T ln _ from ⟨_, _, rfl, (by first | assumption | omega | exact q_rg_cpy (by assumption) (by assumption) | exact hp.1 | exact hp.2.1 | exact hp.2.2.1 | exact hp.2.2.2.1 | exact hp.2.2.2.2.1 | exact hp.2.2.2.2.2.1 | exact hp.2.2.2.2.2.2.1)⟩), ?_⟩
    refine ⟨(show PX_Ttp _ from ⟨_, rfl⟩), ?_⟩
    refine ⟨(show PX_Tct _ from ⟨_, rfl, (by first | assumption | omega | exact q_rg_cpy (by assumption) (by assumption) | exact hp.1 | exact hp.2.1 | exact hp.2.2.1 | exact hp.2.2.2.1 | exact hp.2.2.2.2.1 | exact hp.2.2.2.2.2.1 | exact hp.2.2.2.2.2.2.1)⟩), ?_⟩
    exact trivial

def sL_read (ln : Int) (siz kp : Nat → Int) : qS := spV (LC ln siz kp) (fun _ r => r = none) (fun av => ∃ a b : Int, av = [q2 45, q1 a, q2 2, q1 b] ∧ (0 ≤ b ∧ b ≤ 600))
set_option maxHeartbeats 2000000 in
set_option maxRecDepth 100000 in
theorem mL_read (l : Launch) (ln : Int) (siz kp : Nat → Int) : q_M l yX6_read cX6_read 5 none 8 174 (sL_read ln siz kp) := by
  refine q_M_mono (fun av w Q h9 => ?_) (q_M_fr (m_X6_read l))
  obtain ⟨h9, ⟨a, b, rfl, hb⟩, hQ9⟩ := h9
  obtain ⟨_, e9_0, rt, rln, rfa, rpl, rst, rnx, rtk, rnm, rnp, rnd, rfl, i9_0_0, hrt⟩ := h9 45 _ rfl
  obtain ⟨_, e9_1, tp, rfl⟩ := h9 2 _ rfl
  obtain ⟨_, e9_2, rv, rfl⟩ := h9 46 _ rfl
  obtain ⟨_, e9_3, rbu0, rbu1, rbu2, rbu3, rbu4, rfl, i9_3_0⟩ := h9 48 _ rfl
  obtain ⟨_, e9_4, rbf1, rfl⟩ := h9 49 _ rfl
  obtain ⟨_, e9_5, rbf2, rfl⟩ := h9 50 _ rfl
  obtain ⟨_, e9_6, rbf3, rfl, i9_6_0⟩ := h9 51 _ rfl
  obtain ⟨_, e9_7, rbf4, rfl⟩ := h9 52 _ rfl
  obtain ⟨_, e9_8, rbf5, rfl⟩ := h9 53 _ rfl
  obtain ⟨_, e9_9, rbf6, rfl⟩ := h9 54 _ rfl
  obtain ⟨_, e9_10, rbf7, rfl⟩ := h9 55 _ rfl
  obtain ⟨_, e9_11, ryd, rfl, i9_11_0⟩ := h9 56 _ rfl
  obtain ⟨_, e9_12, ryk1, rfl⟩ := h9 57 _ rfl
  obtain ⟨_, e9_13, ryk2, rfl⟩ := h9 58 _ rfl
  obtain ⟨_, e9_14, ryk3, rfl⟩ := h9 59 _ rfl
  obtain ⟨_, e9_15, ryk4, rfl⟩ := h9 60 _ rfl
  obtain ⟨_, e9_16, rlo, rfl⟩ := h9 61 _ rfl
  obtain ⟨_, e9_17, rlg, rfl⟩ := h9 62 _ rfl
  obtain ⟨_, e9_18, rsc, rfl, i9_18_0⟩ := h9 63 _ rfl
  obtain ⟨_, e9_19, rsp, rfl⟩ := h9 64 _ rfl
  obtain ⟨_, e9_20, rsq, rfl⟩ := h9 65 _ rfl
  rcases hrt with rfl | rfl
  · refine ⟨[45, 2, 46, 48, 49, 50, 51, 52, 53, 54, 55, 56, 57, 58, 59, 60, 61, 62, 63, 64, 65, 2], [q2 0, q1 a, q2 1, q1 b], [.inr (6, [q2 3, q2 11, q2 16, q2 18, q2 2, q2 21, q1 rln, q1 rfa, q1 rpl, q1 rst, q1 rnx, q1 rtk, q1 rnm, q1 rnp, q1 rnd]), .inl (1, 600, .inl tp), .inl (0, 3, .inl rv), .inr (0, [q2 4, q2 5, q2 6, q2 7, q2 8, q2 9, q2 10, q1 rbu0, q1 rbu1, q1 rbu2, q1 rbu3, q1 rbu4]), .inl (0, 8, .inl rbf1), .inl (0, 8, .inl rbf2), .inl (0, 4, .inl rbf3), .inl (0, 32, .inl rbf4), .inl (0, 6, .inl rbf5), .inl (0, 6, .inl rbf6), .inl (0, 6, .inl rbf7), .inr (10, [q2 12, q2 13, q2 14, q2 15, q1 ryd]), .inl (0, 40, .inl ryk1), .inl (0, 40, .inl ryk2), .inl (0, 40, .inl ryk3), .inl (0, 40, .inl ryk4), .inr (3, [q2 17, q1 rlo]), .inl (0, 8, .inl rlg), .inr (7, [q2 19, q2 20, q1 rsc]), .inl (0, 10, .inl rsp), .inl (0, 10, .inl rsq)], rfl, ?_, rfl, ?_⟩
    · show [w[45]?, w[2]?, w[46]?, w[48]?, w[49]?, w[50]?, w[51]?, w[52]?, w[53]?, w[54]?, w[55]?, w[56]?, w[57]?, w[58]?, w[59]?, w[60]?, w[61]?, w[62]?, w[63]?, w[64]?, w[65]?] = _
      rw [e9_0, e9_1, e9_2, e9_3, e9_4, e9_5, e9_6, e9_7, e9_8, e9_9, e9_10, e9_11, e9_12, e9_13, e9_14, e9_15, e9_16, e9_17, e9_18, e9_19, e9_20]
      rfl
    · refine ⟨rln, rfa, rpl, rst, rnx, rtk, rnm, rnp, rnd, tp, rv, rbf1, rbf2, rbf3, rbf4, rbf5, rbf6, rbf7, rbu0, rbu1, rbu2, rbu3, rbu4, ryk1, ryk2, ryk3, ryk4, ryd, rlg, rlo, rsp, rsq, rsc, a, b, rfl, rfl, (by first | assumption | omega), (by first | assumption | omega), (by first | assumption | omega), fun x_rln x_rst x_rnx x_rtk x_rnm x_rfa x_rpl x_rv x_rbf1 x_rbf2 x_rbf3 x_rbf4 x_rbf5 x_rbf6 x_rbf7 x_rbu0 x_rbu1 x_rbu2 x_rbu3 x_rbu4 x_rnp x_rnd x_ryk1 x_ryk2 x_ryk3 x_ryk4 x_ryd x_rlg x_rlo x_rsp x_rsq x_rsc hp hlen => ?_⟩
      try simp only [and_assoc] at hp
      refine hQ9 _ _ (PW_bw h9 rfl ?_) (by rw [q_bw_len]) (bw_out rfl) rfl
      refine ⟨(show PX_RD _ from ⟨_, _, _, _, _, _, _, _, _, _, rfl, (by first | assumption | omega | exact q_rg_cpy (by assumption) (by assumption) | exact hp.1 | exact hp.2.1 | exact hp.2.2.1 | exact hp.2.2.2.1 | exact hp.2.2.2.2.1 | exact hp.2.2.2.2.2.1 | exact hp.2.2.2.2.2.2.1), (Or.inl rfl)⟩), ?_⟩
      refine ⟨(show PX_Ttp _ from ⟨_, rfl⟩), ?_⟩
      refine ⟨(show PX_RV _ from ⟨_, rfl⟩), ?_⟩
      refine ⟨(show PX_RB _ from ⟨_, _, _, _, _, rfl, (by first | assumption | omega | exact q_rg_cpy (by assumption) (by assumption) | exact hp.1 | exact hp.2.1 | exact hp.2.2.1 | exact hp.2.2.2.1 | exact hp.2.2.2.2.1 | exact hp.2.2.2.2.2.1 | exact hp.2.2.2.2.2.2.1)⟩), ?_⟩
      refine ⟨(show PX_RB_1 _ from ⟨_, rfl⟩), ?_⟩
      refine ⟨(show PX_RB_2 _ from ⟨_, rfl⟩), ?_⟩
      refine ⟨(show PX_RB_3 _ from ⟨_, rfl, (by first | assumption | omega | exact q_rg_cpy (by assumption) (by assumption) | exact hp.1 | exact hp.2.1 | exact hp.2.2.1 | exact hp.2.2.2.1 | exact hp.2.2.2.2.1 | exact hp.2.2.2.2.2.1 | exact hp.2.2.2.2.2.2.1)⟩), ?_⟩
      refine ⟨(show PX_RB_4 _ from ⟨_, rfl⟩), ?_⟩
      refine ⟨(show PX_RB_5 _ from ⟨_, rfl⟩), ?_⟩
      refine ⟨(show PX_RB_6 _ from ⟨_, rfl⟩), ?_⟩
      refine ⟨(show PX_RB_7 _ from ⟨_, rfl⟩), ?_⟩
      refine ⟨(show PX_RY _ from ⟨_, rfl, (by first | assumption | omega | exact q_rg_cpy (by assumption) (by assumption) | exact hp.1 | exact hp.2.1 | exact hp.2.2.1 | exact hp.2.2.2.1 | exact hp.2.2.2.2.1 | exact hp.2.2.2.2.2.1 | exact hp.2.2.2.2.2.2.1)⟩), ?_⟩
      refine ⟨(show PX_RY_1 _ from ⟨_, rfl⟩), ?_⟩
      refine ⟨(show PX_RY_2 _ from ⟨_, rfl⟩), ?_⟩
      refine ⟨(show PX_RY_3 _ from ⟨_, rfl⟩), ?_⟩
      refine ⟨(show PX_RY_4 _ from ⟨_, rfl⟩), ?_⟩
      refine ⟨(show PX_RL _ from ⟨_, rfl⟩), ?_⟩
      refine ⟨(show PX_RL_1 _ from ⟨_, rfl⟩), ?_⟩
      refine ⟨(show PX_RS _ from ⟨_, rfl, (by first | assumption | omega | exact q_rg_cpy (by assumption) (by assumption) | exact hp.1 | exact hp.2.1 | exact hp.2.2.1 | exact hp.2.2.2.1 | exact hp.2.2.2.2.1 | exact hp.2.2.2.2.2.1 | exact hp.2.2.2.2.2.2.1)⟩), ?_⟩
      refine ⟨(show PX_RS_1 _ from ⟨_, rfl⟩), ?_⟩
      refine ⟨(show PX_RS_2 _ from ⟨_, rfl⟩), ?_⟩
      exact trivial
  · refine ⟨[45, 2, 46, 48, 49, 50, 51, 52, 53, 54, 55, 56, 57, 58, 59, 60, 61, 62, 63, 64, 65, 47], [q2 0, q1 a, q2 1, q1 b], [.inr (6, [q2 3, q2 11, q2 16, q2 18, q2 2, q2 21, q1 rln, q1 rfa, q1 rpl, q1 rst, q1 rnx, q1 rtk, q1 rnm, q1 rnp, q1 rnd]), .inl (1, 600, .inl tp), .inl (0, 3, .inl rv), .inr (0, [q2 4, q2 5, q2 6, q2 7, q2 8, q2 9, q2 10, q1 rbu0, q1 rbu1, q1 rbu2, q1 rbu3, q1 rbu4]), .inl (0, 8, .inl rbf1), .inl (0, 8, .inl rbf2), .inl (0, 4, .inl rbf3), .inl (0, 32, .inl rbf4), .inl (0, 6, .inl rbf5), .inl (0, 6, .inl rbf6), .inl (0, 6, .inl rbf7), .inr (10, [q2 12, q2 13, q2 14, q2 15, q1 ryd]), .inl (0, 40, .inl ryk1), .inl (0, 40, .inl ryk2), .inl (0, 40, .inl ryk3), .inl (0, 40, .inl ryk4), .inr (3, [q2 17, q1 rlo]), .inl (0, 8, .inl rlg), .inr (7, [q2 19, q2 20, q1 rsc]), .inl (0, 10, .inl rsp), .inl (0, 10, .inl rsq)], rfl, ?_, rfl, ?_⟩
    · show [w[45]?, w[2]?, w[46]?, w[48]?, w[49]?, w[50]?, w[51]?, w[52]?, w[53]?, w[54]?, w[55]?, w[56]?, w[57]?, w[58]?, w[59]?, w[60]?, w[61]?, w[62]?, w[63]?, w[64]?, w[65]?] = _
      rw [e9_0, e9_1, e9_2, e9_3, e9_4, e9_5, e9_6, e9_7, e9_8, e9_9, e9_10, e9_11, e9_12, e9_13, e9_14, e9_15, e9_16, e9_17, e9_18, e9_19, e9_20]
      rfl
    · refine ⟨rln, rfa, rpl, rst, rnx, rtk, rnm, rnp, rnd, tp, rv, rbf1, rbf2, rbf3, rbf4, rbf5, rbf6, rbf7, rbu0, rbu1, rbu2, rbu3, rbu4, ryk1, ryk2, ryk3, ryk4, ryd, rlg, rlo, rsp, rsq, rsc, a, b, rfl, rfl, (by first | assumption | omega), (by first | assumption | omega), (by first | assumption | omega), fun x_rln x_rst x_rnx x_rtk x_rnm x_rfa x_rpl x_rv x_rbf1 x_rbf2 x_rbf3 x_rbf4 x_rbf5 x_rbf6 x_rbf7 x_rbu0 x_rbu1 x_rbu2 x_rbu3 x_rbu4 x_rnp x_rnd x_ryk1 x_ryk2 x_ryk3 x_ryk4 x_ryd x_rlg x_rlo x_rsp x_rsq x_rsc hp hlen => ?_⟩
      try simp only [and_assoc] at hp
      refine hQ9 _ _ (PW_bw h9 rfl ?_) (by rw [q_bw_len]) (bw_out rfl) rfl
      refine ⟨(show PX_RD _ from ⟨_, _, _, _, _, _, _, _, _, _, rfl, (by first | assumption | omega | exact q_rg_cpy (by assumption) (by assumption) | exact hp.1 | exact hp.2.1 | exact hp.2.2.1 | exact hp.2.2.2.1 | exact hp.2.2.2.2.1 | exact hp.2.2.2.2.2.1 | exact hp.2.2.2.2.2.2.1), (Or.inl rfl)⟩), ?_⟩
      refine ⟨(show PX_Ttp _ from ⟨_, rfl⟩), ?_⟩
      refine ⟨(show PX_RV _ from ⟨_, rfl⟩), ?_⟩
      refine ⟨(show PX_RB _ from ⟨_, _, _, _, _, rfl, (by first | assumption | omega | exact q_rg_cpy (by assumption) (by assumption) | exact hp.1 | exact hp.2.1 | exact hp.2.2.1 | exact hp.2.2.2.1 | exact hp.2.2.2.2.1 | exact hp.2.2.2.2.2.1 | exact hp.2.2.2.2.2.2.1)⟩), ?_⟩
      refine ⟨(show PX_RB_1 _ from ⟨_, rfl⟩), ?_⟩
      refine ⟨(show PX_RB_2 _ from ⟨_, rfl⟩), ?_⟩
      refine ⟨(show PX_RB_3 _ from ⟨_, rfl, (by first | assumption | omega | exact q_rg_cpy (by assumption) (by assumption) | exact hp.1 | exact hp.2.1 | exact hp.2.2.1 | exact hp.2.2.2.1 | exact hp.2.2.2.2.1 | exact hp.2.2.2.2.2.1 | exact hp.2.2.2.2.2.2.1)⟩), ?_⟩
      refine ⟨(show PX_RB_4 _ from ⟨_, rfl⟩), ?_⟩
      refine ⟨(show PX_RB_5 _ from ⟨_, rfl⟩), ?_⟩
      refine ⟨(show PX_RB_6 _ from ⟨_, rfl⟩), ?_⟩
      refine ⟨(show PX_RB_7 _ from ⟨_, rfl⟩), ?_⟩
      refine ⟨(show PX_RY _ from ⟨_, rfl, (by first | assumption | omega | exact q_rg_cpy (by assumption) (by assumption) | exact hp.1 | exact hp.2.1 | exact hp.2.2.1 | exact hp.2.2.2.1 | exact hp.2.2.2.2.1 | exact hp.2.2.2.2.2.1 | exact hp.2.2.2.2.2.2.1)⟩), ?_⟩
      refine ⟨(show PX_RY_1 _ from ⟨_, rfl⟩), ?_⟩
      refine ⟨(show PX_RY_2 _ from ⟨_, rfl⟩), ?_⟩
      refine ⟨(show PX_RY_3 _ from ⟨_, rfl⟩), ?_⟩
      refine ⟨(show PX_RY_4 _ from ⟨_, rfl⟩), ?_⟩
      refine ⟨(show PX_RL _ from ⟨_, rfl⟩), ?_⟩
      refine ⟨(show PX_RL_1 _ from ⟨_, rfl⟩), ?_⟩
      refine ⟨(show PX_RS _ from ⟨_, rfl, (by first | assumption | omega | exact q_rg_cpy (by assumption) (by assumption) | exact hp.1 | exact hp.2.1 | exact hp.2.2.1 | exact hp.2.2.2.1 | exact hp.2.2.2.2.1 | exact hp.2.2.2.2.2.1 | exact hp.2.2.2.2.2.2.1)⟩), ?_⟩
      refine ⟨(show PX_RS_1 _ from ⟨_, rfl⟩), ?_⟩
      refine ⟨(show PX_RS_2 _ from ⟨_, rfl⟩), ?_⟩
      exact trivial

def sL_cpB0 (ln : Int) (siz kp : Nat → Int) : qS := spV (LC ln siz kp) (fun _ r => r = none) (fun av => av = [q2 8, q2 48])
set_option maxHeartbeats 2000000 in
set_option maxRecDepth 100000 in
theorem mL_cpB0 (l : Launch) (ln : Int) (siz kp : Nat → Int) : q_M l yX0_copy cX0_copy 2 none 1 68 (sL_cpB0 ln siz kp) := by
  refine q_M_mono (fun av w Q h9 => ?_) (q_M_fr (m_X0_copy l))
  obtain ⟨h9, rfl, hQ9⟩ := h9
  obtain ⟨_, e9_0, b0u0, b0u1, b0u2, b0u3, b0u4, rfl, i9_0_0⟩ := h9 8 _ rfl
  obtain ⟨_, e9_1, b0f1, rfl⟩ := h9 9 _ rfl
  obtain ⟨_, e9_2, b0f2, rfl⟩ := h9 10 _ rfl
  obtain ⟨_, e9_3, b0f3, rfl, i9_3_0⟩ := h9 11 _ rfl
  obtain ⟨_, e9_4, b0f4, rfl⟩ := h9 12 _ rfl
  obtain ⟨_, e9_5, b0f5, rfl⟩ := h9 13 _ rfl
  obtain ⟨_, e9_6, b0f6, rfl⟩ := h9 14 _ rfl
  obtain ⟨_, e9_7, b0f7, rfl⟩ := h9 15 _ rfl
  obtain ⟨_, e9_8, rbu0, rbu1, rbu2, rbu3, rbu4, rfl, i9_8_0⟩ := h9 48 _ rfl
  obtain ⟨_, e9_9, rbf1, rfl⟩ := h9 49 _ rfl
  obtain ⟨_, e9_10, rbf2, rfl⟩ := h9 50 _ rfl
  obtain ⟨_, e9_11, rbf3, rfl, i9_11_0⟩ := h9 51 _ rfl
  obtain ⟨_, e9_12, rbf4, rfl⟩ := h9 52 _ rfl
  obtain ⟨_, e9_13, rbf5, rfl⟩ := h9 53 _ rfl
  obtain ⟨_, e9_14, rbf6, rfl⟩ := h9 54 _ rfl
  obtain ⟨_, e9_15, rbf7, rfl⟩ := h9 55 _ rfl
  refine ⟨[8, 9, 10, 11, 12, 13, 14, 15, 48, 49, 50, 51, 52, 53, 54, 55], [q2 0, q2 8], (wBo 0 b0f1 b0f2 b0f3 b0f4 b0f5 b0f6 b0f7 b0u0 b0u1 b0u2 b0u3 b0u4 ++ wBo 8 rbf1 rbf2 rbf3 rbf4 rbf5 rbf6 rbf7 rbu0 rbu1 rbu2 rbu3 rbu4), rfl, ?_, rfl, ?_⟩
  · show [w[8]?, w[9]?, w[10]?, w[11]?, w[12]?, w[13]?, w[14]?, w[15]?, w[48]?, w[49]?, w[50]?, w[51]?, w[52]?, w[53]?, w[54]?, w[55]?] = _
    rw [e9_0, e9_1, e9_2, e9_3, e9_4, e9_5, e9_6, e9_7, e9_8, e9_9, e9_10, e9_11, e9_12, e9_13, e9_14, e9_15]
    rfl
  · refine ⟨b0f1, b0f2, b0f3, b0f4, b0f5, b0f6, b0f7, b0u0, b0u1, b0u2, b0u3, b0u4, rbf1, rbf2, rbf3, rbf4, rbf5, rbf6, rbf7, rbu0, rbu1, rbu2, rbu3, rbu4, rfl, rfl, fun hlen => ?_⟩
    refine hQ9 _ _ (PW_bw h9 rfl ?_) (by rw [q_bw_len]) (bw_out rfl) rfl
    refine ⟨(show PX_B0 _ from ⟨_, _, _, _, _, rfl, (by first | assumption | omega | exact q_rg_cpy (by assumption) (by assumption) | exact hp.1 | exact hp.2.1 | exact hp.2.2.1 | exact hp.2.2.2.1 | exact hp.2.2.2.2.1 | exact hp.2.2.2.2.2.1 | exact hp.2.2.2.2.2.2.1)⟩), ?_⟩
    refine ⟨(show PX_B0_1 _ from ⟨_, rfl⟩), ?_⟩
    refine ⟨(show PX_B0_2 _ from ⟨_, rfl⟩), ?_⟩
    refine ⟨(show PX_B0_3 _ from ⟨_, rfl, (by first | assumption | omega | exact q_rg_cpy (by assumption) (by assumption) | exact hp.1 | exact hp.2.1 | exact hp.2.2.1 | exact hp.2.2.2.1 | exact hp.2.2.2.2.1 | exact hp.2.2.2.2.2.1 | exact hp.2.2.2.2.2.2.1)⟩), ?_⟩
    refine ⟨(show PX_B0_4 _ from ⟨_, rfl⟩), ?_⟩
    refine ⟨(show PX_B0_5 _ from ⟨_, rfl⟩), ?_⟩
    refine ⟨(show PX_B0_6 _ from ⟨_, rfl⟩), ?_⟩
    refine ⟨(show PX_B0_7 _ from ⟨_, rfl⟩), ?_⟩
    refine ⟨(show PX_RB _ from ⟨_, _, _, _, _, rfl, (by first | assumption | omega | exact q_rg_cpy (by assumption) (by assumption) | exact hp.1 | exact hp.2.1 | exact hp.2.2.1 | exact hp.2.2.2.1 | exact hp.2.2.2.2.1 | exact hp.2.2.2.2.2.1 | exact hp.2.2.2.2.2.2.1)⟩), ?_⟩
    refine ⟨(show PX_RB_1 _ from ⟨_, rfl⟩), ?_⟩
    refine ⟨(show PX_RB_2 _ from ⟨_, rfl⟩), ?_⟩
    refine ⟨(show PX_RB_3 _ from ⟨_, rfl, (by first | assumption | omega | exact q_rg_cpy (by assumption) (by assumption) | exact hp.1 | exact hp.2.1 | exact hp.2.2.1 | exact hp.2.2.2.1 | exact hp.2.2.2.2.1 | exact hp.2.2.2.2.2.1 | exact hp.2.2.2.2.2.2.1)⟩), ?_⟩
    refine ⟨(show PX_RB_4 _ from ⟨_, rfl⟩), ?_⟩
    refine ⟨(show PX_RB_5 _ from ⟨_, rfl⟩), ?_⟩
    refine ⟨(show PX_RB_6 _ from ⟨_, rfl⟩), ?_⟩
    refine ⟨(show PX_RB_7 _ from ⟨_, rfl⟩), ?_⟩
    exact trivial

def sL_cpB1 (ln : Int) (siz kp : Nat → Int) : qS := spV (LC ln siz kp) (fun _ r => r = none) (fun av => av = [q2 16, q2 48])
set_option maxHeartbeats 2000000 in
set_option maxRecDepth 100000 in
theorem mL_cpB1 (l : Launch) (ln : Int) (siz kp : Nat → Int) : q_M l yX0_copy cX0_copy 2 none 1 68 (sL_cpB1 ln siz kp) := by
  refine q_M_mono (fun av w Q h9 => ?_) (q_M_fr (m_X0_copy l))
  obtain ⟨h9, rfl, hQ9⟩ := h9
  obtain ⟨_, e9_0, b1u0, b1u1, b1u2, b1u3, b1u4, rfl, i9_0_0⟩ := h9 16 _ rfl
  obtain ⟨_, e9_1, b1f1, rfl⟩ := h9 17 _ rfl
  obtain ⟨_, e9_2, b1f2, rfl⟩ := h9 18 _ rfl
  obtain ⟨_, e9_3, b1f3, rfl, i9_3_0⟩ := h9 19 _ rfl
  obtain ⟨_, e9_4, b1f4, rfl⟩ := h9 20 _ rfl
  obtain ⟨_, e9_5, b1f5, rfl⟩ := h9 21 _ rfl
  obtain ⟨_, e9_6, b1f6, rfl⟩ := h9 22 _ rfl
  obtain ⟨_, e9_7, b1f7, rfl⟩ := h9 23 _ rfl
  obtain ⟨_, e9_8, rbu0, rbu1, rbu2, rbu3, rbu4, rfl, i9_8_0⟩ := h9 48 _ rfl
  obtain ⟨_, e9_9, rbf1, rfl⟩ := h9 49 _ rfl
  obtain ⟨_, e9_10, rbf2, rfl⟩ := h9 50 _ rfl
  obtain ⟨_, e9_11, rbf3, rfl, i9_11_0⟩ := h9 51 _ rfl
  obtain ⟨_, e9_12, rbf4, rfl⟩ := h9 52 _ rfl
  obtain ⟨_, e9_13, rbf5, rfl⟩ := h9 53 _ rfl
  obtain ⟨_, e9_14, rbf6, rfl⟩ := h9 54 _ rfl
  obtain ⟨_, e9_15, rbf7, rfl⟩ := h9 55 _ rfl
  refine ⟨[16, 17, 18, 19, 20, 21, 22, 23, 48, 49, 50, 51, 52, 53, 54, 55], [q2 0, q2 8], (wBo 0 b1f1 b1f2 b1f3 b1f4 b1f5 b1f6 b1f7 b1u0 b1u1 b1u2 b1u3 b1u4 ++ wBo 8 rbf1 rbf2 rbf3 rbf4 rbf5 rbf6 rbf7 rbu0 rbu1 rbu2 rbu3 rbu4), rfl, ?_, rfl, ?_⟩
  · show [w[16]?, w[17]?, w[18]?, w[19]?, w[20]?, w[21]?, w[22]?, w[23]?, w[48]?, w[49]?, w[50]?, w[51]?, w[52]?, w[53]?, w[54]?, w[55]?] = _
    rw [e9_0, e9_1, e9_2, e9_3, e9_4, e9_5, e9_6, e9_7, e9_8, e9_9, e9_10, e9_11, e9_12, e9_13, e9_14, e9_15]
    rfl
  · refine ⟨b1f1, b1f2, b1f3, b1f4, b1f5, b1f6, b1f7, b1u0, b1u1, b1u2, b1u3, b1u4, rbf1, rbf2, rbf3, rbf4, rbf5, rbf6, rbf7, rbu0, rbu1, rbu2, rbu3, rbu4, rfl, rfl, fun hlen => ?_⟩
    refine hQ9 _ _ (PW_bw h9 rfl ?_) (by rw [q_bw_len]) (bw_out rfl) rfl
    refine ⟨(show PX_B1 _ from ⟨_, _, _, _, _, rfl, (by first | assumption | omega | exact q_rg_cpy (by assumption) (by assumption) | exact hp.1 | exact hp.2.1 | exact hp.2.2.1 | exact hp.2.2.2.1 | exact hp.2.2.2.2.1 | exact hp.2.2.2.2.2.1 | exact hp.2.2.2.2.2.2.1)⟩), ?_⟩
    refine ⟨(show PX_B1_1 _ from ⟨_, rfl⟩), ?_⟩
    refine ⟨(show PX_B1_2 _ from ⟨_, rfl⟩), ?_⟩
    refine ⟨(show PX_B1_3 _ from ⟨_, rfl, (by first | assumption | omega | exact q_rg_cpy (by assumption) (by assumption) | exact hp.1 | exact hp.2.1 | exact hp.2.2.1 | exact hp.2.2.2.1 | exact hp.2.2.2.2.1 | exact hp.2.2.2.2.2.1 | exact hp.2.2.2.2.2.2.1)⟩), ?_⟩
    refine ⟨(show PX_B1_4 _ from ⟨_, rfl⟩), ?_⟩
    refine ⟨(show PX_B1_5 _ from ⟨_, rfl⟩), ?_⟩
    refine ⟨(show PX_B1_6 _ from ⟨_, rfl⟩), ?_⟩
    refine ⟨(show PX_B1_7 _ from ⟨_, rfl⟩), ?_⟩
    refine ⟨(show PX_RB _ from ⟨_, _, _, _, _, rfl, (by first | assumption | omega | exact q_rg_cpy (by assumption) (by assumption) | exact hp.1 | exact hp.2.1 | exact hp.2.2.1 | exact hp.2.2.2.1 | exact hp.2.2.2.2.1 | exact hp.2.2.2.2.2.1 | exact hp.2.2.2.2.2.2.1)⟩), ?_⟩
    refine ⟨(show PX_RB_1 _ from ⟨_, rfl⟩), ?_⟩
    refine ⟨(show PX_RB_2 _ from ⟨_, rfl⟩), ?_⟩
    refine ⟨(show PX_RB_3 _ from ⟨_, rfl, (by first | assumption | omega | exact q_rg_cpy (by assumption) (by assumption) | exact hp.1 | exact hp.2.1 | exact hp.2.2.1 | exact hp.2.2.2.1 | exact hp.2.2.2.2.1 | exact hp.2.2.2.2.2.1 | exact hp.2.2.2.2.2.2.1)⟩), ?_⟩
    refine ⟨(show PX_RB_4 _ from ⟨_, rfl⟩), ?_⟩
    refine ⟨(show PX_RB_5 _ from ⟨_, rfl⟩), ?_⟩
    refine ⟨(show PX_RB_6 _ from ⟨_, rfl⟩), ?_⟩
    refine ⟨(show PX_RB_7 _ from ⟨_, rfl⟩), ?_⟩
    exact trivial

def sL_cpB (ln : Int) (siz kp : Nat → Int) : qS := spV (LC ln siz kp) (fun _ r => r = none) (fun av => av = [q2 8, q2 48] ∨ av = [q2 16, q2 48])
theorem mL_cpB (l : Launch) (ln : Int) (siz kp : Nat → Int) : q_M l yX0_copy cX0_copy 2 none 1 68 (sL_cpB ln siz kp) := by
  intro dC dI k g av w Q sz hs oka okw
  obtain ⟨h1, h2 | h2, h3⟩ := hs
  · exact mL_cpB0 l ln siz kp dC dI k g av w Q sz ⟨h1, h2, h3⟩ oka okw
  · exact mL_cpB1 l ln siz kp dC dI k g av w Q sz ⟨h1, h2, h3⟩ oka okw

def sL_cpY0 (ln : Int) (siz kp : Nat → Int) : qS := spV (LC ln siz kp) (fun _ r => r = none) (fun av => av = [q2 24, q2 56])
set_option maxHeartbeats 2000000 in
set_option maxRecDepth 100000 in
theorem mL_cpY0 (l : Launch) (ln : Int) (siz kp : Nat → Int) : q_M l yX10_copy cX10_copy 2 none 1 68 (sL_cpY0 ln siz kp) := by
  refine q_M_mono (fun av w Q h9 => ?_) (q_M_fr (m_X10_copy l))
  obtain ⟨h9, rfl, hQ9⟩ := h9
  obtain ⟨_, e9_0, y0d, rfl, i9_0_0⟩ := h9 24 _ rfl
  obtain ⟨_, e9_1, y0k1, rfl⟩ := h9 25 _ rfl
  obtain ⟨_, e9_2, y0k2, rfl⟩ := h9 26 _ rfl
  obtain ⟨_, e9_3, y0k3, rfl⟩ := h9 27 _ rfl
  obtain ⟨_, e9_4, y0k4, rfl⟩ := h9 28 _ rfl
  obtain ⟨_, e9_5, ryd, rfl, i9_5_0⟩ := h9 56 _ rfl
  obtain ⟨_, e9_6, ryk1, rfl⟩ := h9 57 _ rfl
  obtain ⟨_, e9_7, ryk2, rfl⟩ := h9 58 _ rfl
  obtain ⟨_, e9_8, ryk3, rfl⟩ := h9 59 _ rfl
  obtain ⟨_, e9_9, ryk4, rfl⟩ := h9 60 _ rfl
  refine ⟨[24, 25, 26, 27, 28, 56, 57, 58, 59, 60], [q2 0, q2 5], (wYo 0 y0k1 y0k2 y0k3 y0k4 y0d ++ wYo 5 ryk1 ryk2 ryk3 ryk4 ryd), rfl, ?_, rfl, ?_⟩
  · show [w[24]?, w[25]?, w[26]?, w[27]?, w[28]?, w[56]?, w[57]?, w[58]?, w[59]?, w[60]?] = _
    rw [e9_0, e9_1, e9_2, e9_3, e9_4, e9_5, e9_6, e9_7, e9_8, e9_9]
    rfl
  · refine ⟨y0k1, y0k2, y0k3, y0k4, y0d, ryk1, ryk2, ryk3, ryk4, ryd, rfl, rfl, fun hlen => ?_⟩
    refine hQ9 _ _ (PW_bw h9 rfl ?_) (by rw [q_bw_len]) (bw_out rfl) rfl
    refine ⟨(show PX_Y0 _ from ⟨_, rfl, (by first | assumption | omega | exact q_rg_cpy (by assumption) (by assumption) | exact hp.1 | exact hp.2.1 | exact hp.2.2.1 | exact hp.2.2.2.1 | exact hp.2.2.2.2.1 | exact hp.2.2.2.2.2.1 | exact hp.2.2.2.2.2.2.1)⟩), ?_⟩
    refine ⟨(show PX_Y0_1 _ from ⟨_, rfl⟩), ?_⟩
    refine ⟨(show PX_Y0_2 _ from ⟨_, rfl⟩), ?_⟩
    refine ⟨(show PX_Y0_3 _ from ⟨_, rfl⟩), ?_⟩
    refine ⟨(show PX_Y0_4 _ from ⟨_, rfl⟩), ?_⟩
    refine ⟨(show PX_RY _ from ⟨_, rfl, (by first | assumption | omega | exact q_rg_cpy (by assumption) (by assumption) | exact hp.1 | exact hp.2.1 | exact hp.2.2.1 | exact hp.2.2.2.1 | exact hp.2.2.2.2.1 | exact hp.2.2.2.2.2.1 | exact hp.2.2.2.2.2.2.1)⟩), ?_⟩
    refine ⟨(show PX_RY_1 _ from ⟨_, rfl⟩), ?_⟩
    refine ⟨(show PX_RY_2 _ from ⟨_, rfl⟩), ?_⟩
    refine ⟨(show PX_RY_3 _ from ⟨_, rfl⟩), ?_⟩
    refine ⟨(show PX_RY_4 _ from ⟨_, rfl⟩), ?_⟩
    exact trivial

def sL_cpY1 (ln : Int) (siz kp : Nat → Int) : qS := spV (LC ln siz kp) (fun _ r => r = none) (fun av => av = [q2 29, q2 56])
set_option maxHeartbeats 2000000 in
set_option maxRecDepth 100000 in
theorem mL_cpY1 (l : Launch) (ln : Int) (siz kp : Nat → Int) : q_M l yX10_copy cX10_copy 2 none 1 68 (sL_cpY1 ln siz kp) := by
  refine q_M_mono (fun av w Q h9 => ?_) (q_M_fr (m_X10_copy l))
  obtain ⟨h9, rfl, hQ9⟩ := h9
  obtain ⟨_, e9_0, y1d, rfl, i9_0_0⟩ := h9 29 _ rfl
  obtain ⟨_, e9_1, y1k1, rfl⟩ := h9 30 _ rfl
  obtain ⟨_, e9_2, y1k2, rfl⟩ := h9 31 _ rfl
  obtain ⟨_, e9_3, y1k3, rfl⟩ := h9 32 _ rfl
  obtain ⟨_, e9_4, y1k4, rfl⟩ := h9 33 _ rfl
  obtain ⟨_, e9_5, ryd, rfl, i9_5_0⟩ := h9 56 _ rfl
  obtain ⟨_, e9_6, ryk1, rfl⟩ := h9 57 _ rfl
  obtain ⟨_, e9_7, ryk2, rfl⟩ := h9 58 _ rfl
  obtain ⟨_, e9_8, ryk3, rfl⟩ := h9 59 _ rfl
  obtain ⟨_, e9_9, ryk4, rfl⟩ := h9 60 _ rfl
  refine ⟨[29, 30, 31, 32, 33, 56, 57, 58, 59, 60], [q2 0, q2 5], (wYo 0 y1k1 y1k2 y1k3 y1k4 y1d ++ wYo 5 ryk1 ryk2 ryk3 ryk4 ryd), rfl, ?_, rfl, ?_⟩
  · show [w[29]?, w[30]?, w[31]?, w[32]?, w[33]?, w[56]?, w[57]?, w[58]?, w[59]?, w[60]?] = _
    rw [e9_0, e9_1, e9_2, e9_3, e9_4, e9_5, e9_6, e9_7, e9_8, e9_9]
    rfl
  · refine ⟨y1k1, y1k2, y1k3, y1k4, y1d, ryk1, ryk2, ryk3, ryk4, ryd, rfl, rfl, fun hlen => ?_⟩
    refine hQ9 _ _ (PW_bw h9 rfl ?_) (by rw [q_bw_len]) (bw_out rfl) rfl
    refine ⟨(show PX_Y1 _ from ⟨_, rfl, (by first | assumption | omega | exact q_rg_cpy (by assumption) (by assumption) | exact hp.1 | exact hp.2.1 | exact hp.2.2.1 | exact hp.2.2.2.1 | exact hp.2.2.2.2.1 | exact hp.2.2.2.2.2.1 | exact hp.2.2.2.2.2.2.1)⟩), ?_⟩
    refine ⟨(show PX_Y1_1 _ from ⟨_, rfl⟩), ?_⟩
    refine ⟨(show PX_Y1_2 _ from ⟨_, rfl⟩), ?_⟩
    refine ⟨(show PX_Y1_3 _ from ⟨_, rfl⟩), ?_⟩
    refine ⟨(show PX_Y1_4 _ from ⟨_, rfl⟩), ?_⟩
    refine ⟨(show PX_RY _ from ⟨_, rfl, (by first | assumption | omega | exact q_rg_cpy (by assumption) (by assumption) | exact hp.1 | exact hp.2.1 | exact hp.2.2.1 | exact hp.2.2.2.1 | exact hp.2.2.2.2.1 | exact hp.2.2.2.2.2.1 | exact hp.2.2.2.2.2.2.1)⟩), ?_⟩
    refine ⟨(show PX_RY_1 _ from ⟨_, rfl⟩), ?_⟩
    refine ⟨(show PX_RY_2 _ from ⟨_, rfl⟩), ?_⟩
    refine ⟨(show PX_RY_3 _ from ⟨_, rfl⟩), ?_⟩
    refine ⟨(show PX_RY_4 _ from ⟨_, rfl⟩), ?_⟩
    exact trivial

def sL_cpY (ln : Int) (siz kp : Nat → Int) : qS := spV (LC ln siz kp) (fun _ r => r = none) (fun av => av = [q2 24, q2 56] ∨ av = [q2 29, q2 56])
theorem mL_cpY (l : Launch) (ln : Int) (siz kp : Nat → Int) : q_M l yX10_copy cX10_copy 2 none 1 68 (sL_cpY ln siz kp) := by
  intro dC dI k g av w Q sz hs oka okw
  obtain ⟨h1, h2 | h2, h3⟩ := hs
  · exact mL_cpY0 l ln siz kp dC dI k g av w Q sz ⟨h1, h2, h3⟩ oka okw
  · exact mL_cpY1 l ln siz kp dC dI k g av w Q sz ⟨h1, h2, h3⟩ oka okw

def sL_cpL0 (ln : Int) (siz kp : Nat → Int) : qS := spV (LC ln siz kp) (fun _ r => r = none) (fun av => av = [q2 34, q2 61])
set_option maxHeartbeats 2000000 in
set_option maxRecDepth 100000 in
theorem mL_cpL0 (l : Launch) (ln : Int) (siz kp : Nat → Int) : q_M l yX3_copy cX3_copy 2 none 1 68 (sL_cpL0 ln siz kp) := by
  refine q_M_mono (fun av w Q h9 => ?_) (q_M_fr (m_X3_copy l))
  obtain ⟨h9, rfl, hQ9⟩ := h9
  obtain ⟨_, e9_0, l0o, rfl⟩ := h9 34 _ rfl
  obtain ⟨_, e9_1, l0g, rfl⟩ := h9 35 _ rfl
  obtain ⟨_, e9_2, rlo, rfl⟩ := h9 61 _ rfl
  obtain ⟨_, e9_3, rlg, rfl⟩ := h9 62 _ rfl
  refine ⟨[34, 35, 61, 62], [q2 0, q2 2], (wLo 0 l0g l0o ++ wLo 2 rlg rlo), rfl, ?_, rfl, ?_⟩
  · show [w[34]?, w[35]?, w[61]?, w[62]?] = _
    rw [e9_0, e9_1, e9_2, e9_3]
    rfl
  · refine ⟨l0g, l0o, rlg, rlo, rfl, rfl, fun hlen => ?_⟩
    refine hQ9 _ _ (PW_bw h9 rfl ?_) (by rw [q_bw_len]) (bw_out rfl) rfl
    refine ⟨(show PX_L0 _ from ⟨_, rfl⟩), ?_⟩
    refine ⟨(show PX_L0_1 _ from ⟨_, rfl⟩), ?_⟩
    refine ⟨(show PX_RL _ from ⟨_, rfl⟩), ?_⟩
    refine ⟨(show PX_RL_1 _ from ⟨_, rfl⟩), ?_⟩
    exact trivial

def sL_cpL1 (ln : Int) (siz kp : Nat → Int) : qS := spV (LC ln siz kp) (fun _ r => r = none) (fun av => av = [q2 36, q2 61])
set_option maxHeartbeats 2000000 in
set_option maxRecDepth 100000 in
theorem mL_cpL1 (l : Launch) (ln : Int) (siz kp : Nat → Int) : q_M l yX3_copy cX3_copy 2 none 1 68 (sL_cpL1 ln siz kp) := by
  refine q_M_mono (fun av w Q h9 => ?_) (q_M_fr (m_X3_copy l))
  obtain ⟨h9, rfl, hQ9⟩ := h9
  obtain ⟨_, e9_0, l1o, rfl⟩ := h9 36 _ rfl
  obtain ⟨_, e9_1, l1g, rfl⟩ := h9 37 _ rfl
  obtain ⟨_, e9_2, rlo, rfl⟩ := h9 61 _ rfl
  obtain ⟨_, e9_3, rlg, rfl⟩ := h9 62 _ rfl
  refine ⟨[36, 37, 61, 62], [q2 0, q2 2], (wLo 0 l1g l1o ++ wLo 2 rlg rlo), rfl, ?_, rfl, ?_⟩
  · show [w[36]?, w[37]?, w[61]?, w[62]?] = _
    rw [e9_0, e9_1, e9_2, e9_3]
    rfl
  · refine ⟨l1g, l1o, rlg, rlo, rfl, rfl, fun hlen => ?_⟩
    refine hQ9 _ _ (PW_bw h9 rfl ?_) (by rw [q_bw_len]) (bw_out rfl) rfl
    refine ⟨(show PX_L1 _ from ⟨_, rfl⟩), ?_⟩
    refine ⟨(show PX_L1_1 _ from ⟨_, rfl⟩), ?_⟩
    refine ⟨(show PX_RL _ from ⟨_, rfl⟩), ?_⟩
    refine ⟨(show PX_RL_1 _ from ⟨_, rfl⟩), ?_⟩
    exact trivial

def sL_cpL (ln : Int) (siz kp : Nat → Int) : qS := spV (LC ln siz kp) (fun _ r => r = none) (fun av => av = [q2 34, q2 61] ∨ av = [q2 36, q2 61])
theorem mL_cpL (l : Launch) (ln : Int) (siz kp : Nat → Int) : q_M l yX3_copy cX3_copy 2 none 1 68 (sL_cpL ln siz kp) := by
  intro dC dI k g av w Q sz hs oka okw
  obtain ⟨h1, h2 | h2, h3⟩ := hs
  · exact mL_cpL0 l ln siz kp dC dI k g av w Q sz ⟨h1, h2, h3⟩ oka okw
  · exact mL_cpL1 l ln siz kp dC dI k g av w Q sz ⟨h1, h2, h3⟩ oka okw

def sL_cpS0 (ln : Int) (siz kp : Nat → Int) : qS := spV (LC ln siz kp) (fun _ r => r = none) (fun av => av = [q2 38, q2 63])
set_option maxHeartbeats 2000000 in
set_option maxRecDepth 100000 in
theorem mL_cpS0 (l : Launch) (ln : Int) (siz kp : Nat → Int) : q_M l yX7_copy cX7_copy 2 none 1 68 (sL_cpS0 ln siz kp) := by
  refine q_M_mono (fun av w Q h9 => ?_) (q_M_fr (m_X7_copy l))
  obtain ⟨h9, rfl, hQ9⟩ := h9
  obtain ⟨_, e9_0, s0c, rfl, i9_0_0⟩ := h9 38 _ rfl
  obtain ⟨_, e9_1, s0p, rfl⟩ := h9 39 _ rfl
  obtain ⟨_, e9_2, s0t, rfl⟩ := h9 40 _ rfl
  obtain ⟨_, e9_3, rsc, rfl, i9_3_0⟩ := h9 63 _ rfl
  obtain ⟨_, e9_4, rsp, rfl⟩ := h9 64 _ rfl
  obtain ⟨_, e9_5, rsq, rfl⟩ := h9 65 _ rfl
  refine ⟨[38, 39, 40, 63, 64, 65], [q2 0, q2 3], (wSo 0 s0p s0t s0c ++ wSo 3 rsp rsq rsc), rfl, ?_, rfl, ?_⟩
  · show [w[38]?, w[39]?, w[40]?, w[63]?, w[64]?, w[65]?] = _
    rw [e9_0, e9_1, e9_2, e9_3, e9_4, e9_5]
    rfl
  · refine ⟨s0p, s0t, s0c, rsp, rsq, rsc, rfl, rfl, fun hlen => ?_⟩
    refine hQ9 _ _ (PW_bw h9 rfl ?_) (by rw [q_bw_len]) (bw_out rfl) rfl
    refine ⟨(show PX_S0 _ from ⟨_, rfl, (by first | assumption | omega | exact q_rg_cpy (by assumption) (by assumption) | exact hp.1 | exact hp.2.1 | exact hp.2.2.1 | exact hp.2.2.2.1 | exact hp.2.2.2.2.1 | exact hp.2.2.2.2.2.1 | exact hp.2.2.2.2.2.2.1)⟩), ?_⟩
    refine ⟨(show PX_S0_1 _ from ⟨_, rfl⟩), ?_⟩
    refine ⟨(show PX_S0_2 _ from ⟨_, rfl⟩), ?_⟩
    refine ⟨(show PX_RS _ from ⟨_, rfl, (by first | assumption | omega | exact q_rg_cpy (by assumption) (by assumption) | exact hp.1 | exact hp.2.1 | exact hp.2.2.1 | exact hp.2.2.2.1 | exact hp.2.2.2.2.1 | exact hp.2.2.2.2.2.1 | exact hp.2.2.2.2.2.2.1)⟩), ?_⟩
    refine ⟨(show PX_RS_1 _ from ⟨_, rfl⟩), ?_⟩
    refine ⟨(show PX_RS_2 _ from ⟨_, rfl⟩), ?_⟩
    exact trivial

def sL_cpS1 (ln : Int) (siz kp : Nat → Int) : qS := spV (LC ln siz kp) (fun _ r => r = none) (fun av => av = [q2 41, q2 63])
set_option maxHeartbeats 2000000 in
set_option maxRecDepth 100000 in
theorem mL_cpS1 (l : Launch) (ln : Int) (siz kp : Nat → Int) : q_M l yX7_copy cX7_copy 2 none 1 68 (sL_cpS1 ln siz kp) := by
  refine q_M_mono (fun av w Q h9 => ?_) (q_M_fr (m_X7_copy l))
  obtain ⟨h9, rfl, hQ9⟩ := h9
  obtain ⟨_, e9_0, s1c, rfl, i9_0_0⟩ := h9 41 _ rfl
  obtain ⟨_, e9_1, s1p, rfl⟩ := h9 42 _ rfl
  obtain ⟨_, e9_2, s1t, rfl⟩ := h9 43 _ rfl
  obtain ⟨_, e9_3, rsc, rfl, i9_3_0⟩ := h9 63 _ rfl
  obtain ⟨_, e9_4, rsp, rfl⟩ := h9 64 _ rfl
  obtain ⟨_, e9_5, rsq, rfl⟩ := h9 65 _ rfl
  refine ⟨[41, 42, 43, 63, 64, 65], [q2 0, q2 3], (wSo 0 s1p s1t s1c ++ wSo 3 rsp rsq rsc), rfl, ?_, rfl, ?_⟩
  · show [w[41]?, w[42]?, w[43]?, w[63]?, w[64]?, w[65]?] = _
    rw [e9_0, e9_1, e9_2, e9_3, e9_4, e9_5]
    rfl
  · refine ⟨s1p, s1t, s1c, rsp, rsq, rsc, rfl, rfl, fun hlen => ?_⟩
    refine hQ9 _ _ (PW_bw h9 rfl ?_) (by rw [q_bw_len]) (bw_out rfl) rfl
    refine ⟨(show PX_S1 _ from ⟨_, rfl, (by first | assumption | omega | exact q_rg_cpy (by assumption) (by assumption) | exact hp.1 | exact hp.2.1 | exact hp.2.2.1 | exact hp.2.2.2.1 | exact hp.2.2.2.2.1 | exact hp.2.2.2.2.2.1 | exact hp.2.2.2.2.2.2.1)⟩), ?_⟩
    refine ⟨(show PX_S1_1 _ from ⟨_, rfl⟩), ?_⟩
    refine ⟨(show PX_S1_2 _ from ⟨_, rfl⟩), ?_⟩
    refine ⟨(show PX_RS _ from ⟨_, rfl, (by first | assumption | omega | exact q_rg_cpy (by assumption) (by assumption) | exact hp.1 | exact hp.2.1 | exact hp.2.2.1 | exact hp.2.2.2.1 | exact hp.2.2.2.2.1 | exact hp.2.2.2.2.2.1 | exact hp.2.2.2.2.2.2.1)⟩), ?_⟩
    refine ⟨(show PX_RS_1 _ from ⟨_, rfl⟩), ?_⟩
    refine ⟨(show PX_RS_2 _ from ⟨_, rfl⟩), ?_⟩
    exact trivial

def sL_cpS (ln : Int) (siz kp : Nat → Int) : qS := spV (LC ln siz kp) (fun _ r => r = none) (fun av => av = [q2 38, q2 63] ∨ av = [q2 41, q2 63])
theorem mL_cpS (l : Launch) (ln : Int) (siz kp : Nat → Int) : q_M l yX7_copy cX7_copy 2 none 1 68 (sL_cpS ln siz kp) := by
  intro dC dI k g av w Q sz hs oka okw
  obtain ⟨h1, h2 | h2, h3⟩ := hs
  · exact mL_cpS0 l ln siz kp dC dI k g av w Q sz ⟨h1, h2, h3⟩ oka okw
  · exact mL_cpS1 l ln siz kp dC dI k g av w Q sz ⟨h1, h2, h3⟩ oka okw
