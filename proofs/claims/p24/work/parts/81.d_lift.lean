set_option maxHeartbeats 2000000 in
set_option maxRecDepth 100000 in
theorem mL_X11_stop (l : Launch) (F U : Nat → Nat → Int) : q_M l yX11_stop cX11_stop 5 (some .int) 4 113 (spW F U (fun av => ∃ a b : Int, av = [q2 0, q1 a, q1 b]) rkI) := by
  refine q_M_mono (fun av w Q h9 => ?_) (q_M_fr (m_X11_stop l))
  obtain ⟨h9, ⟨a, b, rfl⟩, hQ9⟩ := h9
  obtain ⟨_, e9_0, rfl⟩ := h9 0 _ rfl
  obtain ⟨_, e9_1, ln, fa, pl, rfl, i9_1_0, i9_1_1⟩ := h9 1 _ rfl
  obtain ⟨_, e9_2, tp, rfl, i9_2_0⟩ := h9 2 _ rfl
  obtain ⟨_, e9_3, ct, rfl, i9_3_0, i9_3_1⟩ := h9 3 _ rfl
  obtain ⟨_, e9_4, rfl⟩ := h9 4 _ rfl
  obtain ⟨_, e9_5, rfl⟩ := h9 5 _ rfl
  obtain ⟨_, e9_6, b0u0, b0u1, b0u2, b0u3, b0u4, rfl, i9_6_0, i9_6_1⟩ := h9 8 _ rfl
  obtain ⟨_, e9_7, b0f1, rfl, i9_7_0⟩ := h9 9 _ rfl
  obtain ⟨_, e9_8, b0f2, rfl, i9_8_0⟩ := h9 10 _ rfl
  obtain ⟨_, e9_9, b0f3, rfl, i9_9_0, i9_9_1⟩ := h9 11 _ rfl
  obtain ⟨_, e9_10, b0f4, rfl, i9_10_0⟩ := h9 12 _ rfl
  obtain ⟨_, e9_11, b0f5, rfl, i9_11_0⟩ := h9 13 _ rfl
  obtain ⟨_, e9_12, b0f6, rfl, i9_12_0⟩ := h9 14 _ rfl
  obtain ⟨_, e9_13, b0f7, rfl, i9_13_0⟩ := h9 15 _ rfl
  obtain ⟨_, e9_14, b1u0, b1u1, b1u2, b1u3, b1u4, rfl, i9_14_0, i9_14_1⟩ := h9 16 _ rfl
  obtain ⟨_, e9_15, b1f1, rfl, i9_15_0⟩ := h9 17 _ rfl
  obtain ⟨_, e9_16, b1f2, rfl, i9_16_0⟩ := h9 18 _ rfl
  obtain ⟨_, e9_17, b1f3, rfl, i9_17_0, i9_17_1⟩ := h9 19 _ rfl
  obtain ⟨_, e9_18, b1f4, rfl, i9_18_0⟩ := h9 20 _ rfl
  obtain ⟨_, e9_19, b1f5, rfl, i9_19_0⟩ := h9 21 _ rfl
  obtain ⟨_, e9_20, b1f6, rfl, i9_20_0⟩ := h9 22 _ rfl
  obtain ⟨_, e9_21, b1f7, rfl, i9_21_0⟩ := h9 23 _ rfl
  obtain ⟨_, e9_22, y0d, rfl, i9_22_0, i9_22_1⟩ := h9 24 _ rfl
  obtain ⟨_, e9_23, y0k1, rfl, i9_23_0⟩ := h9 25 _ rfl
  obtain ⟨_, e9_24, y0k2, rfl, i9_24_0⟩ := h9 26 _ rfl
  obtain ⟨_, e9_25, y0k3, rfl, i9_25_0⟩ := h9 27 _ rfl
  obtain ⟨_, e9_26, y0k4, rfl, i9_26_0⟩ := h9 28 _ rfl
  obtain ⟨_, e9_27, y1d, rfl, i9_27_0, i9_27_1⟩ := h9 29 _ rfl
  obtain ⟨_, e9_28, y1k1, rfl, i9_28_0⟩ := h9 30 _ rfl
  obtain ⟨_, e9_29, y1k2, rfl, i9_29_0⟩ := h9 31 _ rfl
  obtain ⟨_, e9_30, y1k3, rfl, i9_30_0⟩ := h9 32 _ rfl
  obtain ⟨_, e9_31, y1k4, rfl, i9_31_0⟩ := h9 33 _ rfl
  obtain ⟨_, e9_32, wkp, wks, rfl⟩ := h9 66 _ rfl
  obtain ⟨_, e9_33, wkh1, rfl⟩ := h9 67 _ rfl
  obtain ⟨_, e9_34, wkh2, rfl⟩ := h9 68 _ rfl
  obtain ⟨_, e9_35, wkh3, rfl⟩ := h9 69 _ rfl
  refine ⟨[0, 1, 2, 3, 4, 5, 8, 9, 10, 11, 12, 13, 14, 15, 16, 17, 18, 19, 20, 21, 22, 23, 24, 25, 26, 27, 28, 29, 30, 31, 32, 33, 66, 67, 68, 69, 44, 45, 70, 72, 76, 81, 6, 7], [q2 0, q1 a, q1 b], [.inr (11, [q2 1, q2 36, q2 37, q2 32, q2 38, q2 39, q2 40, q2 41]), .inr (8, [q2 2, q2 3, q2 4, q2 5, q2 42, q2 43, q1 ln, q1 fa, q1 pl]), .inl (1, 600, .inl tp), .inl (0, 4, .inl ct), .inl (4, 2, .inr (.inr [some 6, some 14])), .inl (5, 2, .inr (.inr [some 22, some 27])), .inr (0, [q2 7, q2 8, q2 9, q2 10, q2 11, q2 12, q2 13, q1 b0u0, q1 b0u1, q1 b0u2, q1 b0u3, q1 b0u4]), .inl (0, 8, .inl b0f1), .inl (0, 8, .inl b0f2), .inl (0, 4, .inl b0f3), .inl (0, 32, .inl b0f4), .inl (0, 6, .inl b0f5), .inl (0, 6, .inl b0f6), .inl (0, 6, .inl b0f7), .inr (0, [q2 15, q2 16, q2 17, q2 18, q2 19, q2 20, q2 21, q1 b1u0, q1 b1u1, q1 b1u2, q1 b1u3, q1 b1u4]), .inl (0, 8, .inl b1f1), .inl (0, 8, .inl b1f2), .inl (0, 4, .inl b1f3), .inl (0, 32, .inl b1f4), .inl (0, 6, .inl b1f5), .inl (0, 6, .inl b1f6), .inl (0, 6, .inl b1f7), .inr (10, [q2 23, q2 24, q2 25, q2 26, q1 y0d]), .inl (0, 40, .inl y0k1), .inl (0, 40, .inl y0k2), .inl (0, 40, .inl y0k3), .inl (0, 40, .inl y0k4), .inr (10, [q2 28, q2 29, q2 30, q2 31, q1 y1d]), .inl (0, 40, .inl y1k1), .inl (0, 40, .inl y1k2), .inl (0, 40, .inl y1k3), .inl (0, 40, .inl y1k4), .inr (9, [q2 33, q2 34, q2 35, q1 wkp, q1 wks]), .inl (0, 8, .inl wkh1), .inl (0, 512, .inl wkh2), .inl (0, 512, .inl wkh3)], rfl, ?_, rfl, ?_⟩
  · show [w[0]?, w[1]?, w[2]?, w[3]?, w[4]?, w[5]?, w[8]?, w[9]?, w[10]?, w[11]?, w[12]?, w[13]?, w[14]?, w[15]?, w[16]?, w[17]?, w[18]?, w[19]?, w[20]?, w[21]?, w[22]?, w[23]?, w[24]?, w[25]?, w[26]?, w[27]?, w[28]?, w[29]?, w[30]?, w[31]?, w[32]?, w[33]?, w[66]?, w[67]?, w[68]?, w[69]?] = _
    rw [e9_0, e9_1, e9_2, e9_3, e9_4, e9_5, e9_6, e9_7, e9_8, e9_9, e9_10, e9_11, e9_12, e9_13, e9_14, e9_15, e9_16, e9_17, e9_18, e9_19, e9_20, e9_21, e9_22, e9_23, e9_24, e9_25, e9_26, e9_27, e9_28, e9_29, e9_30, e9_31, e9_32, e9_33, e9_34, e9_35]
    rfl
  · refine ⟨tp, ct, ln, fa, pl, b0f1, b0f2, b0f3, b0f4, b0f5, b0f6, b0f7, b0u0, b0u1, b0u2, b0u3, b0u4, b1f1, b1f2, b1f3, b1f4, b1f5, b1f6, b1f7, b1u0, b1u1, b1u2, b1u3, b1u4, y0k1, y0k2, y0k3, y0k4, y0d, y1k1, y1k2, y1k3, y1k4, y1d, wkh1, wkh2, wkh3, wkp, wks, a, b, rfl, rfl, (by first | assumption | omega), (by first | assumption | omega), (by first | assumption | omega), (by first | assumption | omega), (by first | assumption | omega), (by first | assumption | omega), (by first | assumption | omega), (by first | assumption | omega), fun r x_wkh1 x_wkh2 x_wkh3 x_wkp x_wks hlen => ?_⟩
    refine hQ9 _ _ (PW_bw h9 rfl ?_) (by rw [q_bw_len]) (bw_out rfl) ⟨_, rfl⟩
    refine ⟨(show PX_H _ from rfl), ?_⟩
    refine ⟨(show PX_T (U 1) _ from ⟨_, _, _, rfl, (by first | assumption | omega | exact hp.1 | exact hp.2.1 | exact hp.2.2.1 | exact hp.2.2.2.1 | exact hp.2.2.2.2.1 | exact hp.2.2.2.2 | exact hp.2.2.2 | exact hp.2.2 | exact hp.2), (by first | assumption | omega | exact hp.1 | exact hp.2.1 | exact hp.2.2.1 | exact hp.2.2.2.1 | exact hp.2.2.2.2.1 | exact hp.2.2.2.2 | exact hp.2.2.2 | exact hp.2.2 | exact hp.2)⟩), ?_⟩
    refine ⟨(show PX_Ttp (F 2) _ from ⟨_, rfl, (by first | assumption | omega | exact hp.1 | exact hp.2.1 | exact hp.2.2.1 | exact hp.2.2.2.1 | exact hp.2.2.2.2.1 | exact hp.2.2.2.2 | exact hp.2.2.2 | exact hp.2.2 | exact hp.2)⟩), ?_⟩
    refine ⟨(show PX_Tct (F 3) _ from ⟨_, rfl, (by first | assumption | omega | exact hp.1 | exact hp.2.1 | exact hp.2.2.1 | exact hp.2.2.2.1 | exact hp.2.2.2.2.1 | exact hp.2.2.2.2 | exact hp.2.2.2 | exact hp.2.2 | exact hp.2), (by first | assumption | omega | exact hp.1 | exact hp.2.1 | exact hp.2.2.1 | exact hp.2.2.2.1 | exact hp.2.2.2.2.1 | exact hp.2.2.2.2 | exact hp.2.2.2 | exact hp.2.2 | exact hp.2)⟩), ?_⟩
    refine ⟨(show PX_TBa _ from rfl), ?_⟩
    refine ⟨(show PX_TYa _ from rfl), ?_⟩
    refine ⟨(show PX_B0 (U 8) _ from ⟨_, _, _, _, _, rfl, (by first | assumption | omega | exact hp.1 | exact hp.2.1 | exact hp.2.2.1 | exact hp.2.2.2.1 | exact hp.2.2.2.2.1 | exact hp.2.2.2.2 | exact hp.2.2.2 | exact hp.2.2 | exact hp.2), (by first | assumption | omega | exact hp.1 | exact hp.2.1 | exact hp.2.2.1 | exact hp.2.2.2.1 | exact hp.2.2.2.2.1 | exact hp.2.2.2.2 | exact hp.2.2.2 | exact hp.2.2 | exact hp.2)⟩), ?_⟩
    refine ⟨(show PX_B0_1 (F 9) _ from ⟨_, rfl, (by first | assumption | omega | exact hp.1 | exact hp.2.1 | exact hp.2.2.1 | exact hp.2.2.2.1 | exact hp.2.2.2.2.1 | exact hp.2.2.2.2 | exact hp.2.2.2 | exact hp.2.2 | exact hp.2)⟩), ?_⟩
    refine ⟨(show PX_B0_2 (F 10) _ from ⟨_, rfl, (by first | assumption | omega | exact hp.1 | exact hp.2.1 | exact hp.2.2.1 | exact hp.2.2.2.1 | exact hp.2.2.2.2.1 | exact hp.2.2.2.2 | exact hp.2.2.2 | exact hp.2.2 | exact hp.2)⟩), ?_⟩
    refine ⟨(show PX_B0_3 (F 11) _ from ⟨_, rfl, (by first | assumption | omega | exact hp.1 | exact hp.2.1 | exact hp.2.2.1 | exact hp.2.2.2.1 | exact hp.2.2.2.2.1 | exact hp.2.2.2.2 | exact hp.2.2.2 | exact hp.2.2 | exact hp.2), (by first | assumption | omega | exact hp.1 | exact hp.2.1 | exact hp.2.2.1 | exact hp.2.2.2.1 | exact hp.2.2.2.2.1 | exact hp.2.2.2.2 | exact hp.2.2.2 | exact hp.2.2 | exact hp.2)⟩), ?_⟩
    refine ⟨(show PX_B0_4 (F 12) _ from ⟨_, rfl, (by first | assumption | omega | exact hp.1 | exact hp.2.1 | exact hp.2.2.1 | exact hp.2.2.2.1 | exact hp.2.2.2.2.1 | exact hp.2.2.2.2 | exact hp.2.2.2 | exact hp.2.2 | exact hp.2)⟩), ?_⟩
    refine ⟨(show PX_B0_5 (F 13) _ from ⟨_, rfl, (by first | assumption | omega | exact hp.1 | exact hp.2.1 | exact hp.2.2.1 | exact hp.2.2.2.1 | exact hp.2.2.2.2.1 | exact hp.2.2.2.2 | exact hp.2.2.2 | exact hp.2.2 | exact hp.2)⟩), ?_⟩
    refine ⟨(show PX_B0_6 (F 14) _ from ⟨_, rfl, (by first | assumption | omega | exact hp.1 | exact hp.2.1 | exact hp.2.2.1 | exact hp.2.2.2.1 | exact hp.2.2.2.2.1 | exact hp.2.2.2.2 | exact hp.2.2.2 | exact hp.2.2 | exact hp.2)⟩), ?_⟩
    refine ⟨(show PX_B0_7 (F 15) _ from ⟨_, rfl, (by first | assumption | omega | exact hp.1 | exact hp.2.1 | exact hp.2.2.1 | exact hp.2.2.2.1 | exact hp.2.2.2.2.1 | exact hp.2.2.2.2 | exact hp.2.2.2 | exact hp.2.2 | exact hp.2)⟩), ?_⟩
    refine ⟨(show PX_B1 (U 16) _ from ⟨_, _, _, _, _, rfl, (by first | assumption | omega | exact hp.1 | exact hp.2.1 | exact hp.2.2.1 | exact hp.2.2.2.1 | exact hp.2.2.2.2.1 | exact hp.2.2.2.2 | exact hp.2.2.2 | exact hp.2.2 | exact hp.2), (by first | assumption | omega | exact hp.1 | exact hp.2.1 | exact hp.2.2.1 | exact hp.2.2.2.1 | exact hp.2.2.2.2.1 | exact hp.2.2.2.2 | exact hp.2.2.2 | exact hp.2.2 | exact hp.2)⟩), ?_⟩
    refine ⟨(show PX_B1_1 (F 17) _ from ⟨_, rfl, (by first | assumption | omega | exact hp.1 | exact hp.2.1 | exact hp.2.2.1 | exact hp.2.2.2.1 | exact hp.2.2.2.2.1 | exact hp.2.2.2.2 | exact hp.2.2.2 | exact hp.2.2 | exact hp.2)⟩), ?_⟩
    refine ⟨(show PX_B1_2 (F 18) _ from ⟨_, rfl, (by first | assumption | omega | exact hp.1 | exact hp.2.1 | exact hp.2.2.1 | exact hp.2.2.2.1 | exact hp.2.2.2.2.1 | exact hp.2.2.2.2 | exact hp.2.2.2 | exact hp.2.2 | exact hp.2)⟩), ?_⟩
    refine ⟨(show PX_B1_3 (F 19) _ from ⟨_, rfl, (by first | assumption | omega | exact hp.1 | exact hp.2.1 | exact hp.2.2.1 | exact hp.2.2.2.1 | exact hp.2.2.2.2.1 | exact hp.2.2.2.2 | exact hp.2.2.2 | exact hp.2.2 | exact hp.2), (by first | assumption | omega | exact hp.1 | exact hp.2.1 | exact hp.2.2.1 | exact hp.2.2.2.1 | exact hp.2.2.2.2.1 | exact hp.2.2.2.2 | exact hp.2.2.2 | exact hp.2.2 | exact hp.2)⟩), ?_⟩
    refine ⟨(show PX_B1_4 (F 20) _ from ⟨_, rfl, (by first | assumption | omega | exact hp.1 | exact hp.2.1 | exact hp.2.2.1 | exact hp.2.2.2.1 | exact hp.2.2.2.2.1 | exact hp.2.2.2.2 | exact hp.2.2.2 | exact hp.2.2 | exact hp.2)⟩), ?_⟩
    refine ⟨(show PX_B1_5 (F 21) _ from ⟨_, rfl, (by first | assumption | omega | exact hp.1 | exact hp.2.1 | exact hp.2.2.1 | exact hp.2.2.2.1 | exact hp.2.2.2.2.1 | exact hp.2.2.2.2 | exact hp.2.2.2 | exact hp.2.2 | exact hp.2)⟩), ?_⟩
    refine ⟨(show PX_B1_6 (F 22) _ from ⟨_, rfl, (by first | assumption | omega | exact hp.1 | exact hp.2.1 | exact hp.2.2.1 | exact hp.2.2.2.1 | exact hp.2.2.2.2.1 | exact hp.2.2.2.2 | exact hp.2.2.2 | exact hp.2.2 | exact hp.2)⟩), ?_⟩
    refine ⟨(show PX_B1_7 (F 23) _ from ⟨_, rfl, (by first | assumption | omega | exact hp.1 | exact hp.2.1 | exact hp.2.2.1 | exact hp.2.2.2.1 | exact hp.2.2.2.2.1 | exact hp.2.2.2.2 | exact hp.2.2.2 | exact hp.2.2 | exact hp.2)⟩), ?_⟩
    refine ⟨(show PX_Y0 (U 24) _ from ⟨_, rfl, (by first | assumption | omega | exact hp.1 | exact hp.2.1 | exact hp.2.2.1 | exact hp.2.2.2.1 | exact hp.2.2.2.2.1 | exact hp.2.2.2.2 | exact hp.2.2.2 | exact hp.2.2 | exact hp.2), (by first | assumption | omega | exact hp.1 | exact hp.2.1 | exact hp.2.2.1 | exact hp.2.2.2.1 | exact hp.2.2.2.2.1 | exact hp.2.2.2.2 | exact hp.2.2.2 | exact hp.2.2 | exact hp.2)⟩), ?_⟩
    refine ⟨(show PX_Y0_1 (F 25) _ from ⟨_, rfl, (by first | assumption | omega | exact hp.1 | exact hp.2.1 | exact hp.2.2.1 | exact hp.2.2.2.1 | exact hp.2.2.2.2.1 | exact hp.2.2.2.2 | exact hp.2.2.2 | exact hp.2.2 | exact hp.2)⟩), ?_⟩
    refine ⟨(show PX_Y0_2 (F 26) _ from ⟨_, rfl, (by first | assumption | omega | exact hp.1 | exact hp.2.1 | exact hp.2.2.1 | exact hp.2.2.2.1 | exact hp.2.2.2.2.1 | exact hp.2.2.2.2 | exact hp.2.2.2 | exact hp.2.2 | exact hp.2)⟩), ?_⟩
    refine ⟨(show PX_Y0_3 (F 27) _ from ⟨_, rfl, (by first | assumption | omega | exact hp.1 | exact hp.2.1 | exact hp.2.2.1 | exact hp.2.2.2.1 | exact hp.2.2.2.2.1 | exact hp.2.2.2.2 | exact hp.2.2.2 | exact hp.2.2 | exact hp.2)⟩), ?_⟩
    refine ⟨(show PX_Y0_4 (F 28) _ from ⟨_, rfl, (by first | assumption | omega | exact hp.1 | exact hp.2.1 | exact hp.2.2.1 | exact hp.2.2.2.1 | exact hp.2.2.2.2.1 | exact hp.2.2.2.2 | exact hp.2.2.2 | exact hp.2.2 | exact hp.2)⟩), ?_⟩
    refine ⟨(show PX_Y1 (U 29) _ from ⟨_, rfl, (by first | assumption | omega | exact hp.1 | exact hp.2.1 | exact hp.2.2.1 | exact hp.2.2.2.1 | exact hp.2.2.2.2.1 | exact hp.2.2.2.2 | exact hp.2.2.2 | exact hp.2.2 | exact hp.2), (by first | assumption | omega | exact hp.1 | exact hp.2.1 | exact hp.2.2.1 | exact hp.2.2.2.1 | exact hp.2.2.2.2.1 | exact hp.2.2.2.2 | exact hp.2.2.2 | exact hp.2.2 | exact hp.2)⟩), ?_⟩
    refine ⟨(show PX_Y1_1 (F 30) _ from ⟨_, rfl, (by first | assumption | omega | exact hp.1 | exact hp.2.1 | exact hp.2.2.1 | exact hp.2.2.2.1 | exact hp.2.2.2.2.1 | exact hp.2.2.2.2 | exact hp.2.2.2 | exact hp.2.2 | exact hp.2)⟩), ?_⟩
    refine ⟨(show PX_Y1_2 (F 31) _ from ⟨_, rfl, (by first | assumption | omega | exact hp.1 | exact hp.2.1 | exact hp.2.2.1 | exact hp.2.2.2.1 | exact hp.2.2.2.2.1 | exact hp.2.2.2.2 | exact hp.2.2.2 | exact hp.2.2 | exact hp.2)⟩), ?_⟩
    refine ⟨(show PX_Y1_3 (F 32) _ from ⟨_, rfl, (by first | assumption | omega | exact hp.1 | exact hp.2.1 | exact hp.2.2.1 | exact hp.2.2.2.1 | exact hp.2.2.2.2.1 | exact hp.2.2.2.2 | exact hp.2.2.2 | exact hp.2.2 | exact hp.2)⟩), ?_⟩
    refine ⟨(show PX_Y1_4 (F 33) _ from ⟨_, rfl, (by first | assumption | omega | exact hp.1 | exact hp.2.1 | exact hp.2.2.1 | exact hp.2.2.2.1 | exact hp.2.2.2.2.1 | exact hp.2.2.2.2 | exact hp.2.2.2 | exact hp.2.2 | exact hp.2)⟩), ?_⟩
    refine ⟨(show PX_WK _ from ⟨_, _, rfl⟩), ?_⟩
    refine ⟨(show PX_WK_1 _ from ⟨_, rfl⟩), ?_⟩
    refine ⟨(show PX_WK_2 _ from ⟨_, rfl⟩), ?_⟩
    refine ⟨(show PX_WK_3 _ from ⟨_, rfl⟩), ?_⟩
    exact trivial

set_option maxHeartbeats 2000000 in
set_option maxRecDepth 100000 in
theorem mL_X11_state (l : Launch) (F U : Nat → Nat → Int) : q_M l yX11_state cX11_state 6 (some .int) 5 136 (spW F U (fun av => ∃ a b cc dd : Int, av = [q2 0, q1 a, q1 b, q1 cc, q1 dd]) rkI) := by
  refine q_M_mono (fun av w Q h9 => ?_) (q_M_fr (m_X11_state l))
  obtain ⟨h9, ⟨a, b, cc, dd, rfl⟩, hQ9⟩ := h9
  obtain ⟨_, e9_0, rfl⟩ := h9 0 _ rfl
  obtain ⟨_, e9_1, ln, fa, pl, rfl, i9_1_0, i9_1_1⟩ := h9 1 _ rfl
  obtain ⟨_, e9_2, tp, rfl, i9_2_0⟩ := h9 2 _ rfl
  obtain ⟨_, e9_3, ct, rfl, i9_3_0, i9_3_1⟩ := h9 3 _ rfl
  obtain ⟨_, e9_4, rfl⟩ := h9 4 _ rfl
  obtain ⟨_, e9_5, rfl⟩ := h9 5 _ rfl
  obtain ⟨_, e9_6, b0u0, b0u1, b0u2, b0u3, b0u4, rfl, i9_6_0, i9_6_1⟩ := h9 8 _ rfl
  obtain ⟨_, e9_7, b0f1, rfl, i9_7_0⟩ := h9 9 _ rfl
  obtain ⟨_, e9_8, b0f2, rfl, i9_8_0⟩ := h9 10 _ rfl
  obtain ⟨_, e9_9, b0f3, rfl, i9_9_0, i9_9_1⟩ := h9 11 _ rfl
  obtain ⟨_, e9_10, b0f4, rfl, i9_10_0⟩ := h9 12 _ rfl
  obtain ⟨_, e9_11, b0f5, rfl, i9_11_0⟩ := h9 13 _ rfl
  obtain ⟨_, e9_12, b0f6, rfl, i9_12_0⟩ := h9 14 _ rfl
  obtain ⟨_, e9_13, b0f7, rfl, i9_13_0⟩ := h9 15 _ rfl
  obtain ⟨_, e9_14, b1u0, b1u1, b1u2, b1u3, b1u4, rfl, i9_14_0, i9_14_1⟩ := h9 16 _ rfl
  obtain ⟨_, e9_15, b1f1, rfl, i9_15_0⟩ := h9 17 _ rfl
  obtain ⟨_, e9_16, b1f2, rfl, i9_16_0⟩ := h9 18 _ rfl
  obtain ⟨_, e9_17, b1f3, rfl, i9_17_0, i9_17_1⟩ := h9 19 _ rfl
  obtain ⟨_, e9_18, b1f4, rfl, i9_18_0⟩ := h9 20 _ rfl
  obtain ⟨_, e9_19, b1f5, rfl, i9_19_0⟩ := h9 21 _ rfl
  obtain ⟨_, e9_20, b1f6, rfl, i9_20_0⟩ := h9 22 _ rfl
  obtain ⟨_, e9_21, b1f7, rfl, i9_21_0⟩ := h9 23 _ rfl
  obtain ⟨_, e9_22, y0d, rfl, i9_22_0, i9_22_1⟩ := h9 24 _ rfl
  obtain ⟨_, e9_23, y0k1, rfl, i9_23_0⟩ := h9 25 _ rfl
  obtain ⟨_, e9_24, y0k2, rfl, i9_24_0⟩ := h9 26 _ rfl
  obtain ⟨_, e9_25, y0k3, rfl, i9_25_0⟩ := h9 27 _ rfl
  obtain ⟨_, e9_26, y0k4, rfl, i9_26_0⟩ := h9 28 _ rfl
  obtain ⟨_, e9_27, y1d, rfl, i9_27_0, i9_27_1⟩ := h9 29 _ rfl
  obtain ⟨_, e9_28, y1k1, rfl, i9_28_0⟩ := h9 30 _ rfl
  obtain ⟨_, e9_29, y1k2, rfl, i9_29_0⟩ := h9 31 _ rfl
  obtain ⟨_, e9_30, y1k3, rfl, i9_30_0⟩ := h9 32 _ rfl
  obtain ⟨_, e9_31, y1k4, rfl, i9_31_0⟩ := h9 33 _ rfl
  obtain ⟨_, e9_32, wkp, wks, rfl⟩ := h9 66 _ rfl
  obtain ⟨_, e9_33, wkh1, rfl⟩ := h9 67 _ rfl
  obtain ⟨_, e9_34, wkh2, rfl⟩ := h9 68 _ rfl
  obtain ⟨_, e9_35, wkh3, rfl⟩ := h9 69 _ rfl
  refine ⟨[0, 1, 2, 3, 4, 5, 8, 9, 10, 11, 12, 13, 14, 15, 16, 17, 18, 19, 20, 21, 22, 23, 24, 25, 26, 27, 28, 29, 30, 31, 32, 33, 66, 67, 68, 69, 44, 45, 70, 72, 76, 81, 6, 7], [q2 0, q1 a, q1 b, q1 cc, q1 dd], [.inr (11, [q2 1, q2 36, q2 37, q2 32, q2 38, q2 39, q2 40, q2 41]), .inr (8, [q2 2, q2 3, q2 4, q2 5, q2 42, q2 43, q1 ln, q1 fa, q1 pl]), .inl (1, 600, .inl tp), .inl (0, 4, .inl ct), .inl (4, 2, .inr (.inr [some 6, some 14])), .inl (5, 2, .inr (.inr [some 22, some 27])), .inr (0, [q2 7, q2 8, q2 9, q2 10, q2 11, q2 12, q2 13, q1 b0u0, q1 b0u1, q1 b0u2, q1 b0u3, q1 b0u4]), .inl (0, 8, .inl b0f1), .inl (0, 8, .inl b0f2), .inl (0, 4, .inl b0f3), .inl (0, 32, .inl b0f4), .inl (0, 6, .inl b0f5), .inl (0, 6, .inl b0f6), .inl (0, 6, .inl b0f7), .inr (0, [q2 15, q2 16, q2 17, q2 18, q2 19, q2 20, q2 21, q1 b1u0, q1 b1u1, q1 b1u2, q1 b1u3, q1 b1u4]), .inl (0, 8, .inl b1f1), .inl (0, 8, .inl b1f2), .inl (0, 4, .inl b1f3), .inl (0, 32, .inl b1f4), .inl (0, 6, .inl b1f5), .inl (0, 6, .inl b1f6), .inl (0, 6, .inl b1f7), .inr (10, [q2 23, q2 24, q2 25, q2 26, q1 y0d]), .inl (0, 40, .inl y0k1), .inl (0, 40, .inl y0k2), .inl (0, 40, .inl y0k3), .inl (0, 40, .inl y0k4), .inr (10, [q2 28, q2 29, q2 30, q2 31, q1 y1d]), .inl (0, 40, .inl y1k1), .inl (0, 40, .inl y1k2), .inl (0, 40, .inl y1k3), .inl (0, 40, .inl y1k4), .inr (9, [q2 33, q2 34, q2 35, q1 wkp, q1 wks]), .inl (0, 8, .inl wkh1), .inl (0, 512, .inl wkh2), .inl (0, 512, .inl wkh3)], rfl, ?_, rfl, ?_⟩
  · show [w[0]?, w[1]?, w[2]?, w[3]?, w[4]?, w[5]?, w[8]?, w[9]?, w[10]?, w[11]?, w[12]?, w[13]?, w[14]?, w[15]?, w[16]?, w[17]?, w[18]?, w[19]?, w[20]?, w[21]?, w[22]?, w[23]?, w[24]?, w[25]?, w[26]?, w[27]?, w[28]?, w[29]?, w[30]?, w[31]?, w[32]?, w[33]?, w[66]?, w[67]?, w[68]?, w[69]?] = _
    rw [e9_0, e9_1, e9_2, e9_3, e9_4, e9_5, e9_6, e9_7, e9_8, e9_9, e9_10, e9_11, e9_12, e9_13, e9_14, e9_15, e9_16, e9_17, e9_18, e9_19, e9_20, e9_21, e9_22, e9_23, e9_24, e9_25, e9_26, e9_27, e9_28, e9_29, e9_30, e9_31, e9_32, e9_33, e9_34, e9_35]
    rfl
  · refine ⟨tp, ct, ln, fa, pl, b0f1, b0f2, b0f3, b0f4, b0f5, b0f6, b0f7, b0u0, b0u1, b0u2, b0u3, b0u4, b1f1, b1f2, b1f3, b1f4, b1f5, b1f6, b1f7, b1u0, b1u1, b1u2, b1u3, b1u4, y0k1, y0k2, y0k3, y0k4, y0d, y1k1, y1k2, y1k3, y1k4, y1d, wkh1, wkh2, wkh3, wkp, wks, a, b, cc, dd, rfl, rfl, (by first | assumption | omega), (by first | assumption | omega), (by first | assumption | omega), (by first | assumption | omega), (by first | assumption | omega), (by first | assumption | omega), (by first | assumption | omega), (by first | assumption | omega), fun r x_wkh1 x_wkh2 x_wkh3 x_wkp x_wks hlen => ?_⟩
    refine hQ9 _ _ (PW_bw h9 rfl ?_) (by rw [q_bw_len]) (bw_out rfl) ⟨_, rfl⟩
    refine ⟨(show PX_H _ from rfl), ?_⟩
    refine ⟨(show PX_T (U 1) _ from ⟨_, _, _, rfl, (by first | assumption | omega | exact hp.1 | exact hp.2.1 | exact hp.2.2.1 | exact hp.2.2.2.1 | exact hp.2.2.2.2.1 | exact hp.2.2.2.2 | exact hp.2.2.2 | exact hp.2.2 | exact hp.2), (by first | assumption | omega | exact hp.1 | exact hp.2.1 | exact hp.2.2.1 | exact hp.2.2.2.1 | exact hp.2.2.2.2.1 | exact hp.2.2.2.2 | exact hp.2.2.2 | exact hp.2.2 | exact hp.2)⟩), ?_⟩
    refine ⟨(show PX_Ttp (F 2) _ from ⟨_, rfl, (by first | assumption | omega | exact hp.1 | exact hp.2.1 | exact hp.2.2.1 | exact hp.2.2.2.1 | exact hp.2.2.2.2.1 | exact hp.2.2.2.2 | exact hp.2.2.2 | exact hp.2.2 | exact hp.2)⟩), ?_⟩
    refine ⟨(show PX_Tct (F 3) _ from ⟨_, rfl, (by first | assumption | omega | exact hp.1 | exact hp.2.1 | exact hp.2.2.1 | exact hp.2.2.2.1 | exact hp.2.2.2.2.1 | exact hp.2.2.2.2 | exact hp.2.2.2 | exact hp.2.2 | exact hp.2), (by first | assumption | omega | exact hp.1 | exact hp.2.1 | exact hp.2.2.1 | exact hp.2.2.2.1 | exact hp.2.2.2.2.1 | exact hp.2.2.2.2 | exact hp.2.2.2 | exact hp.2.2 | exact hp.2)⟩), ?_⟩
    refine ⟨(show PX_TBa _ from rfl), ?_⟩
    refine ⟨(show PX_TYa _ from rfl), ?_⟩
    refine ⟨(show PX_B0 (U 8) _ from ⟨_, _, _, _, _, rfl, (by first | assumption | omega | exact hp.1 | exact hp.2.1 | exact hp.2.2.1 | exact hp.2.2.2.1 | exact hp.2.2.2.2.1 | exact hp.2.2.2.2 | exact hp.2.2.2 | exact hp.2.2 | exact hp.2), (by first | assumption | omega | exact hp.1 | exact hp.2.1 | exact hp.2.2.1 | exact hp.2.2.2.1 | exact hp.2.2.2.2.1 | exact hp.2.2.2.2 | exact hp.2.2.2 | exact hp.2.2 | exact hp.2)⟩), ?_⟩
    refine ⟨(show PX_B0_1 (F 9) _ from ⟨_, rfl, (by first | assumption | omega | exact hp.1 | exact hp.2.1 | exact hp.2.2.1 | exact hp.2.2.2.1 | exact hp.2.2.2.2.1 | exact hp.2.2.2.2 | exact hp.2.2.2 | exact hp.2.2 | exact hp.2)⟩), ?_⟩
    refine ⟨(show PX_B0_2 (F 10) _ from ⟨_, rfl, (by first | assumption | omega | exact hp.1 | exact hp.2.1 | exact hp.2.2.1 | exact hp.2.2.2.1 | exact hp.2.2.2.2.1 | exact hp.2.2.2.2 | exact hp.2.2.2 | exact hp.2.2 | exact hp.2)⟩), ?_⟩
    refine ⟨(show PX_B0_3 (F 11) _ from ⟨_, rfl, (by first | assumption | omega | exact hp.1 | exact hp.2.1 | exact hp.2.2.1 | exact hp.2.2.2.1 | exact hp.2.2.2.2.1 | exact hp.2.2.2.2 | exact hp.2.2.2 | exact hp.2.2 | exact hp.2), (by first | assumption | omega | exact hp.1 | exact hp.2.1 | exact hp.2.2.1 | exact hp.2.2.2.1 | exact hp.2.2.2.2.1 | exact hp.2.2.2.2 | exact hp.2.2.2 | exact hp.2.2 | exact hp.2)⟩), ?_⟩
    refine ⟨(show PX_B0_4 (F 12) _ from ⟨_, rfl, (by first | assumption | omega | exact hp.1 | exact hp.2.1 | exact hp.2.2.1 | exact hp.2.2.2.1 | exact hp.2.2.2.2.1 | exact hp.2.2.2.2 | exact hp.2.2.2 | exact hp.2.2 | exact hp.2)⟩), ?_⟩
    refine ⟨(show PX_B0_5 (F 13) _ from ⟨_, rfl, (by first | assumption | omega | exact hp.1 | exact hp.2.1 | exact hp.2.2.1 | exact hp.2.2.2.1 | exact hp.2.2.2.2.1 | exact hp.2.2.2.2 | exact hp.2.2.2 | exact hp.2.2 | exact hp.2)⟩), ?_⟩
    refine ⟨(show PX_B0_6 (F 14) _ from ⟨_, rfl, (by first | assumption | omega | exact hp.1 | exact hp.2.1 | exact hp.2.2.1 | exact hp.2.2.2.1 | exact hp.2.2.2.2.1 | exact hp.2.2.2.2 | exact hp.2.2.2 | exact hp.2.2 | exact hp.2)⟩), ?_⟩
    refine ⟨(show PX_B0_7 (F 15) _ from ⟨_, rfl, (by first | assumption | omega | exact hp.1 | exact hp.2.1 | exact hp.2.2.1 | exact hp.2.2.2.1 | exact hp.2.2.2.2.1 | exact hp.2.2.2.2 | exact hp.2.2.2 | exact hp.2.2 | exact hp.2)⟩), ?_⟩
    refine ⟨(show PX_B1 (U 16) _ from ⟨_, _, _, _, _, rfl, (by first | assumption | omega | exact hp.1 | exact hp.2.1 | exact hp.2.2.1 | exact hp.2.2.2.1 | exact hp.2.2.2.2.1 | exact hp.2.2.2.2 | exact hp.2.2.2 | exact hp.2.2 | exact hp.2), (by first | assumption | omega | exact hp.1 | exact hp.2.1 | exact hp.2.2.1 | exact hp.2.2.2.1 | exact hp.2.2.2.2.1 | exact hp.2.2.2.2 | exact hp.2.2.2 | exact hp.2.2 | exact hp.2)⟩), ?_⟩
    refine ⟨(show PX_B1_1 (F 17) _ from ⟨_, rfl, (by first | assumption | omega | exact hp.1 | exact hp.2.1 | exact hp.2.2.1 | exact hp.2.2.2.1 | exact hp.2.2.2.2.1 | exact hp.2.2.2.2 | exact hp.2.2.2 | exact hp.2.2 | exact hp.2)⟩), ?_⟩
    refine ⟨(show PX_B1_2 (F 18) _ from ⟨_, rfl, (by first | assumption | omega | exact hp.1 | exact hp.2.1 | exact hp.2.2.1 | exact hp.2.2.2.1 | exact hp.2.2.2.2.1 | exact hp.2.2.2.2 | exact hp.2.2.2 | exact hp.2.2 | exact hp.2)⟩), ?_⟩
    refine ⟨(show PX_B1_3 (F 19) _ from ⟨_, rfl, (by first | assumption | omega | exact hp.1 | exact hp.2.1 | exact hp.2.2.1 | exact hp.2.2.2.1 | exact hp.2.2.2.2.1 | exact hp.2.2.2.2 | exact hp.2.2.2 | exact hp.2.2 | exact hp.2), (by first | assumption | omega | exact hp.1 | exact hp.2.1 | exact hp.2.2.1 | exact hp.2.2.2.1 | exact hp.2.2.2.2.1 | exact hp.2.2.2.2 | exact hp.2.2.2 | exact hp.2.2 | exact hp.2)⟩), ?_⟩
    refine ⟨(show PX_B1_4 (F 20) _ from ⟨_, rfl, (by first | assumption | omega | exact hp.1 | exact hp.2.1 | exact hp.2.2.1 | exact hp.2.2.2.1 | exact hp.2.2.2.2.1 | exact hp.2.2.2.2 | exact hp.2.2.2 | exact hp.2.2 | exact hp.2)⟩), ?_⟩
    refine ⟨(show PX_B1_5 (F 21) _ from ⟨_, rfl, (by first | assumption | omega | exact hp.1 | exact hp.2.1 | exact hp.2.2.1 | exact hp.2.2.2.1 | exact hp.2.2.2.2.1 | exact hp.2.2.2.2 | exact hp.2.2.2 | exact hp.2.2 | exact hp.2)⟩), ?_⟩
    refine ⟨(show PX_B1_6 (F 22) _ from ⟨_, rfl, (by first | assumption | omega | exact hp.1 | exact hp.2.1 | exact hp.2.2.1 | exact hp.2.2.2.1 | exact hp.2.2.2.2.1 | exact hp.2.2.2.2 | exact hp.2.2.2 | exact hp.2.2 | exact hp.2)⟩), ?_⟩
    refine ⟨(show PX_B1_7 (F 23) _ from ⟨_, rfl, (by first | assumption | omega | exact hp.1 | exact hp.2.1 | exact hp.2.2.1 | exact hp.2.2.2.1 | exact hp.2.2.2.2.1 | exact hp.2.2.2.2 | exact hp.2.2.2 | exact hp.2.2 | exact hp.2)⟩), ?_⟩
    refine ⟨(show PX_Y0 (U 24) _ from ⟨_, rfl, (by first | assumption | omega | exact hp.1 | exact hp.2.1 | exact hp.2.2.1 | exact hp.2.2.2.1 | exact hp.2.2.2.2.1 | exact hp.2.2.2.2 | exact hp.2.2.2 | exact hp.2.2 | exact hp.2), (by first | assumption | omega | exact hp.1 | exact hp.2.1 | exact hp.2.2.1 | exact hp.2.2.2.1 | exact hp.2.2.2.2.1 | exact hp.2.2.2.2 | exact hp.2.2.2 | exact hp.2.2 | exact hp.2)⟩), ?_⟩
    refine ⟨(show PX_Y0_1 (F 25) _ from ⟨_, rfl, (by first | assumption | omega | exact hp.1 | exact hp.2.1 | exact hp.2.2.1 | exact hp.2.2.2.1 | exact hp.2.2.2.2.1 | exact hp.2.2.2.2 | exact hp.2.2.2 | exact hp.2.2 | exact hp.2)⟩), ?_⟩
    refine ⟨(show PX_Y0_2 (F 26) _ from ⟨_, rfl, (by first | assumption | omega | exact hp.1 | exact hp.2.1 | exact hp.2.2.1 | exact hp.2.2.2.1 | exact hp.2.2.2.2.1 | exact hp.2.2.2.2 | exact hp.2.2.2 | exact hp.2.2 | exact hp.2)⟩), ?_⟩
    refine ⟨(show PX_Y0_3 (F 27) _ from ⟨_, rfl, (by first | assumption | omega | exact hp.1 | exact hp.2.1 | exact hp.2.2.1 | exact hp.2.2.2.1 | exact hp.2.2.2.2.1 | exact hp.2.2.2.2 | exact hp.2.2.2 | exact hp.2.2 | exact hp.2)⟩), ?_⟩
    refine ⟨(show PX_Y0_4 (F 28) _ from ⟨_, rfl, (by first | assumption | omega | exact hp.1 | exact hp.2.1 | exact hp.2.2.1 | exact hp.2.2.2.1 | exact hp.2.2.2.2.1 | exact hp.2.2.2.2 | exact hp.2.2.2 | exact hp.2.2 | exact hp.2)⟩), ?_⟩
    refine ⟨(show PX_Y1 (U 29) _ from ⟨_, rfl, (by first | assumption | omega | exact hp.1 | exact hp.2.1 | exact hp.2.2.1 | exact hp.2.2.2.1 | exact hp.2.2.2.2.1 | exact hp.2.2.2.2 | exact hp.2.2.2 | exact hp.2.2 | exact hp.2), (by first | assumption | omega | exact hp.1 | exact hp.2.1 | exact hp.2.2.1 | exact hp.2.2.2.1 | exact hp.2.2.2.2.1 | exact hp.2.2.2.2 | exact hp.2.2.2 | exact hp.2.2 | exact hp.2)⟩), ?_⟩
    refine ⟨(show PX_Y1_1 (F 30) _ from ⟨_, rfl, (by first | assumption | omega | exact hp.1 | exact hp.2.1 | exact hp.2.2.1 | exact hp.2.2.2.1 | exact hp.2.2.2.2.1 | exact hp.2.2.2.2 | exact hp.2.2.2 | exact hp.2.2 | exact hp.2)⟩), ?_⟩
    refine ⟨(show PX_Y1_2 (F 31) _ from ⟨_, rfl, (by first | assumption | omega | exact hp.1 | exact hp.2.1 | exact hp.2.2.1 | exact hp.2.2.2.1 | exact hp.2.2.2.2.1 | exact hp.2.2.2.2 | exact hp.2.2.2 | exact hp.2.2 | exact hp.2)⟩), ?_⟩
    refine ⟨(show PX_Y1_3 (F 32) _ from ⟨_, rfl, (by first | assumption | omega | exact hp.1 | exact hp.2.1 | exact hp.2.2.1 | exact hp.2.2.2.1 | exact hp.2.2.2.2.1 | exact hp.2.2.2.2 | exact hp.2.2.2 | exact hp.2.2 | exact hp.2)⟩), ?_⟩
    refine ⟨(show PX_Y1_4 (F 33) _ from ⟨_, rfl, (by first | assumption | omega | exact hp.1 | exact hp.2.1 | exact hp.2.2.1 | exact hp.2.2.2.1 | exact hp.2.2.2.2.1 | exact hp.2.2.2.2 | exact hp.2.2.2 | exact hp.2.2 | exact hp.2)⟩), ?_⟩
    refine ⟨(show PX_WK _ from ⟨_, _, rfl⟩), ?_⟩
    refine ⟨(show PX_WK_1 _ from ⟨_, rfl⟩), ?_⟩
    refine ⟨(show PX_WK_2 _ from ⟨_, rfl⟩), ?_⟩
    refine ⟨(show PX_WK_3 _ from ⟨_, rfl⟩), ?_⟩
    exact trivial

set_option maxHeartbeats 2000000 in
set_option maxRecDepth 100000 in
theorem mL_X11_settled (l : Launch) (F U : Nat → Nat → Int) : q_M l yX11_settled cX11_settled 5 (some .int) 5 136 (spW F U (fun av => ∃ a b cc : Int, av = [q2 0, q1 a, q1 b, q1 cc]) rkI) := by
  refine q_M_mono (fun av w Q h9 => ?_) (q_M_fr (m_X11_settled l))
  obtain ⟨h9, ⟨a, b, cc, rfl⟩, hQ9⟩ := h9
  obtain ⟨_, e9_0, rfl⟩ := h9 0 _ rfl
  obtain ⟨_, e9_1, ln, fa, pl, rfl, i9_1_0, i9_1_1⟩ := h9 1 _ rfl
  obtain ⟨_, e9_2, tp, rfl, i9_2_0⟩ := h9 2 _ rfl
  obtain ⟨_, e9_3, ct, rfl, i9_3_0, i9_3_1⟩ := h9 3 _ rfl
  obtain ⟨_, e9_4, rfl⟩ := h9 4 _ rfl
  obtain ⟨_, e9_5, rfl⟩ := h9 5 _ rfl
  obtain ⟨_, e9_6, b0u0, b0u1, b0u2, b0u3, b0u4, rfl, i9_6_0, i9_6_1⟩ := h9 8 _ rfl
  obtain ⟨_, e9_7, b0f1, rfl, i9_7_0⟩ := h9 9 _ rfl
  obtain ⟨_, e9_8, b0f2, rfl, i9_8_0⟩ := h9 10 _ rfl
  obtain ⟨_, e9_9, b0f3, rfl, i9_9_0, i9_9_1⟩ := h9 11 _ rfl
  obtain ⟨_, e9_10, b0f4, rfl, i9_10_0⟩ := h9 12 _ rfl
  obtain ⟨_, e9_11, b0f5, rfl, i9_11_0⟩ := h9 13 _ rfl
  obtain ⟨_, e9_12, b0f6, rfl, i9_12_0⟩ := h9 14 _ rfl
  obtain ⟨_, e9_13, b0f7, rfl, i9_13_0⟩ := h9 15 _ rfl
  obtain ⟨_, e9_14, b1u0, b1u1, b1u2, b1u3, b1u4, rfl, i9_14_0, i9_14_1⟩ := h9 16 _ rfl
  obtain ⟨_, e9_15, b1f1, rfl, i9_15_0⟩ := h9 17 _ rfl
  obtain ⟨_, e9_16, b1f2, rfl, i9_16_0⟩ := h9 18 _ rfl
  obtain ⟨_, e9_17, b1f3, rfl, i9_17_0, i9_17_1⟩ := h9 19 _ rfl
  obtain ⟨_, e9_18, b1f4, rfl, i9_18_0⟩ := h9 20 _ rfl
  obtain ⟨_, e9_19, b1f5, rfl, i9_19_0⟩ := h9 21 _ rfl
  obtain ⟨_, e9_20, b1f6, rfl, i9_20_0⟩ := h9 22 _ rfl
  obtain ⟨_, e9_21, b1f7, rfl, i9_21_0⟩ := h9 23 _ rfl
  obtain ⟨_, e9_22, y0d, rfl, i9_22_0, i9_22_1⟩ := h9 24 _ rfl
  obtain ⟨_, e9_23, y0k1, rfl, i9_23_0⟩ := h9 25 _ rfl
  obtain ⟨_, e9_24, y0k2, rfl, i9_24_0⟩ := h9 26 _ rfl
  obtain ⟨_, e9_25, y0k3, rfl, i9_25_0⟩ := h9 27 _ rfl
  obtain ⟨_, e9_26, y0k4, rfl, i9_26_0⟩ := h9 28 _ rfl
  obtain ⟨_, e9_27, y1d, rfl, i9_27_0, i9_27_1⟩ := h9 29 _ rfl
  obtain ⟨_, e9_28, y1k1, rfl, i9_28_0⟩ := h9 30 _ rfl
  obtain ⟨_, e9_29, y1k2, rfl, i9_29_0⟩ := h9 31 _ rfl
  obtain ⟨_, e9_30, y1k3, rfl, i9_30_0⟩ := h9 32 _ rfl
  obtain ⟨_, e9_31, y1k4, rfl, i9_31_0⟩ := h9 33 _ rfl
  obtain ⟨_, e9_32, wkp, wks, rfl⟩ := h9 66 _ rfl
  obtain ⟨_, e9_33, wkh1, rfl⟩ := h9 67 _ rfl
  obtain ⟨_, e9_34, wkh2, rfl⟩ := h9 68 _ rfl
  obtain ⟨_, e9_35, wkh3, rfl⟩ := h9 69 _ rfl
  refine ⟨[0, 1, 2, 3, 4, 5, 8, 9, 10, 11, 12, 13, 14, 15, 16, 17, 18, 19, 20, 21, 22, 23, 24, 25, 26, 27, 28, 29, 30, 31, 32, 33, 66, 67, 68, 69, 44, 45, 70, 72, 76, 81, 6, 7], [q2 0, q1 a, q1 b, q1 cc], [.inr (11, [q2 1, q2 36, q2 37, q2 32, q2 38, q2 39, q2 40, q2 41]), .inr (8, [q2 2, q2 3, q2 4, q2 5, q2 42, q2 43, q1 ln, q1 fa, q1 pl]), .inl (1, 600, .inl tp), .inl (0, 4, .inl ct), .inl (4, 2, .inr (.inr [some 6, some 14])), .inl (5, 2, .inr (.inr [some 22, some 27])), .inr (0, [q2 7, q2 8, q2 9, q2 10, q2 11, q2 12, q2 13, q1 b0u0, q1 b0u1, q1 b0u2, q1 b0u3, q1 b0u4]), .inl (0, 8, .inl b0f1), .inl (0, 8, .inl b0f2), .inl (0, 4, .inl b0f3), .inl (0, 32, .inl b0f4), .inl (0, 6, .inl b0f5), .inl (0, 6, .inl b0f6), .inl (0, 6, .inl b0f7), .inr (0, [q2 15, q2 16, q2 17, q2 18, q2 19, q2 20, q2 21, q1 b1u0, q1 b1u1, q1 b1u2, q1 b1u3, q1 b1u4]), .inl (0, 8, .inl b1f1), .inl (0, 8, .inl b1f2), .inl (0, 4, .inl b1f3), .inl (0, 32, .inl b1f4), .inl (0, 6, .inl b1f5), .inl (0, 6, .inl b1f6), .inl (0, 6, .inl b1f7), .inr (10, [q2 23, q2 24, q2 25, q2 26, q1 y0d]), .inl (0, 40, .inl y0k1), .inl (0, 40, .inl y0k2), .inl (0, 40, .inl y0k3), .inl (0, 40, .inl y0k4), .inr (10, [q2 28, q2 29, q2 30, q2 31, q1 y1d]), .inl (0, 40, .inl y1k1), .inl (0, 40, .inl y1k2), .inl (0, 40, .inl y1k3), .inl (0, 40, .inl y1k4), .inr (9, [q2 33, q2 34, q2 35, q1 wkp, q1 wks]), .inl (0, 8, .inl wkh1), .inl (0, 512, .inl wkh2), .inl (0, 512, .inl wkh3)], rfl, ?_, rfl, ?_⟩
  · show [w[0]?, w[1]?, w[2]?, w[3]?, w[4]?, w[5]?, w[8]?, w[9]?, w[10]?, w[11]?, w[12]?, w[13]?, w[14]?, w[15]?, w[16]?, w[17]?, w[18]?, w[19]?, w[20]?, w[21]?, w[22]?, w[23]?, w[24]?, w[25]?, w[26]?, w[27]?, w[28]?, w[29]?, w[30]?, w[31]?, w[32]?, w[33]?, w[66]?, w[67]?, w[68]?, w[69]?] = _
    rw [e9_0, e9_1, e9_2, e9_3, e9_4, e9_5, e9_6, e9_7, e9_8, e9_9, e9_10, e9_11, e9_12, e9_13, e9_14, e9_15, e9_16, e9_17, e9_18, e9_19, e9_20, e9_21, e9_22, e9_23, e9_24, e9_25, e9_26, e9_27, e9_28, e9_29, e9_30, e9_31, e9_32, e9_33, e9_34, e9_35]
    rfl
  · refine ⟨tp, ct, ln, fa, pl, b0f1, b0f2, b0f3, b0f4, b0f5, b0f6, b0f7, b0u0, b0u1, b0u2, b0u3, b0u4, b1f1, b1f2, b1f3, b1f4, b1f5, b1f6, b1f7, b1u0, b1u1, b1u2, b1u3, b1u4, y0k1, y0k2, y0k3, y0k4, y0d, y1k1, y1k2, y1k3, y1k4, y1d, wkh1, wkh2, wkh3, wkp, wks, a, b, cc, rfl, rfl, (by first | assumption | omega), (by first | assumption | omega), (by first | assumption | omega), (by first | assumption | omega), (by first | assumption | omega), (by first | assumption | omega), (by first | assumption | omega), (by first | assumption | omega), fun r x_wkh1 x_wkh2 x_wkh3 x_wkp x_wks hlen => ?_⟩
    refine hQ9 _ _ (PW_bw h9 rfl ?_) (by rw [q_bw_len]) (bw_out rfl) ⟨_, rfl⟩
    refine ⟨(show PX_H _ from rfl), ?_⟩
    refine ⟨(show PX_T (U 1) _ from ⟨_, _, _, rfl, (by first | assumption | omega | exact hp.1 | exact hp.2.1 | exact hp.2.2.1 | exact hp.2.2.2.1 | exact hp.2.2.2.2.1 | exact hp.2.2.2.2 | exact hp.2.2.2 | exact hp.2.2 | exact hp.2), (by first | assumption | omega | exact hp.1 | exact hp.2.1 | exact hp.2.2.1 | exact hp.2.2.2.1 | exact hp.2.2.2.2.1 | exact hp.2.2.2.2 | exact hp.2.2.2 | exact hp.2.2 | exact hp.2)⟩), ?_⟩
    refine ⟨(show PX_Ttp (F 2) _ from ⟨_, rfl, (by first | assumption | omega | exact hp.1 | exact hp.2.1 | exact hp.2.2.1 | exact hp.2.2.2.1 | exact hp.2.2.2.2.1 | exact hp.2.2.2.2 | exact hp.2.2.2 | exact hp.2.2 | exact hp.2)⟩), ?_⟩
    refine ⟨(show PX_Tct (F 3) _ from ⟨_, rfl, (by first | assumption | omega | exact hp.1 | exact hp.2.1 | exact hp.2.2.1 | exact hp.2.2.2.1 | exact hp.2.2.2.2.1 | exact hp.2.2.2.2 | exact hp.2.2.2 | exact hp.2.2 | exact hp.2), (by first | assumption | omega | exact hp.1 | exact hp.2.1 | exact hp.2.2.1 | exact hp.2.2.2.1 | exact hp.2.2.2.2.1 | exact hp.2.2.2.2 | exact hp.2.2.2 | exact hp.2.2 | exact hp.2)⟩), ?_⟩
    refine ⟨(show PX_TBa _ from rfl), ?_⟩
    refine ⟨(show PX_TYa _ from rfl), ?_⟩
    refine ⟨(show PX_B0 (U 8) _ from ⟨_, _, _, _, _, rfl, (by first | assumption | omega | exact hp.1 | exact hp.2.1 | exact hp.2.2.1 | exact hp.2.2.2.1 | exact hp.2.2.2.2.1 | exact hp.2.2.2.2 | exact hp.2.2.2 | exact hp.2.2 | exact hp.2), (by first | assumption | omega | exact hp.1 | exact hp.2.1 | exact hp.2.2.1 | exact hp.2.2.2.1 | exact hp.2.2.2.2.1 | exact hp.2.2.2.2 | exact hp.2.2.2 | exact hp.2.2 | exact hp.2)⟩), ?_⟩
    refine ⟨(show PX_B0_1 (F 9) _ from ⟨_, rfl, (by first | assumption | omega | exact hp.1 | exact hp.2.1 | exact hp.2.2.1 | exact hp.2.2.2.1 | exact hp.2.2.2.2.1 | exact hp.2.2.2.2 | exact hp.2.2.2 | exact hp.2.2 | exact hp.2)⟩), ?_⟩
    refine ⟨(show PX_B0_2 (F 10) _ from ⟨_, rfl, (by first | assumption | omega | exact hp.1 | exact hp.2.1 | exact hp.2.2.1 | exact hp.2.2.2.1 | exact hp.2.2.2.2.1 | exact hp.2.2.2.2 | exact hp.2.2.2 | exact hp.2.2 | exact hp.2)⟩), ?_⟩
    refine ⟨(show PX_B0_3 (F 11) _ from ⟨_, rfl, (by first | assumption | omega | exact hp.1 | exact hp.2.1 | exact hp.2.2.1 | exact hp.2.2.2.1 | exact hp.2.2.2.2.1 | exact hp.2.2.2.2 | exact hp.2.2.2 | exact hp.2.2 | exact hp.2), (by first | assumption | omega | exact hp.1 | exact hp.2.1 | exact hp.2.2.1 | exact hp.2.2.2.1 | exact hp.2.2.2.2.1 | exact hp.2.2.2.2 | exact hp.2.2.2 | exact hp.2.2 | exact hp.2)⟩), ?_⟩
    refine ⟨(show PX_B0_4 (F 12) _ from ⟨_, rfl, (by first | assumption | omega | exact hp.1 | exact hp.2.1 | exact hp.2.2.1 | exact hp.2.2.2.1 | exact hp.2.2.2.2.1 | exact hp.2.2.2.2 | exact hp.2.2.2 | exact hp.2.2 | exact hp.2)⟩), ?_⟩
    refine ⟨(show PX_B0_5 (F 13) _ from ⟨_, rfl, (by first | assumption | omega | exact hp.1 | exact hp.2.1 | exact hp.2.2.1 | exact hp.2.2.2.1 | exact hp.2.2.2.2.1 | exact hp.2.2.2.2 | exact hp.2.2.2 | exact hp.2.2 | exact hp.2)⟩), ?_⟩
    refine ⟨(show PX_B0_6 (F 14) _ from ⟨_, rfl, (by first | assumption | omega | exact hp.1 | exact hp.2.1 | exact hp.2.2.1 | exact hp.2.2.2.1 | exact hp.2.2.2.2.1 | exact hp.2.2.2.2 | exact hp.2.2.2 | exact hp.2.2 | exact hp.2)⟩), ?_⟩
    refine ⟨(show PX_B0_7 (F 15) _ from ⟨_, rfl, (by first | assumption | omega | exact hp.1 | exact hp.2.1 | exact hp.2.2.1 | exact hp.2.2.2.1 | exact hp.2.2.2.2.1 | exact hp.2.2.2.2 | exact hp.2.2.2 | exact hp.2.2 | exact hp.2)⟩), ?_⟩
    refine ⟨(show PX_B1 (U 16) _ from ⟨_, _, _, _, _, rfl, (by first | assumption | omega | exact hp.1 | exact hp.2.1 | exact hp.2.2.1 | exact hp.2.2.2.1 | exact hp.2.2.2.2.1 | exact hp.2.2.2.2 | exact hp.2.2.2 | exact hp.2.2 | exact hp.2), (by first | assumption | omega | exact hp.1 | exact hp.2.1 | exact hp.2.2.1 | exact hp.2.2.2.1 | exact hp.2.2.2.2.1 | exact hp.2.2.2.2 | exact hp.2.2.2 | exact hp.2.2 | exact hp.2)⟩), ?_⟩
    refine ⟨(show PX_B1_1 (F 17) _ from ⟨_, rfl, (by first | assumption | omega | exact hp.1 | exact hp.2.1 | exact hp.2.2.1 | exact hp.2.2.2.1 | exact hp.2.2.2.2.1 | exact hp.2.2.2.2 | exact hp.2.2.2 | exact hp.2.2 | exact hp.2)⟩), ?_⟩
    refine ⟨(show PX_B1_2 (F 18) _ from ⟨_, rfl, (by first | assumption | omega | exact hp.1 | exact hp.2.1 | exact hp.2.2.1 | exact hp.2.2.2.1 | exact hp.2.2.2.2.1 | exact hp.2.2.2.2 | exact hp.2.2.2 | exact hp.2.2 | exact hp.2)⟩), ?_⟩
    refine ⟨(show PX_B1_3 (F 19) _ from ⟨_, rfl, (by first | assumption | omega | exact hp.1 | exact hp.2.1 | exact hp.2.2.1 | exact hp.2.2.2.1 | exact hp.2.2.2.2.1 | exact hp.2.2.2.2 | exact hp.2.2.2 | exact hp.2.2 | exact hp.2), (by first | assumption | omega | exact hp.1 | exact hp.2.1 | exact hp.2.2.1 | exact hp.2.2.2.1 | exact hp.2.2.2.2.1 | exact hp.2.2.2.2 | exact hp.2.2.2 | exact hp.2.2 | exact hp.2)⟩), ?_⟩
    refine ⟨(show PX_B1_4 (F 20) _ from ⟨_, rfl, (by first | assumption | omega | exact hp.1 | exact hp.2.1 | exact hp.2.2.1 | exact hp.2.2.2.1 | exact hp.2.2.2.2.1 | exact hp.2.2.2.2 | exact hp.2.2.2 | exact hp.2.2 | exact hp.2)⟩), ?_⟩
    refine ⟨(show PX_B1_5 (F 21) _ from ⟨_, rfl, (by first | assumption | omega | exact hp.1 | exact hp.2.1 | exact hp.2.2.1 | exact hp.2.2.2.1 | exact hp.2.2.2.2.1 | exact hp.2.2.2.2 | exact hp.2.2.2 | exact hp.2.2 | exact hp.2)⟩), ?_⟩
    refine ⟨(show PX_B1_6 (F 22) _ from ⟨_, rfl, (by first | assumption | omega | exact hp.1 | exact hp.2.1 | exact hp.2.2.1 | exact hp.2.2.2.1 | exact hp.2.2.2.2.1 | exact hp.2.2.2.2 | exact hp.2.2.2 | exact hp.2.2 | exact hp.2)⟩), ?_⟩
    refine ⟨(show PX_B1_7 (F 23) _ from ⟨_, rfl, (by first | assumption | omega | exact hp.1 | exact hp.2.1 | exact hp.2.2.1 | exact hp.2.2.2.1 | exact hp.2.2.2.2.1 | exact hp.2.2.2.2 | exact hp.2.2.2 | exact hp.2.2 | exact hp.2)⟩), ?_⟩
    refine ⟨(show PX_Y0 (U 24) _ from ⟨_, rfl, (by first | assumption | omega | exact hp.1 | exact hp.2.1 | exact hp.2.2.1 | exact hp.2.2.2.1 | exact hp.2.2.2.2.1 | exact hp.2.2.2.2 | exact hp.2.2.2 | exact hp.2.2 | exact hp.2), (by first | assumption | omega | exact hp.1 | exact hp.2.1 | exact hp.2.2.1 | exact hp.2.2.2.1 | exact hp.2.2.2.2.1 | exact hp.2.2.2.2 | exact hp.2.2.2 | exact hp.2.2 | exact hp.2)⟩), ?_⟩
    refine ⟨(show PX_Y0_1 (F 25) _ from ⟨_, rfl, (by first | assumption | omega | exact hp.1 | exact hp.2.1 | exact hp.2.2.1 | exact hp.2.2.2.1 | exact hp.2.2.2.2.1 | exact hp.2.2.2.2 | exact hp.2.2.2 | exact hp.2.2 | exact hp.2)⟩), ?_⟩
    refine ⟨(show PX_Y0_2 (F 26) _ from ⟨_, rfl, (by first | assumption | omega | exact hp.1 | exact hp.2.1 | exact hp.2.2.1 | exact hp.2.2.2.1 | exact hp.2.2.2.2.1 | exact hp.2.2.2.2 | exact hp.2.2.2 | exact hp.2.2 | exact hp.2)⟩), ?_⟩
    refine ⟨(show PX_Y0_3 (F 27) _ from ⟨_, rfl, (by first | assumption | omega | exact hp.1 | exact hp.2.1 | exact hp.2.2.1 | exact hp.2.2.2.1 | exact hp.2.2.2.2.1 | exact hp.2.2.2.2 | exact hp.2.2.2 | exact hp.2.2 | exact hp.2)⟩), ?_⟩
    refine ⟨(show PX_Y0_4 (F 28) _ from ⟨_, rfl, (by first | assumption | omega | exact hp.1 | exact hp.2.1 | exact hp.2.2.1 | exact hp.2.2.2.1 | exact hp.2.2.2.2.1 | exact hp.2.2.2.2 | exact hp.2.2.2 | exact hp.2.2 | exact hp.2)⟩), ?_⟩
    refine ⟨(show PX_Y1 (U 29) _ from ⟨_, rfl, (by first | assumption | omega | exact hp.1 | exact hp.2.1 | exact hp.2.2.1 | exact hp.2.2.2.1 | exact hp.2.2.2.2.1 | exact hp.2.2.2.2 | exact hp.2.2.2 | exact hp.2.2 | exact hp.2), (by first | assumption | omega | exact hp.1 | exact hp.2.1 | exact hp.2.2.1 | exact hp.2.2.2.1 | exact hp.2.2.2.2.1 | exact hp.2.2.2.2 | exact hp.2.2.2 | exact hp.2.2 | exact hp.2)⟩), ?_⟩
    refine ⟨(show PX_Y1_1 (F 30) _ from ⟨_, rfl, (by first | assumption | omega | exact hp.1 | exact hp.2.1 | exact hp.2.2.1 | exact hp.2.2.2.1 | exact hp.2.2.2.2.1 | exact hp.2.2.2.2 | exact hp.2.2.2 | exact hp.2.2 | exact hp.2)⟩), ?_⟩
    refine ⟨(show PX_Y1_2 (F 31) _ from ⟨_, rfl, (by first | assumption | omega | exact hp.1 | exact hp.2.1 | exact hp.2.2.1 | exact hp.2.2.2.1 | exact hp.2.2.2.2.1 | exact hp.2.2.2.2 | exact hp.2.2.2 | exact hp.2.2 | exact hp.2)⟩), ?_⟩
    refine ⟨(show PX_Y1_3 (F 32) _ from ⟨_, rfl, (by first | assumption | omega | exact hp.1 | exact hp.2.1 | exact hp.2.2.1 | exact hp.2.2.2.1 | exact hp.2.2.2.2.1 | exact hp.2.2.2.2 | exact hp.2.2.2 | exact hp.2.2 | exact hp.2)⟩), ?_⟩
    refine ⟨(show PX_Y1_4 (F 33) _ from ⟨_, rfl, (by first | assumption | omega | exact hp.1 | exact hp.2.1 | exact hp.2.2.1 | exact hp.2.2.2.1 | exact hp.2.2.2.2.1 | exact hp.2.2.2.2 | exact hp.2.2.2 | exact hp.2.2 | exact hp.2)⟩), ?_⟩
    refine ⟨(show PX_WK _ from ⟨_, _, rfl⟩), ?_⟩
    refine ⟨(show PX_WK_1 _ from ⟨_, rfl⟩), ?_⟩
    refine ⟨(show PX_WK_2 _ from ⟨_, rfl⟩), ?_⟩
    refine ⟨(show PX_WK_3 _ from ⟨_, rfl⟩), ?_⟩
    exact trivial

set_option maxHeartbeats 2000000 in
set_option maxRecDepth 100000 in
theorem mL_X11_rows (l : Launch) (F U : Nat → Nat → Int) : q_M l yX11_rows cX11_rows 7 (some .long) 4 96 (spW F U (fun av => ∃ a b cc dd ee : Int, av = [q2 0, q1 a, q1 b, q1 cc, q1 dd, q1 ee]) rkL) := by
  refine q_M_mono (fun av w Q h9 => ?_) (q_M_fr (m_X11_rows l))
  obtain ⟨h9, ⟨a, b, cc, dd, ee, rfl⟩, hQ9⟩ := h9
  obtain ⟨_, e9_0, rfl⟩ := h9 0 _ rfl
  obtain ⟨_, e9_1, ln, fa, pl, rfl, i9_1_0, i9_1_1⟩ := h9 1 _ rfl
  obtain ⟨_, e9_2, tp, rfl, i9_2_0⟩ := h9 2 _ rfl
  obtain ⟨_, e9_3, ct, rfl, i9_3_0, i9_3_1⟩ := h9 3 _ rfl
  obtain ⟨_, e9_4, rfl⟩ := h9 4 _ rfl
  obtain ⟨_, e9_5, rfl⟩ := h9 7 _ rfl
  obtain ⟨_, e9_6, b0u0, b0u1, b0u2, b0u3, b0u4, rfl, i9_6_0, i9_6_1⟩ := h9 8 _ rfl
  obtain ⟨_, e9_7, b0f1, rfl, i9_7_0⟩ := h9 9 _ rfl
  obtain ⟨_, e9_8, b0f2, rfl, i9_8_0⟩ := h9 10 _ rfl
  obtain ⟨_, e9_9, b0f3, rfl, i9_9_0, i9_9_1⟩ := h9 11 _ rfl
  obtain ⟨_, e9_10, b0f4, rfl, i9_10_0⟩ := h9 12 _ rfl
  obtain ⟨_, e9_11, b0f5, rfl, i9_11_0⟩ := h9 13 _ rfl
  obtain ⟨_, e9_12, b0f6, rfl, i9_12_0⟩ := h9 14 _ rfl
  obtain ⟨_, e9_13, b0f7, rfl, i9_13_0⟩ := h9 15 _ rfl
  obtain ⟨_, e9_14, b1u0, b1u1, b1u2, b1u3, b1u4, rfl, i9_14_0, i9_14_1⟩ := h9 16 _ rfl
  obtain ⟨_, e9_15, b1f1, rfl, i9_15_0⟩ := h9 17 _ rfl
  obtain ⟨_, e9_16, b1f2, rfl, i9_16_0⟩ := h9 18 _ rfl
  obtain ⟨_, e9_17, b1f3, rfl, i9_17_0, i9_17_1⟩ := h9 19 _ rfl
  obtain ⟨_, e9_18, b1f4, rfl, i9_18_0⟩ := h9 20 _ rfl
  obtain ⟨_, e9_19, b1f5, rfl, i9_19_0⟩ := h9 21 _ rfl
  obtain ⟨_, e9_20, b1f6, rfl, i9_20_0⟩ := h9 22 _ rfl
  obtain ⟨_, e9_21, b1f7, rfl, i9_21_0⟩ := h9 23 _ rfl
  obtain ⟨_, e9_22, s0c, rfl, i9_22_0, i9_22_1⟩ := h9 38 _ rfl
  obtain ⟨_, e9_23, s0p, rfl, i9_23_0⟩ := h9 39 _ rfl
  obtain ⟨_, e9_24, s0t, rfl, i9_24_0⟩ := h9 40 _ rfl
  obtain ⟨_, e9_25, s1c, rfl, i9_25_0, i9_25_1⟩ := h9 41 _ rfl
  obtain ⟨_, e9_26, s1p, rfl, i9_26_0⟩ := h9 42 _ rfl
  obtain ⟨_, e9_27, s1t, rfl, i9_27_0⟩ := h9 43 _ rfl
  obtain ⟨_, e9_28, gug, rfl, i9_28_0⟩ := h9 76 _ rfl
  obtain ⟨_, e9_29, guo, rfl⟩ := h9 77 _ rfl
  obtain ⟨_, e9_30, gua, rfl⟩ := h9 78 _ rfl
  obtain ⟨_, e9_31, gum, rfl⟩ := h9 79 _ rfl
  obtain ⟨_, e9_32, gus, rfl⟩ := h9 80 _ rfl
  refine ⟨[0, 1, 2, 3, 4, 7, 8, 9, 10, 11, 12, 13, 14, 15, 16, 17, 18, 19, 20, 21, 22, 23, 38, 39, 40, 41, 42, 43, 76, 77, 78, 79, 80, 44, 45, 66, 70, 72, 81, 5, 6], [q2 0, q1 a, q1 b, q1 cc, q1 dd, q1 ee], [.inr (11, [q2 1, q2 33, q2 34, q2 35, q2 36, q2 37, q2 28, q2 38]), .inr (8, [q2 2, q2 3, q2 4, q2 39, q2 40, q2 5, q1 ln, q1 fa, q1 pl]), .inl (1, 600, .inl tp), .inl (0, 4, .inl ct), .inl (4, 2, .inr (.inr [some 6, some 14])), .inl (7, 2, .inr (.inr [some 22, some 25])), .inr (0, [q2 7, q2 8, q2 9, q2 10, q2 11, q2 12, q2 13, q1 b0u0, q1 b0u1, q1 b0u2, q1 b0u3, q1 b0u4]), .inl (0, 8, .inl b0f1), .inl (0, 8, .inl b0f2), .inl (0, 4, .inl b0f3), .inl (0, 32, .inl b0f4), .inl (0, 6, .inl b0f5), .inl (0, 6, .inl b0f6), .inl (0, 6, .inl b0f7), .inr (0, [q2 15, q2 16, q2 17, q2 18, q2 19, q2 20, q2 21, q1 b1u0, q1 b1u1, q1 b1u2, q1 b1u3, q1 b1u4]), .inl (0, 8, .inl b1f1), .inl (0, 8, .inl b1f2), .inl (0, 4, .inl b1f3), .inl (0, 32, .inl b1f4), .inl (0, 6, .inl b1f5), .inl (0, 6, .inl b1f6), .inl (0, 6, .inl b1f7), .inr (7, [q2 23, q2 24, q1 s0c]), .inl (0, 10, .inl s0p), .inl (0, 10, .inl s0t), .inr (7, [q2 26, q2 27, q1 s1c]), .inl (0, 10, .inl s1p), .inl (0, 10, .inl s1t), .inr (2, [q2 29, q2 30, q2 31, q2 32, q1 gug]), .inl (3, 657, .inr (.inl guo)), .inl (3, 72, .inr (.inl gua)), .inl (3, 9, .inr (.inl gum)), .inl (0, 8, .inl gus)], rfl, ?_, rfl, ?_⟩
  · show [w[0]?, w[1]?, w[2]?, w[3]?, w[4]?, w[7]?, w[8]?, w[9]?, w[10]?, w[11]?, w[12]?, w[13]?, w[14]?, w[15]?, w[16]?, w[17]?, w[18]?, w[19]?, w[20]?, w[21]?, w[22]?, w[23]?, w[38]?, w[39]?, w[40]?, w[41]?, w[42]?, w[43]?, w[76]?, w[77]?, w[78]?, w[79]?, w[80]?] = _
    rw [e9_0, e9_1, e9_2, e9_3, e9_4, e9_5, e9_6, e9_7, e9_8, e9_9, e9_10, e9_11, e9_12, e9_13, e9_14, e9_15, e9_16, e9_17, e9_18, e9_19, e9_20, e9_21, e9_22, e9_23, e9_24, e9_25, e9_26, e9_27, e9_28, e9_29, e9_30, e9_31, e9_32]
    rfl
  · refine ⟨tp, ct, ln, fa, pl, b0f1, b0f2, b0f3, b0f4, b0f5, b0f6, b0f7, b0u0, b0u1, b0u2, b0u3, b0u4, b1f1, b1f2, b1f3, b1f4, b1f5, b1f6, b1f7, b1u0, b1u1, b1u2, b1u3, b1u4, s0p, s0t, s0c, s1p, s1t, s1c, guo, gua, gum, gus, gug, a, b, cc, dd, ee, rfl, rfl, (by first | assumption | omega), (by first | assumption | omega), (by first | assumption | omega), (by first | assumption | omega), (by first | assumption | omega), (by first | assumption | omega), (by first | assumption | omega), (by first | assumption | omega), (by first | assumption | omega), fun r x_guo x_gua x_gum x_gus x_gug hp hlen => ?_⟩
    try simp only [and_assoc] at hp
    refine hQ9 _ _ (PW_bw h9 rfl ?_) (by rw [q_bw_len]) (bw_out rfl) ⟨_, rfl⟩
    refine ⟨(show PX_H _ from rfl), ?_⟩
    refine ⟨(show PX_T (U 1) _ from ⟨_, _, _, rfl, (by first | assumption | omega | exact hp.1 | exact hp.2.1 | exact hp.2.2.1 | exact hp.2.2.2.1 | exact hp.2.2.2.2.1 | exact hp.2.2.2.2 | exact hp.2.2.2 | exact hp.2.2 | exact hp.2), (by first | assumption | omega | exact hp.1 | exact hp.2.1 | exact hp.2.2.1 | exact hp.2.2.2.1 | exact hp.2.2.2.2.1 | exact hp.2.2.2.2 | exact hp.2.2.2 | exact hp.2.2 | exact hp.2)⟩), ?_⟩
    refine ⟨(show PX_Ttp (F 2) _ from ⟨_, rfl, (by first | assumption | omega | exact hp.1 | exact hp.2.1 | exact hp.2.2.1 | exact hp.2.2.2.1 | exact hp.2.2.2.2.1 | exact hp.2.2.2.2 | exact hp.2.2.2 | exact hp.2.2 | exact hp.2)⟩), ?_⟩
    refine ⟨(show PX_Tct (F 3) _ from ⟨_, rfl, (by first | assumption | omega | exact hp.1 | exact hp.2.1 | exact hp.2.2.1 | exact hp.2.2.2.1 | exact hp.2.2.2.2.1 | exact hp.2.2.2.2 | exact hp.2.2.2 | exact hp.2.2 | exact hp.2), (by first | assumption | omega | exact hp.1 | exact hp.2.1 | exact hp.2.2.1 | exact hp.2.2.2.1 | exact hp.2.2.2.2.1 | exact hp.2.2.2.2 | exact hp.2.2.2 | exact hp.2.2 | exact hp.2)⟩), ?_⟩
    refine ⟨(show PX_TBa _ from rfl), ?_⟩
    refine ⟨(show PX_TSa _ from rfl), ?_⟩
    refine ⟨(show PX_B0 (U 8) _ from ⟨_, _, _, _, _, rfl, (by first | assumption | omega | exact hp.1 | exact hp.2.1 | exact hp.2.2.1 | exact hp.2.2.2.1 | exact hp.2.2.2.2.1 | exact hp.2.2.2.2 | exact hp.2.2.2 | exact hp.2.2 | exact hp.2), (by first | assumption | omega | exact hp.1 | exact hp.2.1 | exact hp.2.2.1 | exact hp.2.2.2.1 | exact hp.2.2.2.2.1 | exact hp.2.2.2.2 | exact hp.2.2.2 | exact hp.2.2 | exact hp.2)⟩), ?_⟩
    refine ⟨(show PX_B0_1 (F 9) _ from ⟨_, rfl, (by first | assumption | omega | exact hp.1 | exact hp.2.1 | exact hp.2.2.1 | exact hp.2.2.2.1 | exact hp.2.2.2.2.1 | exact hp.2.2.2.2 | exact hp.2.2.2 | exact hp.2.2 | exact hp.2)⟩), ?_⟩
    refine ⟨(show PX_B0_2 (F 10) _ from ⟨_, rfl, (by first | assumption | omega | exact hp.1 | exact hp.2.1 | exact hp.2.2.1 | exact hp.2.2.2.1 | exact hp.2.2.2.2.1 | exact hp.2.2.2.2 | exact hp.2.2.2 | exact hp.2.2 | exact hp.2)⟩), ?_⟩
    refine ⟨(show PX_B0_3 (F 11) _ from ⟨_, rfl, (by first | assumption | omega | exact hp.1 | exact hp.2.1 | exact hp.2.2.1 | exact hp.2.2.2.1 | exact hp.2.2.2.2.1 | exact hp.2.2.2.2 | exact hp.2.2.2 | exact hp.2.2 | exact hp.2), (by first | assumption | omega | exact hp.1 | exact hp.2.1 | exact hp.2.2.1 | exact hp.2.2.2.1 | exact hp.2.2.2.2.1 | exact hp.2.2.2.2 | exact hp.2.2.2 | exact hp.2.2 | exact hp.2)⟩), ?_⟩
    refine ⟨(show PX_B0_4 (F 12) _ from ⟨_, rfl, (by first | assumption | omega | exact hp.1 | exact hp.2.1 | exact hp.2.2.1 | exact hp.2.2.2.1 | exact hp.2.2.2.2.1 | exact hp.2.2.2.2 | exact hp.2.2.2 | exact hp.2.2 | exact hp.2)⟩), ?_⟩
    refine ⟨(show PX_B0_5 (F 13) _ from ⟨_, rfl, (by first | assumption | omega | exact hp.1 | exact hp.2.1 | exact hp.2.2.1 | exact hp.2.2.2.1 | exact hp.2.2.2.2.1 | exact hp.2.2.2.2 | exact hp.2.2.2 | exact hp.2.2 | exact hp.2)⟩), ?_⟩
    refine ⟨(show PX_B0_6 (F 14) _ from ⟨_, rfl, (by first | assumption | omega | exact hp.1 | exact hp.2.1 | exact hp.2.2.1 | exact hp.2.2.2.1 | exact hp.2.2.2.2.1 | exact hp.2.2.2.2 | exact hp.2.2.2 | exact hp.2.2 | exact hp.2)⟩), ?_⟩
    refine ⟨(show PX_B0_7 (F 15) _ from ⟨_, rfl, (by first | assumption | omega | exact hp.1 | exact hp.2.1 | exact hp.2.2.1 | exact hp.2.2.2.1 | exact hp.2.2.2.2.1 | exact hp.2.2.2.2 | exact hp.2.2.2 | exact hp.2.2 | exact hp.2)⟩), ?_⟩
    refine ⟨(show PX_B1 (U 16) _ from ⟨_, _, _, _, _, rfl, (by first | assumption | omega | exact hp.1 | exact hp.2.1 | exact hp.2.2.1 | exact hp.2.2.2.1 | exact hp.2.2.2.2.1 | exact hp.2.2.2.2 | exact hp.2.2.2 | exact hp.2.2 | exact hp.2), (by first | assumption | omega | exact hp.1 | exact hp.2.1 | exact hp.2.2.1 | exact hp.2.2.2.1 | exact hp.2.2.2.2.1 | exact hp.2.2.2.2 | exact hp.2.2.2 | exact hp.2.2 | exact hp.2)⟩), ?_⟩
    refine ⟨(show PX_B1_1 (F 17) _ from ⟨_, rfl, (by first | assumption | omega | exact hp.1 | exact hp.2.1 | exact hp.2.2.1 | exact hp.2.2.2.1 | exact hp.2.2.2.2.1 | exact hp.2.2.2.2 | exact hp.2.2.2 | exact hp.2.2 | exact hp.2)⟩), ?_⟩
    refine ⟨(show PX_B1_2 (F 18) _ from ⟨_, rfl, (by first | assumption | omega | exact hp.1 | exact hp.2.1 | exact hp.2.2.1 | exact hp.2.2.2.1 | exact hp.2.2.2.2.1 | exact hp.2.2.2.2 | exact hp.2.2.2 | exact hp.2.2 | exact hp.2)⟩), ?_⟩
    refine ⟨(show PX_B1_3 (F 19) _ from ⟨_, rfl, (by first | assumption | omega | exact hp.1 | exact hp.2.1 | exact hp.2.2.1 | exact hp.2.2.2.1 | exact hp.2.2.2.2.1 | exact hp.2.2.2.2 | exact hp.2.2.2 | exact hp.2.2 | exact hp.2), (by first | assumption | omega | exact hp.1 | exact hp.2.1 | exact hp.2.2.1 | exact hp.2.2.2.1 | exact hp.2.2.2.2.1 | exact hp.2.2.2.2 | exact hp.2.2.2 | exact hp.2.2 | exact hp.2)⟩), ?_⟩
    refine ⟨(show PX_B1_4 (F 20) _ from ⟨_, rfl, (by first | assumption | omega | exact hp.1 | exact hp.2.1 | exact hp.2.2.1 | exact hp.2.2.2.1 | exact hp.2.2.2.2.1 | exact hp.2.2.2.2 | exact hp.2.2.2 | exact hp.2.2 | exact hp.2)⟩), ?_⟩
    refine ⟨(show PX_B1_5 (F 21) _ from ⟨_, rfl, (by first | assumption | omega | exact hp.1 | exact hp.2.1 | exact hp.2.2.1 | exact hp.2.2.2.1 | exact hp.2.2.2.2.1 | exact hp.2.2.2.2 | exact hp.2.2.2 | exact hp.2.2 | exact hp.2)⟩), ?_⟩
    refine ⟨(show PX_B1_6 (F 22) _ from ⟨_, rfl, (by first | assumption | omega | exact hp.1 | exact hp.2.1 | exact hp.2.2.1 | exact hp.2.2.2.1 | exact hp.2.2.2.2.1 | exact hp.2.2.2.2 | exact hp.2.2.2 | exact hp.2.2 | exact hp.2)⟩), ?_⟩
    refine ⟨(show PX_B1_7 (F 23) _ from ⟨_, rfl, (by first | assumption | omega | exact hp.1 | exact hp.2.1 | exact hp.2.2.1 | exact hp.2.2.2.1 | exact hp.2.2.2.2.1 | exact hp.2.2.2.2 | exact hp.2.2.2 | exact hp.2.2 | exact hp.2)⟩), ?_⟩
    refine ⟨(show PX_S0 (U 38) _ from ⟨_, rfl, (by first | assumption | omega | exact hp.1 | exact hp.2.1 | exact hp.2.2.1 | exact hp.2.2.2.1 | exact hp.2.2.2.2.1 | exact hp.2.2.2.2 | exact hp.2.2.2 | exact hp.2.2 | exact hp.2), (by first | assumption | omega | exact hp.1 | exact hp.2.1 | exact hp.2.2.1 | exact hp.2.2.2.1 | exact hp.2.2.2.2.1 | exact hp.2.2.2.2 | exact hp.2.2.2 | exact hp.2.2 | exact hp.2)⟩), ?_⟩
    refine ⟨(show PX_S0_1 (F 39) _ from ⟨_, rfl, (by first | assumption | omega | exact hp.1 | exact hp.2.1 | exact hp.2.2.1 | exact hp.2.2.2.1 | exact hp.2.2.2.2.1 | exact hp.2.2.2.2 | exact hp.2.2.2 | exact hp.2.2 | exact hp.2)⟩), ?_⟩
    refine ⟨(show PX_S0_2 (F 40) _ from ⟨_, rfl, (by first | assumption | omega | exact hp.1 | exact hp.2.1 | exact hp.2.2.1 | exact hp.2.2.2.1 | exact hp.2.2.2.2.1 | exact hp.2.2.2.2 | exact hp.2.2.2 | exact hp.2.2 | exact hp.2)⟩), ?_⟩
    refine ⟨(show PX_S1 (U 41) _ from ⟨_, rfl, (by first | assumption | omega | exact hp.1 | exact hp.2.1 | exact hp.2.2.1 | exact hp.2.2.2.1 | exact hp.2.2.2.2.1 | exact hp.2.2.2.2 | exact hp.2.2.2 | exact hp.2.2 | exact hp.2), (by first | assumption | omega | exact hp.1 | exact hp.2.1 | exact hp.2.2.1 | exact hp.2.2.2.1 | exact hp.2.2.2.2.1 | exact hp.2.2.2.2 | exact hp.2.2.2 | exact hp.2.2 | exact hp.2)⟩), ?_⟩
    refine ⟨(show PX_S1_1 (F 42) _ from ⟨_, rfl, (by first | assumption | omega | exact hp.1 | exact hp.2.1 | exact hp.2.2.1 | exact hp.2.2.2.1 | exact hp.2.2.2.2.1 | exact hp.2.2.2.2 | exact hp.2.2.2 | exact hp.2.2 | exact hp.2)⟩), ?_⟩
    refine ⟨(show PX_S1_2 (F 43) _ from ⟨_, rfl, (by first | assumption | omega | exact hp.1 | exact hp.2.1 | exact hp.2.2.1 | exact hp.2.2.2.1 | exact hp.2.2.2.2.1 | exact hp.2.2.2.2 | exact hp.2.2.2 | exact hp.2.2 | exact hp.2)⟩), ?_⟩
    refine ⟨(show PX_GU _ from ⟨_, rfl, (by first | assumption | omega | exact hp.1 | exact hp.2.1 | exact hp.2.2.1 | exact hp.2.2.2.1 | exact hp.2.2.2.2.1 | exact hp.2.2.2.2 | exact hp.2.2.2 | exact hp.2.2 | exact hp.2)⟩), ?_⟩
    refine ⟨(show PX_GU_1 _ from ⟨_, rfl⟩), ?_⟩
    refine ⟨(show PX_GU_2 _ from ⟨_, rfl⟩), ?_⟩
    refine ⟨(show PX_GU_3 _ from ⟨_, rfl⟩), ?_⟩
    refine ⟨(show PX_GU_4 _ from ⟨_, rfl⟩), ?_⟩
    exact trivial

set_option maxHeartbeats 2000000 in
set_option maxRecDepth 100000 in
theorem mL_X11_sure (l : Launch) (F U : Nat → Nat → Int) : q_M l yX11_sure cX11_sure 6 (some .int) 4 102 (spW F U (fun av => ∃ a b cc dd : Int, av = [q2 0, q1 a, q1 b, q1 cc, q1 dd]) rkI) := by
  refine q_M_mono (fun av w Q h9 => ?_) (q_M_fr (m_X11_sure l))
  obtain ⟨h9, ⟨a, b, cc, dd, rfl⟩, hQ9⟩ := h9
  obtain ⟨_, e9_0, rfl⟩ := h9 0 _ rfl
  obtain ⟨_, e9_1, ln, fa, pl, rfl, i9_1_0, i9_1_1⟩ := h9 1 _ rfl
  obtain ⟨_, e9_2, tp, rfl, i9_2_0⟩ := h9 2 _ rfl
  obtain ⟨_, e9_3, ct, rfl, i9_3_0, i9_3_1⟩ := h9 3 _ rfl
  obtain ⟨_, e9_4, rfl⟩ := h9 4 _ rfl
  obtain ⟨_, e9_5, rfl⟩ := h9 7 _ rfl
  obtain ⟨_, e9_6, b0u0, b0u1, b0u2, b0u3, b0u4, rfl, i9_6_0, i9_6_1⟩ := h9 8 _ rfl
  obtain ⟨_, e9_7, b0f1, rfl, i9_7_0⟩ := h9 9 _ rfl
  obtain ⟨_, e9_8, b0f2, rfl, i9_8_0⟩ := h9 10 _ rfl
  obtain ⟨_, e9_9, b0f3, rfl, i9_9_0, i9_9_1⟩ := h9 11 _ rfl
  obtain ⟨_, e9_10, b0f4, rfl, i9_10_0⟩ := h9 12 _ rfl
  obtain ⟨_, e9_11, b0f5, rfl, i9_11_0⟩ := h9 13 _ rfl
  obtain ⟨_, e9_12, b0f6, rfl, i9_12_0⟩ := h9 14 _ rfl
  obtain ⟨_, e9_13, b0f7, rfl, i9_13_0⟩ := h9 15 _ rfl
  obtain ⟨_, e9_14, b1u0, b1u1, b1u2, b1u3, b1u4, rfl, i9_14_0, i9_14_1⟩ := h9 16 _ rfl
  obtain ⟨_, e9_15, b1f1, rfl, i9_15_0⟩ := h9 17 _ rfl
  obtain ⟨_, e9_16, b1f2, rfl, i9_16_0⟩ := h9 18 _ rfl
  obtain ⟨_, e9_17, b1f3, rfl, i9_17_0, i9_17_1⟩ := h9 19 _ rfl
  obtain ⟨_, e9_18, b1f4, rfl, i9_18_0⟩ := h9 20 _ rfl
  obtain ⟨_, e9_19, b1f5, rfl, i9_19_0⟩ := h9 21 _ rfl
  obtain ⟨_, e9_20, b1f6, rfl, i9_20_0⟩ := h9 22 _ rfl
  obtain ⟨_, e9_21, b1f7, rfl, i9_21_0⟩ := h9 23 _ rfl
  obtain ⟨_, e9_22, s0c, rfl, i9_22_0, i9_22_1⟩ := h9 38 _ rfl
  obtain ⟨_, e9_23, s0p, rfl, i9_23_0⟩ := h9 39 _ rfl
  obtain ⟨_, e9_24, s0t, rfl, i9_24_0⟩ := h9 40 _ rfl
  obtain ⟨_, e9_25, s1c, rfl, i9_25_0, i9_25_1⟩ := h9 41 _ rfl
  obtain ⟨_, e9_26, s1p, rfl, i9_26_0⟩ := h9 42 _ rfl
  obtain ⟨_, e9_27, s1t, rfl, i9_27_0⟩ := h9 43 _ rfl
  obtain ⟨_, e9_28, gug, rfl, i9_28_0⟩ := h9 76 _ rfl
  obtain ⟨_, e9_29, guo, rfl⟩ := h9 77 _ rfl
  obtain ⟨_, e9_30, gua, rfl⟩ := h9 78 _ rfl
  obtain ⟨_, e9_31, gum, rfl⟩ := h9 79 _ rfl
  obtain ⟨_, e9_32, gus, rfl⟩ := h9 80 _ rfl
  refine ⟨[0, 1, 2, 3, 4, 7, 8, 9, 10, 11, 12, 13, 14, 15, 16, 17, 18, 19, 20, 21, 22, 23, 38, 39, 40, 41, 42, 43, 76, 77, 78, 79, 80, 44, 45, 66, 70, 72, 81, 5, 6], [q2 0, q1 a, q1 b, q1 cc, q1 dd], [.inr (11, [q2 1, q2 33, q2 34, q2 35, q2 36, q2 37, q2 28, q2 38]), .inr (8, [q2 2, q2 3, q2 4, q2 39, q2 40, q2 5, q1 ln, q1 fa, q1 pl]), .inl (1, 600, .inl tp), .inl (0, 4, .inl ct), .inl (4, 2, .inr (.inr [some 6, some 14])), .inl (7, 2, .inr (.inr [some 22, some 25])), .inr (0, [q2 7, q2 8, q2 9, q2 10, q2 11, q2 12, q2 13, q1 b0u0, q1 b0u1, q1 b0u2, q1 b0u3, q1 b0u4]), .inl (0, 8, .inl b0f1), .inl (0, 8, .inl b0f2), .inl (0, 4, .inl b0f3), .inl (0, 32, .inl b0f4), .inl (0, 6, .inl b0f5), .inl (0, 6, .inl b0f6), .inl (0, 6, .inl b0f7), .inr (0, [q2 15, q2 16, q2 17, q2 18, q2 19, q2 20, q2 21, q1 b1u0, q1 b1u1, q1 b1u2, q1 b1u3, q1 b1u4]), .inl (0, 8, .inl b1f1), .inl (0, 8, .inl b1f2), .inl (0, 4, .inl b1f3), .inl (0, 32, .inl b1f4), .inl (0, 6, .inl b1f5), .inl (0, 6, .inl b1f6), .inl (0, 6, .inl b1f7), .inr (7, [q2 23, q2 24, q1 s0c]), .inl (0, 10, .inl s0p), .inl (0, 10, .inl s0t), .inr (7, [q2 26, q2 27, q1 s1c]), .inl (0, 10, .inl s1p), .inl (0, 10, .inl s1t), .inr (2, [q2 29, q2 30, q2 31, q2 32, q1 gug]), .inl (3, 657, .inr (.inl guo)), .inl (3, 72, .inr (.inl gua)), .inl (3, 9, .inr (.inl gum)), .inl (0, 8, .inl gus)], rfl, ?_, rfl, ?_⟩
  · show [w[0]?, w[1]?, w[2]?, w[3]?, w[4]?, w[7]?, w[8]?, w[9]?, w[10]?, w[11]?, w[12]?, w[13]?, w[14]?, w[15]?, w[16]?, w[17]?, w[18]?, w[19]?, w[20]?, w[21]?, w[22]?, w[23]?, w[38]?, w[39]?, w[40]?, w[41]?, w[42]?, w[43]?, w[76]?, w[77]?, w[78]?, w[79]?, w[80]?] = _
    rw [e9_0, e9_1, e9_2, e9_3, e9_4, e9_5, e9_6, e9_7, e9_8, e9_9, e9_10, e9_11, e9_12, e9_13, e9_14, e9_15, e9_16, e9_17, e9_18, e9_19, e9_20, e9_21, e9_22, e9_23, e9_24, e9_25, e9_26, e9_27, e9_28, e9_29, e9_30, e9_31, e9_32]
    rfl
  · refine ⟨tp, ct, ln, fa, pl, b0f1, b0f2, b0f3, b0f4, b0f5, b0f6, b0f7, b0u0, b0u1, b0u2, b0u3, b0u4, b1f1, b1f2, b1f3, b1f4, b1f5, b1f6, b1f7, b1u0, b1u1, b1u2, b1u3, b1u4, s0p, s0t, s0c, s1p, s1t, s1c, guo, gua, gum, gus, gug, a, b, cc, dd, rfl, rfl, (by first | assumption | omega), (by first | assumption | omega), (by first | assumption | omega), (by first | assumption | omega), (by first | assumption | omega), (by first | assumption | omega), (by first | assumption | omega), (by first | assumption | omega), (by first | assumption | omega), fun r x_guo x_gua x_gum x_gus x_gug hp hlen => ?_⟩
    try simp only [and_assoc] at hp
    refine hQ9 _ _ (PW_bw h9 rfl ?_) (by rw [q_bw_len]) (bw_out rfl) ⟨_, rfl⟩
    refine ⟨(show PX_H _ from rfl), ?_⟩
    refine ⟨(show PX_T (U 1) _ from ⟨_, _, _, rfl, (by first | assumption | omega | exact hp.1 | exact hp.2.1 | exact hp.2.2.1 | exact hp.2.2.2.1 | exact hp.2.2.2.2.1 | exact hp.2.2.2.2 | exact hp.2.2.2 | exact hp.2.2 | exact hp.2), (by first | assumption | omega | exact hp.1 | exact hp.2.1 | exact hp.2.2.1 | exact hp.2.2.2.1 | exact hp.2.2.2.2.1 | exact hp.2.2.2.2 | exact hp.2.2.2 | exact hp.2.2 | exact hp.2)⟩), ?_⟩
    refine ⟨(show PX_Ttp (F 2) _ from ⟨_, rfl, (by first | assumption | omega | exact hp.1 | exact hp.2.1 | exact hp.2.2.1 | exact hp.2.2.2.1 | exact hp.2.2.2.2.1 | exact hp.2.2.2.2 | exact hp.2.2.2 | exact hp.2.2 | exact hp.2)⟩), ?_⟩
    refine ⟨(show PX_Tct (F 3) _ from ⟨_, rfl, (by first | assumption | omega | exact hp.1 | exact hp.2.1 | exact hp.2.2.1 | exact hp.2.2.2.1 | exact hp.2.2.2.2.1 | exact hp.2.2.2.2 | exact hp.2.2.2 | exact hp.2.2 | exact hp.2), (by first | assumption | omega | exact hp.1 | exact hp.2.1 | exact hp.2.2.1 | exact hp.2.2.2.1 | exact hp.2.2.2.2.1 | exact hp.2.2.2.2 | exact hp.2.2.2 | exact hp.2.2 | exact hp.2)⟩), ?_⟩
    refine ⟨(show PX_TBa _ from rfl), ?_⟩
    refine ⟨(show PX_TSa _ from rfl), ?_⟩
    refine ⟨(show PX_B0 (U 8) _ from ⟨_, _, _, _, _, rfl, (by first | assumption | omega | exact hp.1 | exact hp.2.1 | exact hp.2.2.1 | exact hp.2.2.2.1 | exact hp.2.2.2.2.1 | exact hp.2.2.2.2 | exact hp.2.2.2 | exact hp.2.2 | exact hp.2), (by first | assumption | omega | exact hp.1 | exact hp.2.1 | exact hp.2.2.1 | exact hp.2.2.2.1 | exact hp.2.2.2.2.1 | exact hp.2.2.2.2 | exact hp.2.2.2 | exact hp.2.2 | exact hp.2)⟩), ?_⟩
    refine ⟨(show PX_B0_1 (F 9) _ from ⟨_, rfl, (by first | assumption | omega | exact hp.1 | exact hp.2.1 | exact hp.2.2.1 | exact hp.2.2.2.1 | exact hp.2.2.2.2.1 | exact hp.2.2.2.2 | exact hp.2.2.2 | exact hp.2.2 | exact hp.2)⟩), ?_⟩
    refine ⟨(show PX_B0_2 (F 10) _ from ⟨_, rfl, (by first | assumption | omega | exact hp.1 | exact hp.2.1 | exact hp.2.2.1 | exact hp.2.2.2.1 | exact hp.2.2.2.2.1 | exact hp.2.2.2.2 | exact hp.2.2.2 | exact hp.2.2 | exact hp.2)⟩), ?_⟩
    refine ⟨(show PX_B0_3 (F 11) _ from ⟨_, rfl, (by first | assumption | omega | exact hp.1 | exact hp.2.1 | exact hp.2.2.1 | exact hp.2.2.2.1 | exact hp.2.2.2.2.1 | exact hp.2.2.2.2 | exact hp.2.2.2 | exact hp.2.2 | exact hp.2), (by first | assumption | omega | exact hp.1 | exact hp.2.1 | exact hp.2.2.1 | exact hp.2.2.2.1 | exact hp.2.2.2.2.1 | exact hp.2.2.2.2 | exact hp.2.2.2 | exact hp.2.2 | exact hp.2)⟩), ?_⟩
    refine ⟨(show PX_B0_4 (F 12) _ from ⟨_, rfl, (by first | assumption | omega | exact hp.1 | exact hp.2.1 | exact hp.2.2.1 | exact hp.2.2.2.1 | exact hp.2.2.2.2.1 | exact hp.2.2.2.2 | exact hp.2.2.2 | exact hp.2.2 | exact hp.2)⟩), ?_⟩
    refine ⟨(show PX_B0_5 (F 13) _ from ⟨_, rfl, (by first | assumption | omega | exact hp.1 | exact hp.2.1 | exact hp.2.2.1 | exact hp.2.2.2.1 | exact hp.2.2.2.2.1 | exact hp.2.2.2.2 | exact hp.2.2.2 | exact hp.2.2 | exact hp.2)⟩), ?_⟩
    refine ⟨(show PX_B0_6 (F 14) _ from ⟨_, rfl, (by first | assumption | omega | exact hp.1 | exact hp.2.1 | exact hp.2.2.1 | exact hp.2.2.2.1 | exact hp.2.2.2.2.1 | exact hp.2.2.2.2 | exact hp.2.2.2 | exact hp.2.2 | exact hp.2)⟩), ?_⟩
    refine ⟨(show PX_B0_7 (F 15) _ from ⟨_, rfl, (by first | assumption | omega | exact hp.1 | exact hp.2.1 | exact hp.2.2.1 | exact hp.2.2.2.1 | exact hp.2.2.2.2.1 | exact hp.2.2.2.2 | exact hp.2.2.2 | exact hp.2.2 | exact hp.2)⟩), ?_⟩
    refine ⟨(show PX_B1 (U 16) _ from ⟨_, _, _, _, _, rfl, (by first | assumption | omega | exact hp.1 | exact hp.2.1 | exact hp.2.2.1 | exact hp.2.2.2.1 | exact hp.2.2.2.2.1 | exact hp.2.2.2.2 | exact hp.2.2.2 | exact hp.2.2 | exact hp.2), (by first | assumption | omega | exact hp.1 | exact hp.2.1 | exact hp.2.2.1 | exact hp.2.2.2.1 | exact hp.2.2.2.2.1 | exact hp.2.2.2.2 | exact hp.2.2.2 | exact hp.2.2 | exact hp.2)⟩), ?_⟩
    refine ⟨(show PX_B1_1 (F 17) _ from ⟨_, rfl, (by first | assumption | omega | exact hp.1 | exact hp.2.1 | exact hp.2.2.1 | exact hp.2.2.2.1 | exact hp.2.2.2.2.1 | exact hp.2.2.2.2 | exact hp.2.2.2 | exact hp.2.2 | exact hp.2)⟩), ?_⟩
    refine ⟨(show PX_B1_2 (F 18) _ from ⟨_, rfl, (by first | assumption | omega | exact hp.1 | exact hp.2.1 | exact hp.2.2.1 | exact hp.2.2.2.1 | exact hp.2.2.2.2.1 | exact hp.2.2.2.2 | exact hp.2.2.2 | exact hp.2.2 | exact hp.2)⟩), ?_⟩
    refine ⟨(show PX_B1_3 (F 19) _ from ⟨_, rfl, (by first | assumption | omega | exact hp.1 | exact hp.2.1 | exact hp.2.2.1 | exact hp.2.2.2.1 | exact hp.2.2.2.2.1 | exact hp.2.2.2.2 | exact hp.2.2.2 | exact hp.2.2 | exact hp.2), (by first | assumption | omega | exact hp.1 | exact hp.2.1 | exact hp.2.2.1 | exact hp.2.2.2.1 | exact hp.2.2.2.2.1 | exact hp.2.2.2.2 | exact hp.2.2.2 | exact hp.2.2 | exact hp.2)⟩), ?_⟩
    refine ⟨(show PX_B1_4 (F 20) _ from ⟨_, rfl, (by first | assumption | omega | exact hp.1 | exact hp.2.1 | exact hp.2.2.1 | exact hp.2.2.2.1 | exact hp.2.2.2.2.1 | exact hp.2.2.2.2 | exact hp.2.2.2 | exact hp.2.2 | exact hp.2)⟩), ?_⟩
    refine ⟨(show PX_B1_5 (F 21) _ from ⟨_, rfl, (by first | assumption | omega | exact hp.1 | exact hp.2.1 | exact hp.2.2.1 | exact hp.2.2.2.1 | exact hp.2.2.2.2.1 | exact hp.2.2.2.2 | exact hp.2.2.2 | exact hp.2.2 | exact hp.2)⟩), ?_⟩
    refine ⟨(show PX_B1_6 (F 22) _ from ⟨_, rfl, (by first | assumption | omega | exact hp.1 | exact hp.2.1 | exact hp.2.2.1 | exact hp.2.2.2.1 | exact hp.2.2.2.2.1 | exact hp.2.2.2.2 | exact hp.2.2.2 | exact hp.2.2 | exact hp.2)⟩), ?_⟩
    refine ⟨(show PX_B1_7 (F 23) _ from ⟨_, rfl, (by first | assumption | omega | exact hp.1 | exact hp.2.1 | exact hp.2.2.1 | exact hp.2.2.2.1 | exact hp.2.2.2.2.1 | exact hp.2.2.2.2 | exact hp.2.2.2 | exact hp.2.2 | exact hp.2)⟩), ?_⟩
    refine ⟨(show PX_S0 (U 38) _ from ⟨_, rfl, (by first | assumption | omega | exact hp.1 | exact hp.2.1 | exact hp.2.2.1 | exact hp.2.2.2.1 | exact hp.2.2.2.2.1 | exact hp.2.2.2.2 | exact hp.2.2.2 | exact hp.2.2 | exact hp.2), (by first | assumption | omega | exact hp.1 | exact hp.2.1 | exact hp.2.2.1 | exact hp.2.2.2.1 | exact hp.2.2.2.2.1 | exact hp.2.2.2.2 | exact hp.2.2.2 | exact hp.2.2 | exact hp.2)⟩), ?_⟩
    refine ⟨(show PX_S0_1 (F 39) _ from ⟨_, rfl, (by first | assumption | omega | exact hp.1 | exact hp.2.1 | exact hp.2.2.1 | exact hp.2.2.2.1 | exact hp.2.2.2.2.1 | exact hp.2.2.2.2 | exact hp.2.2.2 | exact hp.2.2 | exact hp.2)⟩), ?_⟩
    refine ⟨(show PX_S0_2 (F 40) _ from ⟨_, rfl, (by first | assumption | omega | exact hp.1 | exact hp.2.1 | exact hp.2.2.1 | exact hp.2.2.2.1 | exact hp.2.2.2.2.1 | exact hp.2.2.2.2 | exact hp.2.2.2 | exact hp.2.2 | exact hp.2)⟩), ?_⟩
    refine ⟨(show PX_S1 (U 41) _ from ⟨_, rfl, (by first | assumption | omega | exact hp.1 | exact hp.2.1 | exact hp.2.2.1 | exact hp.2.2.2.1 | exact hp.2.2.2.2.1 | exact hp.2.2.2.2 | exact hp.2.2.2 | exact hp.2.2 | exact hp.2), (by first | assumption | omega | exact hp.1 | exact hp.2.1 | exact hp.2.2.1 | exact hp.2.2.2.1 | exact hp.2.2.2.2.1 | exact hp.2.2.2.2 | exact hp.2.2.2 | exact hp.2.2 | exact hp.2)⟩), ?_⟩
    refine ⟨(show PX_S1_1 (F 42) _ from ⟨_, rfl, (by first | assumption | omega | exact hp.1 | exact hp.2.1 | exact hp.2.2.1 | exact hp.2.2.2.1 | exact hp.2.2.2.2.1 | exact hp.2.2.2.2 | exact hp.2.2.2 | exact hp.2.2 | exact hp.2)⟩), ?_⟩
    refine ⟨(show PX_S1_2 (F 43) _ from ⟨_, rfl, (by first | assumption | omega | exact hp.1 | exact hp.2.1 | exact hp.2.2.1 | exact hp.2.2.2.1 | exact hp.2.2.2.2.1 | exact hp.2.2.2.2 | exact hp.2.2.2 | exact hp.2.2 | exact hp.2)⟩), ?_⟩
    refine ⟨(show PX_GU _ from ⟨_, rfl, (by first | assumption | omega | exact hp.1 | exact hp.2.1 | exact hp.2.2.1 | exact hp.2.2.2.1 | exact hp.2.2.2.2.1 | exact hp.2.2.2.2 | exact hp.2.2.2 | exact hp.2.2 | exact hp.2)⟩), ?_⟩
    refine ⟨(show PX_GU_1 _ from ⟨_, rfl⟩), ?_⟩
    refine ⟨(show PX_GU_2 _ from ⟨_, rfl⟩), ?_⟩
    refine ⟨(show PX_GU_3 _ from ⟨_, rfl⟩), ?_⟩
    refine ⟨(show PX_GU_4 _ from ⟨_, rfl⟩), ?_⟩
    exact trivial
