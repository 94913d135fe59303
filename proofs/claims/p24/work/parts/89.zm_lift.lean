def rHtc (F : Nat → Nat → Int) (a b z : Int) : Prop := bA (F 3 0) (rwD (F 91) 0) (rwD (F 91) 75) a (-1) z (fun D z => HtA D b z)
def rHtm (F : Nat → Nat → Int) (a b z : Int) : Prop := bM (F 90 0) (F 91) a (-1) z (fun D z => HtA D b z)

set_option maxHeartbeats 2000000 in
set_option maxRecDepth 100000 in
theorem mL_GX11_hats (l : Launch) (F U : Nat → Nat → Int) : q_M l yX11_hats cX11_hats 4 (some .int) 2 47 (spV (LC F U) (fun av r => ∃ a b z : Int, av = [q2 0, q1 a, q1 b] ∧ r = some (q1 z) ∧ (RGA F U → rHtc F a b z)) (fun av => ∃ a b : Int, av = [q2 0, q1 a, q1 b])) := by
  by_cases hH : RGA F U
  · refine q_M_mono (fun av w Q h9 => ?_) (q_M_fr (m_GX11_hats l))
    obtain ⟨h9, ⟨a, b, rfl⟩, hQ9⟩ := h9
    obtain ⟨_, e9_0, rfl⟩ := h9 0 _ rfl
    obtain ⟨_, e9_1, ln, fa, pl, rfl, i9_1_0, i9_1_1⟩ := h9 1 _ rfl
    obtain ⟨_, e9_2, tp, rfl, i9_2_0⟩ := h9 2 _ rfl
    obtain ⟨_, e9_3, ct, rfl, i9_3_0, i9_3_1⟩ := h9 3 _ rfl
    obtain ⟨_, e9_4, rfl⟩ := h9 4 _ rfl
    obtain ⟨_, e9_5, b0u0, b0u1, b0u2, b0u3, b0u4, rfl, i9_5_0, i9_5_1⟩ := h9 8 _ rfl
    obtain ⟨_, e9_6, b0f1, rfl, i9_6_0⟩ := h9 9 _ rfl
    obtain ⟨_, e9_7, b0f2, rfl, i9_7_0⟩ := h9 10 _ rfl
    obtain ⟨_, e9_8, b0f3, rfl, i9_8_0, i9_8_1⟩ := h9 11 _ rfl
    obtain ⟨_, e9_9, b0f4, rfl, i9_9_0⟩ := h9 12 _ rfl
    obtain ⟨_, e9_10, b0f5, rfl, i9_10_0⟩ := h9 13 _ rfl
    obtain ⟨_, e9_11, b0f6, rfl, i9_11_0⟩ := h9 14 _ rfl
    obtain ⟨_, e9_12, b0f7, rfl, i9_12_0⟩ := h9 15 _ rfl
    obtain ⟨_, e9_13, b1u0, b1u1, b1u2, b1u3, b1u4, rfl, i9_13_0, i9_13_1⟩ := h9 16 _ rfl
    obtain ⟨_, e9_14, b1f1, rfl, i9_14_0⟩ := h9 17 _ rfl
    obtain ⟨_, e9_15, b1f2, rfl, i9_15_0⟩ := h9 18 _ rfl
    obtain ⟨_, e9_16, b1f3, rfl, i9_16_0, i9_16_1⟩ := h9 19 _ rfl
    obtain ⟨_, e9_17, b1f4, rfl, i9_17_0⟩ := h9 20 _ rfl
    obtain ⟨_, e9_18, b1f5, rfl, i9_18_0⟩ := h9 21 _ rfl
    obtain ⟨_, e9_19, b1f6, rfl, i9_19_0⟩ := h9 22 _ rfl
    obtain ⟨_, e9_20, b1f7, rfl, i9_20_0⟩ := h9 23 _ rfl
    obtain ⟨_, e9_21, rfl⟩ := h9 81 _ rfl
    obtain ⟨_, e9_22, crc1, rfl⟩ := h9 82 _ rfl
    obtain ⟨_, e9_23, crc2, rfl⟩ := h9 83 _ rfl
    obtain ⟨_, e9_24, crc3, rfl⟩ := h9 84 _ rfl
    refine ⟨[0, 1, 2, 3, 4, 8, 9, 10, 11, 12, 13, 14, 15, 16, 17, 18, 19, 20, 21, 22, 23, 81, 82, 83, 84, 44, 45, 66, 70, 72, 76, 5, 6, 7], [q2 0, q1 a, q1 b], [.inr (11, [q2 1, q2 25, q2 26, q2 27, q2 28, q2 29, q2 30, q2 21]), .inr (8, [q2 2, q2 3, q2 4, q2 31, q2 32, q2 33, q1 ln, q1 fa, q1 pl]), .inl (1, 600, .inl tp), .inl (0, 4, .inl ct), .inl (4, 2, .inr (.inr [some 5, some 13])), .inr (0, [q2 6, q2 7, q2 8, q2 9, q2 10, q2 11, q2 12, q1 b0u0, q1 b0u1, q1 b0u2, q1 b0u3, q1 b0u4]), .inl (0, 8, .inl b0f1), .inl (0, 8, .inl b0f2), .inl (0, 4, .inl b0f3), .inl (0, 32, .inl b0f4), .inl (0, 6, .inl b0f5), .inl (0, 6, .inl b0f6), .inl (0, 6, .inl b0f7), .inr (0, [q2 14, q2 15, q2 16, q2 17, q2 18, q2 19, q2 20, q1 b1u0, q1 b1u1, q1 b1u2, q1 b1u3, q1 b1u4]), .inl (0, 8, .inl b1f1), .inl (0, 8, .inl b1f2), .inl (0, 4, .inl b1f3), .inl (0, 32, .inl b1f4), .inl (0, 6, .inl b1f5), .inl (0, 6, .inl b1f6), .inl (0, 6, .inl b1f7), .inr (1, [q2 22, q2 23, q2 24]), .inl (0, 8, .inl crc1), .inl (0, 256, .inl crc2), .inl (3, 9, .inr (.inl crc3))], rfl, ?_, rfl, ?_⟩
    · show [w[0]?, w[1]?, w[2]?, w[3]?, w[4]?, w[8]?, w[9]?, w[10]?, w[11]?, w[12]?, w[13]?, w[14]?, w[15]?, w[16]?, w[17]?, w[18]?, w[19]?, w[20]?, w[21]?, w[22]?, w[23]?, w[81]?, w[82]?, w[83]?, w[84]?] = _
      rw [e9_0, e9_1, e9_2, e9_3, e9_4, e9_5, e9_6, e9_7, e9_8, e9_9, e9_10, e9_11, e9_12, e9_13, e9_14, e9_15, e9_16, e9_17, e9_18, e9_19, e9_20, e9_21, e9_22, e9_23, e9_24]
      rfl
    · refine ⟨tp, ct, ln, fa, pl, b0f1, b0f2, b0f3, b0f4, b0f5, b0f6, b0f7, b0u0, b0u1, b0u2, b0u3, b0u4, b1f1, b1f2, b1f3, b1f4, b1f5, b1f6, b1f7, b1u0, b1u1, b1u2, b1u3, b1u4, crc1, crc2, crc3, a, b, (rwD (F 91) 0), (rwD (F 91) 75), rfl, rfl, (by first | assumption | omega), (by first | assumption | omega), (by first | assumption | omega), (by first | assumption | omega), (by first | assumption | omega), (by first | assumption | omega), (fun h0 => (by rw [i9_3_1] at h0; rw [i9_6_0, i9_7_0, i9_8_1, i9_9_0, i9_10_0, i9_11_0, i9_12_0, i9_5_1.1, i9_5_1.2.1, i9_5_1.2.2.1, i9_5_1.2.2.2.1, i9_5_1.2.2.2.2]; exact RGA_0 hH h0)), (fun h0 => (by rw [i9_3_1] at h0; rw [i9_14_0, i9_15_0, i9_16_1, i9_17_0, i9_18_0, i9_19_0, i9_20_0, i9_13_1.1, i9_13_1.2.1, i9_13_1.2.2.1, i9_13_1.2.2.2.1, i9_13_1.2.2.2.2]; exact RGA_1 hH h0)), fun r x_crc1 x_crc2 x_crc3 hp hlen => ?_⟩
      refine hQ9 _ _ (PW_bw h9 rfl ?_) (by rw [q_bw_len]) (bw_out rfl) ⟨a, b, r, rfl, rfl, fun _ => (by have q9 := hp; rw [i9_3_1] at q9; exact q9)⟩
      refine ⟨(show PX_H _ from rfl), ?_⟩
      refine ⟨(show PX_T (U 1) _ from ⟨_, _, _, rfl, (by first | assumption | omega | exact hp.1 | exact hp.2.1 | exact hp.2.2.1 | exact hp.2.2.2.1 | exact hp.2.2.2.2.1 | exact hp.2.2.2.2 | exact hp.2.2.2 | exact hp.2.2 | exact hp.2), (by first | assumption | omega | exact hp.1 | exact hp.2.1 | exact hp.2.2.1 | exact hp.2.2.2.1 | exact hp.2.2.2.2.1 | exact hp.2.2.2.2 | exact hp.2.2.2 | exact hp.2.2 | exact hp.2)⟩), ?_⟩
      refine ⟨(show PX_Ttp (F 2) _ from ⟨_, rfl, (by first | assumption | omega | exact hp.1 | exact hp.2.1 | exact hp.2.2.1 | exact hp.2.2.2.1 | exact hp.2.2.2.2.1 | exact hp.2.2.2.2 | exact hp.2.2.2 | exact hp.2.2 | exact hp.2)⟩), ?_⟩
      refine ⟨(show PX_Tct (F 3) _ from ⟨_, rfl, (by first | assumption | omega | exact hp.1 | exact hp.2.1 | exact hp.2.2.1 | exact hp.2.2.2.1 | exact hp.2.2.2.2.1 | exact hp.2.2.2.2 | exact hp.2.2.2 | exact hp.2.2 | exact hp.2), (by first | assumption | omega | exact hp.1 | exact hp.2.1 | exact hp.2.2.1 | exact hp.2.2.2.1 | exact hp.2.2.2.2.1 | exact hp.2.2.2.2 | exact hp.2.2.2 | exact hp.2.2 | exact hp.2)⟩), ?_⟩
      refine ⟨(show PX_TBa _ from rfl), ?_⟩
      refine ⟨(show PX_B0 (U 8) _ from ⟨_, _, _, _, _, rfl, (by first | assumption | omega | exact hp.1 | exact hp.2.1 | exact hp.2.2.1 | exact hp.2.2.2.1 | exact hp.2.2.2.2.1 | exact hp.2.2.2.2 | exact hp.2.2.2 | exact hp.2.2 | exact hp.2), (by first | assumption | omega | exact hp.1 | exact hp.2.1 | exact hp.2.2.1 | exact hp.2.2.2.1 | exact hp.2.2.2.2.1 | exact hp.2.2.2.2 | exact hp.2.2.2 | exact hp.2.2 | exact hp.2)⟩), ?_⟩
      refine ⟨(show PX_B0_1 (F 9) _ from ⟨_, rfl, (by first | assumption | omega | exact hp.1 | exact hp.2.1 | exact hp.2.2.1 | exact hp.2.2.2.1 | exact hp.2.2.2.2.1 | exact hp.2.2.2.2 | exact hp.2.2.2 | exact hp.2.2 | exact hp.2)⟩), ?_⟩
      refine ⟨(show PX_B0_2 (F 10) _ from ⟨_, rfl, (by first | assumption | omega | exact hp.1 | exact hp.2.1 | exact hp.2.2.1 | exact hp.2.2.2.1 | exact hp.2.2.2.2.1 | exact hp.2.2.2.2 | exact hp.2.2.2 | exact hp.2.2 | exact hp.2)⟩), ?_⟩
      refine ⟨(show PX_B0_3 (F 11) _ from ⟨_, rfl, (by first | assumption | omega | exact hp.1 | exact hp.2.1 | exact hp.2.2.1 | exact hp.2.2.2.1 | exact hp.2.2.2.2.1 | exact hp.2.2.2.2 | exact hp.2.2.2 | exact hp.2.2 | exact hp.2), (by first | assumption | omega | exact hp.1 | exact hp.2.1 | exact hp.2.2.1 | exact hp.2.2.2.1 | exact hp.2.2.2.2.1 | exact hp.2.2.2.2 | exact hp.2.2.2 | exact hp.2.2 | exact hp.2)⟩), ?_⟩
      refine ⟨(show PX_B0_4 (F 12) _ from ⟨_, rfl, (by first | assumption | omega | exact hp.1 | exact hp.2.1 | exact hp.2.2.1 | exact hp.2.2.2.1 | exact hp.2.2.2.2.1 | exact hp.2.2.2.2 | exact hp.2.2.2 | exact hp.2.2 | exact hp.2)⟩), ?_⟩
      refine ⟨(show PX_B0_5 (F 13) _ from ⟨_, rfl, (by first | assumption | omega | exact hp.1 | exact hp.2.1 | exact hp.2.2.1 | exact hp.2.2.2.1 | exact hp.2.2.2.2.1 | exact hp.2.2.2.2 | exact hp.2.2.2 | exact hp.2.2 | exact hp.2)⟩), ?_⟩
      refine ⟨(show PX_B0_6 (F 14) _ from ⟨_, rfl, (by first | assumption | omega | exact hp.1 | exact hp.2.1 | exact hp.2.2.1 | exact hp.2.2.2.1 | exact hp.2.2.2.2.1 | exact hp.2.2.2.2 | exact hp.2.2.2 | exact hp.2.2 | exact hp.2)⟩), ?_⟩
      refine ⟨(show PX_B0_7 (F 15) _ from ⟨_, rfl, (by first | assumption | omega | exact hp.1 | exact hp.2.1 | exact hp.2.2.1 | exact hp.2.2.2.1 | exact hp.2.2.2.2.1 | exact hp.2.2.2.2 | exact hp.2.2.2 | exact hp.2.2 | exact hp.2)⟩), ?_⟩
      refine ⟨(show PX_B1 (U 16) _ from ⟨_, _, _, _, _, rfl, (by first | assumption | omega | exact hp.1 | exact hp.2.1 | exact hp.2.2.1 | exact hp.2.2.2.1 | exact hp.2.2.2.2.1 | exact hp.2.2.2.2 | exact hp.2.2.2 | exact hp.2.2 | exact hp.2), (by first | assumption | omega | exact hp.1 | exact hp.2.1 | exact hp.2.2.1 | exact hp.2.2.2.1 | exact hp.2.2.2.2.1 | exact hp.2.2.2.2 | exact hp.2.2.2 | exact hp.2.2 | exact hp.2)⟩), ?_⟩
      refine ⟨(show PX_B1_1 (F 17) _ from ⟨_, rfl, (by first | assumption | omega | exact hp.1 | exact hp.2.1 | exact hp.2.2.1 | exact hp.2.2.2.1 | exact hp.2.2.2.2.1 | exact hp.2.2.2.2 | exact hp.2.2.2 | exact hp.2.2 | exact hp.2)⟩), ?_⟩
      refine ⟨(show PX_B1_2 (F 18) _ from ⟨_, rfl, (by first | assumption | omega | exact hp.1 | exact hp.2.1 | exact hp.2.2.1 | exact hp.2.2.2.1 | exact hp.2.2.2.2.1 | exact hp.2.2.2.2 | exact hp.2.2.2 | exact hp.2.2 | exact hp.2)⟩), ?_⟩
      refine ⟨(show PX_B1_3 (F 19) _ from ⟨_, rfl, (by first | assumption | omega | exact hp.1 | exact hp.2.1 | exact hp.2.2.1 | exact hp.2.2.2.1 | exact hp.2.2.2.2.1 | exact hp.2.2.2.2 | exact hp.2.2.2 | exact hp.2.2 | exact hp.2), (by first | assumption | omega | exact hp.1 | exact hp.2.1 | exact hp.2.2.1 | exact hp.2.2.2.1 | exact hp.2.2.2.2.1 | exact hp.2.2.2.2 | exact hp.2.2.2 | exact hp.2.2 | exact hp.2)⟩), ?_⟩
      refine ⟨(show PX_B1_4 (F 20) _ from ⟨_, rfl, (by first | assumption | omega | exact hp.1 | exact hp.2.1 | exact hp.2.2.1 | exact hp.2.2.2.1 | exact hp.2.2.2.2.1 | exact hp.2.2.2.2 | exact hp.2.2.2 | exact hp.2.2 | exact hp.2)⟩), ?_⟩
      refine ⟨(show PX_B1_5 (F 21) _ from ⟨_, rfl, (by first | assumption | omega | exact hp.1 | exact hp.2.1 | exact hp.2.2.1 | exact hp.2.2.2.1 | exact hp.2.2.2.2.1 | exact hp.2.2.2.2 | exact hp.2.2.2 | exact hp.2.2 | exact hp.2)⟩), ?_⟩
      refine ⟨(show PX_B1_6 (F 22) _ from ⟨_, rfl, (by first | assumption | omega | exact hp.1 | exact hp.2.1 | exact hp.2.2.1 | exact hp.2.2.2.1 | exact hp.2.2.2.2.1 | exact hp.2.2.2.2 | exact hp.2.2.2 | exact hp.2.2 | exact hp.2)⟩), ?_⟩
      refine ⟨(show PX_B1_7 (F 23) _ from ⟨_, rfl, (by first | assumption | omega | exact hp.1 | exact hp.2.1 | exact hp.2.2.1 | exact hp.2.2.2.1 | exact hp.2.2.2.2.1 | exact hp.2.2.2.2 | exact hp.2.2.2 | exact hp.2.2 | exact hp.2)⟩), ?_⟩
      refine ⟨(show PX_CR _ from rfl), ?_⟩
      refine ⟨(show PX_CR_1 _ from ⟨_, rfl⟩), ?_⟩
      refine ⟨(show PX_CR_2 _ from ⟨_, rfl⟩), ?_⟩
      refine ⟨(show PX_CR_3 _ from ⟨_, rfl⟩), ?_⟩
      exact trivial
  · refine q_M_mono (fun av w Q h9 => ?_) (mL_X11_hats l F U)
    obtain ⟨h9, ⟨a, b, rfl⟩, hQ9⟩ := h9
    exact ⟨h9, ⟨a, b, rfl⟩, fun r w1 b1 b2 b3 b4 => by obtain ⟨z, rfl⟩ := b4; exact hQ9 _ _ b1 b2 b3 ⟨a, b, z, rfl, rfl, fun h => absurd h hH⟩⟩
