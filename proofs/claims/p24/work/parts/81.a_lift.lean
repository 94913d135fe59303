set_option maxHeartbeats 2000000 in
set_option maxRecDepth 100000 in
theorem mL_X11_feed (l : Launch) (F U : Nat → Nat → Int) : q_M l yX11_feed cX11_feed 6 (some .int) 1 22 (spG F U (fun av => ∃ a b cc dd ee : Int, av = [q2 0, q1 a, q1 b, q1 cc, q1 dd, q1 ee]) (fun av r F' U' => ∃ a b c d e z : Int, av = [q2 0, q1 a, q1 b, q1 c, q1 d, q1 e] ∧ r = some (q1 z) ∧ feC F U F' U' a b c d e z)) := by
  refine q_M_mono (fun av w Q h9 => ?_) (q_M_fr (m_FX11_feed l))
  obtain ⟨h9, ⟨a, b, cc, dd, ee, rfl⟩, hQ9⟩ := h9
  obtain ⟨_, e9_0, rfl⟩ := h9 0 _ rfl
  obtain ⟨_, e9_1, ln, fa, pl, rfl, i9_1_0, i9_1_1⟩ := h9 1 _ rfl
  obtain ⟨_, e9_2, tp, rfl, i9_2_0⟩ := h9 2 _ rfl
  obtain ⟨_, e9_3, ct, rfl, i9_3_0, i9_3_1⟩ := h9 3 _ rfl
  refine ⟨[0, 1, 2, 3, 44, 45, 66, 70, 72, 76, 81, 4, 5, 6, 7], [q2 0, q1 a, q1 b, q1 cc, q1 dd, q1 ee], [.inr (11, [q2 1, q2 4, q2 5, q2 6, q2 7, q2 8, q2 9, q2 10]), .inr (8, [q2 2, q2 3, q2 11, q2 12, q2 13, q2 14, q1 ln, q1 fa, q1 pl]), .inl (1, 600, .inl tp), .inl (0, 4, .inl ct)], rfl, ?_, rfl, ?_⟩
  · show [w[0]?, w[1]?, w[2]?, w[3]?] = _
    rw [e9_0, e9_1, e9_2, e9_3]
    rfl
  · refine ⟨tp, ct, ln, fa, pl, a, b, cc, dd, ee, rfl, rfl, (by first | assumption | omega), (by first | assumption | omega), fun r x_tp x_ct x_ln x_fa x_pl hp hlen => ?_⟩
    refine hQ9 _ (fu (fu F 2 x_tp) 3 x_ct) (fu U 1 (vL [x_ln, x_fa, x_pl])) _ (PW_bwC h9 rfl (fun i hi => LC_ne (fu_c (fun e => hi (by rw [e]; exact List.mem_of_getElem? (i := 3) rfl)) (fu_c (fun e => hi (by rw [e]; exact List.mem_of_getElem? (i := 2) rfl)) rfl)) (fu_c (fun e => hi (by rw [e]; exact List.mem_of_getElem? (i := 1) rfl)) rfl)) rfl ?_) (by rw [q_bw_len]) (bw_out rfl) ⟨a, b, cc, dd, ee, r, rfl, rfl, feC_of i9_1_1 i9_2_0 i9_3_1 hp.2.2⟩
    refine ⟨(show PX_H _ from rfl), ?_⟩
    refine ⟨(show PX_T ((vL [x_ln, x_fa, x_pl])) _ from ⟨_, _, _, rfl, (by first | assumption | omega | exact hp.1 | exact hp.2.1 | exact hp.2.2.1 | exact hp.2.2.2.1 | exact hp.2.2.2.2.1 | exact hp.2.2.2.2 | exact hp.2.2.2 | exact hp.2.2 | exact hp.2), ⟨rfl, rfl, rfl⟩⟩), ?_⟩
    refine ⟨(show PX_Ttp (x_tp) _ from ⟨_, rfl, rfl⟩), ?_⟩
    refine ⟨(show PX_Tct (x_ct) _ from ⟨_, rfl, (by first | assumption | omega | exact hp.1 | exact hp.2.1 | exact hp.2.2.1 | exact hp.2.2.2.1 | exact hp.2.2.2.2.1 | exact hp.2.2.2.2 | exact hp.2.2.2 | exact hp.2.2 | exact hp.2), rfl⟩), ?_⟩
    exact trivial

set_option maxHeartbeats 2000000 in
set_option maxRecDepth 100000 in
theorem mL_X11_end (l : Launch) (F U : Nat → Nat → Int) : q_M l yX11_end cX11_end 2 (some .int) 0 0 (spG F U (fun av => ∃ a : Int, av = [q2 0, q1 a]) (fun av r F' U' => ∃ a z : Int, av = [q2 0, q1 a] ∧ r = some (q1 z) ∧ enC F U F' U' a z)) := by
  refine q_M_mono (fun av w Q h9 => ?_) (q_M_fr (m_FX11_end l))
  obtain ⟨h9, ⟨a, rfl⟩, hQ9⟩ := h9
  obtain ⟨_, e9_0, rfl⟩ := h9 0 _ rfl
  obtain ⟨_, e9_1, ln, fa, pl, rfl, i9_1_0, i9_1_1⟩ := h9 1 _ rfl
  obtain ⟨_, e9_2, tp, rfl, i9_2_0⟩ := h9 2 _ rfl
  obtain ⟨_, e9_3, ct, rfl, i9_3_0, i9_3_1⟩ := h9 3 _ rfl
  refine ⟨[0, 1, 2, 3, 44, 45, 66, 70, 72, 76, 81, 4, 5, 6, 7], [q2 0, q1 a], [.inr (11, [q2 1, q2 4, q2 5, q2 6, q2 7, q2 8, q2 9, q2 10]), .inr (8, [q2 2, q2 3, q2 11, q2 12, q2 13, q2 14, q1 ln, q1 fa, q1 pl]), .inl (1, 600, .inl tp), .inl (0, 4, .inl ct)], rfl, ?_, rfl, ?_⟩
  · show [w[0]?, w[1]?, w[2]?, w[3]?] = _
    rw [e9_0, e9_1, e9_2, e9_3]
    rfl
  · refine ⟨tp, ct, ln, fa, pl, a, rfl, rfl, (by first | assumption | omega), (by first | assumption | omega), fun r x_tp x_ct x_ln x_fa x_pl hp hlen => ?_⟩
    refine hQ9 _ (fu (fu F 2 x_tp) 3 x_ct) (fu U 1 (vL [x_ln, x_fa, x_pl])) _ (PW_bwC h9 rfl (fun i hi => LC_ne (fu_c (fun e => hi (by rw [e]; exact List.mem_of_getElem? (i := 3) rfl)) (fu_c (fun e => hi (by rw [e]; exact List.mem_of_getElem? (i := 2) rfl)) rfl)) (fu_c (fun e => hi (by rw [e]; exact List.mem_of_getElem? (i := 1) rfl)) rfl)) rfl ?_) (by rw [q_bw_len]) (bw_out rfl) ⟨a, r, rfl, rfl, enC_of i9_1_1 i9_2_0 i9_3_1 hp.2.2⟩
    refine ⟨(show PX_H _ from rfl), ?_⟩
    refine ⟨(show PX_T ((vL [x_ln, x_fa, x_pl])) _ from ⟨_, _, _, rfl, (by first | assumption | omega | exact hp.1 | exact hp.2.1 | exact hp.2.2.1 | exact hp.2.2.2.1 | exact hp.2.2.2.2.1 | exact hp.2.2.2.2 | exact hp.2.2.2 | exact hp.2.2 | exact hp.2), ⟨rfl, rfl, rfl⟩⟩), ?_⟩
    refine ⟨(show PX_Ttp (x_tp) _ from ⟨_, rfl, rfl⟩), ?_⟩
    refine ⟨(show PX_Tct (x_ct) _ from ⟨_, rfl, (by first | assumption | omega | exact hp.1 | exact hp.2.1 | exact hp.2.2.1 | exact hp.2.2.2.1 | exact hp.2.2.2.2.1 | exact hp.2.2.2.2 | exact hp.2.2.2 | exact hp.2.2 | exact hp.2), rfl⟩), ?_⟩
    exact trivial

set_option maxHeartbeats 2000000 in
set_option maxRecDepth 100000 in
theorem mL_X11_fault (l : Launch) (F U : Nat → Nat → Int) : q_M l yX11_fault cX11_fault 2 (some .int) 0 0 (spV (LC F U) (fun av r => ∃ a z : Int, av = [q2 0, q1 a] ∧ r = some (q1 z) ∧ z = if a = 0 then U 1 1 else if a = 1 then U 1 2 else -1) (fun av => ∃ a : Int, av = [q2 0, q1 a])) := by
  refine q_M_mono (fun av w Q h9 => ?_) (q_M_fr (m_FX11_fault l))
  obtain ⟨h9, ⟨a, rfl⟩, hQ9⟩ := h9
  obtain ⟨_, e9_0, rfl⟩ := h9 0 _ rfl
  obtain ⟨_, e9_1, ln, fa, pl, rfl, i9_1_0, i9_1_1⟩ := h9 1 _ rfl
  obtain ⟨_, e9_2, tp, rfl, i9_2_0⟩ := h9 2 _ rfl
  obtain ⟨_, e9_3, ct, rfl, i9_3_0, i9_3_1⟩ := h9 3 _ rfl
  refine ⟨[0, 1, 2, 3, 44, 45, 66, 70, 72, 76, 81, 4, 5, 6, 7], [q2 0, q1 a], [.inr (11, [q2 1, q2 4, q2 5, q2 6, q2 7, q2 8, q2 9, q2 10]), .inr (8, [q2 2, q2 3, q2 11, q2 12, q2 13, q2 14, q1 ln, q1 fa, q1 pl]), .inl (1, 600, .inl tp), .inl (0, 4, .inl ct)], rfl, ?_, rfl, ?_⟩
  · show [w[0]?, w[1]?, w[2]?, w[3]?] = _
    rw [e9_0, e9_1, e9_2, e9_3]
    rfl
  · refine ⟨tp, ct, ln, fa, pl, a, rfl, rfl, (by first | assumption | omega), (by first | assumption | omega), fun r hp hlen => ?_⟩
    refine hQ9 _ _ (PW_bw h9 rfl ?_) (by rw [q_bw_len]) (bw_out rfl) ⟨a, r, rfl, rfl, (by rw [← i9_1_1.2.1, ← i9_1_1.2.2]; exact hp)⟩
    refine ⟨(show PX_H _ from rfl), ?_⟩
    refine ⟨(show PX_T (U 1) _ from ⟨_, _, _, rfl, (by first | assumption | omega | exact hp.1 | exact hp.2.1 | exact hp.2.2.1 | exact hp.2.2.2.1 | exact hp.2.2.2.2.1 | exact hp.2.2.2.2 | exact hp.2.2.2 | exact hp.2.2 | exact hp.2), (by first | assumption | omega | exact hp.1 | exact hp.2.1 | exact hp.2.2.1 | exact hp.2.2.2.1 | exact hp.2.2.2.2.1 | exact hp.2.2.2.2 | exact hp.2.2.2 | exact hp.2.2 | exact hp.2)⟩), ?_⟩
    refine ⟨(show PX_Ttp (F 2) _ from ⟨_, rfl, (by first | assumption | omega | exact hp.1 | exact hp.2.1 | exact hp.2.2.1 | exact hp.2.2.2.1 | exact hp.2.2.2.2.1 | exact hp.2.2.2.2 | exact hp.2.2.2 | exact hp.2.2 | exact hp.2)⟩), ?_⟩
    refine ⟨(show PX_Tct (F 3) _ from ⟨_, rfl, (by first | assumption | omega | exact hp.1 | exact hp.2.1 | exact hp.2.2.1 | exact hp.2.2.2.1 | exact hp.2.2.2.2.1 | exact hp.2.2.2.2 | exact hp.2.2.2 | exact hp.2.2 | exact hp.2), (by first | assumption | omega | exact hp.1 | exact hp.2.1 | exact hp.2.2.1 | exact hp.2.2.2.1 | exact hp.2.2.2.2.1 | exact hp.2.2.2.2 | exact hp.2.2.2 | exact hp.2.2 | exact hp.2)⟩), ?_⟩
    exact trivial

set_option maxHeartbeats 2000000 in
set_option maxRecDepth 100000 in
theorem mL_X11_count (l : Launch) (F U : Nat → Nat → Int) : q_M l yX11_count cX11_count 2 (some .int) 0 0 (spV (LC F U) (fun av r => ∃ a z : Int, av = [q2 0, q1 a] ∧ r = some (q1 z) ∧ ((0 ≤ a ∧ a ≤ 3) ∧ z = F 3 a.toNat ∨ ¬ (0 ≤ a ∧ a ≤ 3) ∧ z = -2)) (fun av => ∃ a : Int, av = [q2 0, q1 a])) := by
  refine q_M_mono (fun av w Q h9 => ?_) (q_M_fr (m_FX11_count l))
  obtain ⟨h9, ⟨a, rfl⟩, hQ9⟩ := h9
  obtain ⟨_, e9_0, rfl⟩ := h9 0 _ rfl
  obtain ⟨_, e9_1, ln, fa, pl, rfl, i9_1_0, i9_1_1⟩ := h9 1 _ rfl
  obtain ⟨_, e9_2, tp, rfl, i9_2_0⟩ := h9 2 _ rfl
  obtain ⟨_, e9_3, ct, rfl, i9_3_0, i9_3_1⟩ := h9 3 _ rfl
  refine ⟨[0, 1, 2, 3, 44, 45, 66, 70, 72, 76, 81, 4, 5, 6, 7], [q2 0, q1 a], [.inr (11, [q2 1, q2 4, q2 5, q2 6, q2 7, q2 8, q2 9, q2 10]), .inr (8, [q2 2, q2 3, q2 11, q2 12, q2 13, q2 14, q1 ln, q1 fa, q1 pl]), .inl (1, 600, .inl tp), .inl (0, 4, .inl ct)], rfl, ?_, rfl, ?_⟩
  · show [w[0]?, w[1]?, w[2]?, w[3]?] = _
    rw [e9_0, e9_1, e9_2, e9_3]
    rfl
  · refine ⟨tp, ct, ln, fa, pl, a, rfl, rfl, (by first | assumption | omega), (by first | assumption | omega), fun r hp hlen => ?_⟩
    refine hQ9 _ _ (PW_bw h9 rfl ?_) (by rw [q_bw_len]) (bw_out rfl) ⟨a, r, rfl, rfl, (by rw [← i9_3_1]; exact hp)⟩
    refine ⟨(show PX_H _ from rfl), ?_⟩
    refine ⟨(show PX_T (U 1) _ from ⟨_, _, _, rfl, (by first | assumption | omega | exact hp.1 | exact hp.2.1 | exact hp.2.2.1 | exact hp.2.2.2.1 | exact hp.2.2.2.2.1 | exact hp.2.2.2.2 | exact hp.2.2.2 | exact hp.2.2 | exact hp.2), (by first | assumption | omega | exact hp.1 | exact hp.2.1 | exact hp.2.2.1 | exact hp.2.2.2.1 | exact hp.2.2.2.2.1 | exact hp.2.2.2.2 | exact hp.2.2.2 | exact hp.2.2 | exact hp.2)⟩), ?_⟩
    refine ⟨(show PX_Ttp (F 2) _ from ⟨_, rfl, (by first | assumption | omega | exact hp.1 | exact hp.2.1 | exact hp.2.2.1 | exact hp.2.2.2.1 | exact hp.2.2.2.2.1 | exact hp.2.2.2.2 | exact hp.2.2.2 | exact hp.2.2 | exact hp.2)⟩), ?_⟩
    refine ⟨(show PX_Tct (F 3) _ from ⟨_, rfl, (by first | assumption | omega | exact hp.1 | exact hp.2.1 | exact hp.2.2.1 | exact hp.2.2.2.1 | exact hp.2.2.2.2.1 | exact hp.2.2.2.2 | exact hp.2.2.2 | exact hp.2.2 | exact hp.2), (by first | assumption | omega | exact hp.1 | exact hp.2.1 | exact hp.2.2.1 | exact hp.2.2.2.1 | exact hp.2.2.2.2.1 | exact hp.2.2.2.2 | exact hp.2.2.2 | exact hp.2.2 | exact hp.2)⟩), ?_⟩
    exact trivial

set_option maxHeartbeats 2000000 in
set_option maxRecDepth 100000 in
theorem mL_X11_borough (l : Launch) (F U : Nat → Nat → Int) : q_M l yX11_borough cX11_borough 4 (some .int) 2 43 (spW F U (fun av => ∃ a b : Int, av = [q2 0, q1 a, q1 b]) rkI) := by
  refine q_M_mono (fun av w Q h9 => ?_) (q_M_fr (m_X11_borough l))
  obtain ⟨h9, ⟨a, b, rfl⟩, hQ9⟩ := h9
  obtain ⟨_, e9_0, rfl⟩ := h9 0 _ rfl
  obtain ⟨_, e9_1, ln, fa, pl, rfl, i9_1_0, i9_1_1⟩ := h9 1 _ rfl
  obtain ⟨_, e9_2, tp, rfl, i9_2_0⟩ := h9 2 _ rfl
  obtain ⟨_, e9_3, ct, rfl, i9_3_0, i9_3_1⟩ := h9 3 _ rfl
  obtain ⟨_, e9_4, rfl⟩ := h9 4 _ rfl
  obtain ⟨_, e9_5, b0u0, b0u1, b0u2, b0u3, b0u4, rfl, i9_5_0, i9_5_1⟩ := h9 8 _ rfl
  obtain ⟨_, e9_6, b0f1, rfl, i9_6_0⟩ := h9 9 _ rfl
  obtain ⟨_, e9_7, b0f2, rfl, i9_7_0⟩ := h9 10 _ rfl
  obtain ⟨_, e9_8, b0f3, rfl, i9_8_0, i9_8_1⟩ := h9 11 _ rfl
  obtain ⟨_, e9_9, b0f4, rfl, i9_9_0⟩ := h9 12 _ rfl
  obtain ⟨_, e9_10, b0f5, rfl, i9_10_0⟩ := h9 13 _ rfl
  obtain ⟨_, e9_11, b0f6, rfl, i9_11_0⟩ := h9 14 _ rfl
  obtain ⟨_, e9_12, b0f7, rfl, i9_12_0⟩ := h9 15 _ rfl
  obtain ⟨_, e9_13, b1u0, b1u1, b1u2, b1u3, b1u4, rfl, i9_13_0, i9_13_1⟩ := h9 16 _ rfl
  obtain ⟨_, e9_14, b1f1, rfl, i9_14_0⟩ := h9 17 _ rfl
  obtain ⟨_, e9_15, b1f2, rfl, i9_15_0⟩ := h9 18 _ rfl
  obtain ⟨_, e9_16, b1f3, rfl, i9_16_0, i9_16_1⟩ := h9 19 _ rfl
  obtain ⟨_, e9_17, b1f4, rfl, i9_17_0⟩ := h9 20 _ rfl
  obtain ⟨_, e9_18, b1f5, rfl, i9_18_0⟩ := h9 21 _ rfl
  obtain ⟨_, e9_19, b1f6, rfl, i9_19_0⟩ := h9 22 _ rfl
  obtain ⟨_, e9_20, b1f7, rfl, i9_20_0⟩ := h9 23 _ rfl
  refine ⟨[0, 1, 2, 3, 4, 8, 9, 10, 11, 12, 13, 14, 15, 16, 17, 18, 19, 20, 21, 22, 23, 44, 45, 66, 70, 72, 76, 81, 5, 6, 7], [q2 0, q1 a, q1 b], [.inr (11, [q2 1, q2 21, q2 22, q2 23, q2 24, q2 25, q2 26, q2 27]), .inr (8, [q2 2, q2 3, q2 4, q2 28, q2 29, q2 30, q1 ln, q1 fa, q1 pl]), .inl (1, 600, .inl tp), .inl (0, 4, .inl ct), .inl (4, 2, .inr (.inr [some 5, some 13])), .inr (0, [q2 6, q2 7, q2 8, q2 9, q2 10, q2 11, q2 12, q1 b0u0, q1 b0u1, q1 b0u2, q1 b0u3, q1 b0u4]), .inl (0, 8, .inl b0f1), .inl (0, 8, .inl b0f2), .inl (0, 4, .inl b0f3), .inl (0, 32, .inl b0f4), .inl (0, 6, .inl b0f5), .inl (0, 6, .inl b0f6), .inl (0, 6, .inl b0f7), .inr (0, [q2 14, q2 15, q2 16, q2 17, q2 18, q2 19, q2 20, q1 b1u0, q1 b1u1, q1 b1u2, q1 b1u3, q1 b1u4]), .inl (0, 8, .inl b1f1), .inl (0, 8, .inl b1f2), .inl (0, 4, .inl b1f3), .inl (0, 32, .inl b1f4), .inl (0, 6, .inl b1f5), .inl (0, 6, .inl b1f6), .inl (0, 6, .inl b1f7)], rfl, ?_, rfl, ?_⟩
  · show [w[0]?, w[1]?, w[2]?, w[3]?, w[4]?, w[8]?, w[9]?, w[10]?, w[11]?, w[12]?, w[13]?, w[14]?, w[15]?, w[16]?, w[17]?, w[18]?, w[19]?, w[20]?, w[21]?, w[22]?, w[23]?] = _
    rw [e9_0, e9_1, e9_2, e9_3, e9_4, e9_5, e9_6, e9_7, e9_8, e9_9, e9_10, e9_11, e9_12, e9_13, e9_14, e9_15, e9_16, e9_17, e9_18, e9_19, e9_20]
    rfl
  · refine ⟨tp, ct, ln, fa, pl, b0f1, b0f2, b0f3, b0f4, b0f5, b0f6, b0f7, b0u0, b0u1, b0u2, b0u3, b0u4, b1f1, b1f2, b1f3, b1f4, b1f5, b1f6, b1f7, b1u0, b1u1, b1u2, b1u3, b1u4, a, b, rfl, rfl, (by first | assumption | omega), (by first | assumption | omega), (by first | assumption | omega), (by first | assumption | omega), (by first | assumption | omega), (by first | assumption | omega), fun r hlen => ?_⟩
    refine hQ9 _ _ (PW_bw h9 rfl ?_) (by rw [q_bw_len]) (bw_out rfl) ⟨_, rfl⟩
    refine ⟨(show PX_H _ from rfl), ?_⟩
    refine ⟨(show PX_T (U 1) _ from ⟨_, _, _, rfl, (by first | assumption | omega | exact hp.1 | exact hp.2.1 | exact hp.2.2.1 | exact hp.2.2.2.1 | exact hp.2.2.2.2.1 | exact hp.2.2.2.2 | exact hp.2.2.2 | exact hp.2.2 | exact hp.2), (by first | assumption | omega | exact hp.1 | exact hp.2.1 | exact hp.2.2.1 | exact hp.2.2.2.1 | exact hp.2.2.2.2.1 | exact hp.2.2.2.2 | exact hp.2.2.2 | exact hp.2.2 | exact hp.2)⟩), ?_⟩
    refine ⟨(show PX_Ttp (F 2) _ from ⟨_, rfl, (by first | assumption | omega | exact hp.1 | exact hp.2.1 | exact hp.2.2.1 | exact hp.2.2.2.1 | exact hp.2.2.2.2.1 | exact hp.2.2.2.2 | exact hp.2.2.2 | exact hp.2.2 | exact hp.2)⟩), ?_⟩
    refine ⟨(show PX_Tct (F 3) _ from ⟨_, rfl, (by first | assumption | omega | exact hp.1 | exact hp.2.1 | exact hp.2.2.1 | exact hp.2.2.2.1 | exact hp.2.2.2.2.1 | exact hp.2.2.2.2 | exact hp.2.2.2 | exact hp.2.2 | exact hp.2), (by first | assumption | omega | exact hp.1 | exact hp.2.1 | exact hp.2.2.1 | exact hp.2.2.2.1 | exact hp.2.2.2.2.1 | exact hp.2.2.2.2 | exact hp.2.2.2 | exact hp.2.2 | exact hp.2)⟩), ?_⟩
    refine ⟨(show PX_TBa _ from rfl), ?_⟩
    refine ⟨(show PX_B0 (U 8) _ from ⟨_, _, _, _, _, rfl, (by first | assumption | omega | exact hp.1 | exact hp.2.1 | exact hp.2.2.1 | exact hp.2.2.2.1 | exact hp.2.2.2.2.1 | exact hp.2.2.2.2 | exact hp.2.2.2 | exact hp.2.2 | exact hp.2), (by first | assumption | omega | exact hp.1 | exact hp.2.1 | exact hp.2.2.1 | exact hp.2.2.2.1 | exact hp.2.2.2.2.1 | exact hp.2.2.2.2 | exact hp.2.2.2 | exact hp.2.2 | exact hp.2)⟩), ?_⟩
    refine ⟨(show PX_B0_1 (F 9) _ from ⟨_, rfl, (by first | assumption | omega | exact hp.1 | exact hp.2.1 | exact hp.2.2.1 | exact hp.2.2.2.1 | exact hp.2.2.2.2.1 | exact hp.2.2.2.2 | exact hp.2.2.2 | exact hp.2.2 | exact hp.2)⟩), ?_⟩
    refine ⟨(show PX_B0_2 (F 10) _ from ⟨_, rfl, (by first | assumption | omega | exact hp.1 | exact hp.2.1 | exact hp.2.2.1 | exact hp.2.2.2.1 | exact hp.2.2.2.2.1 | exact hp.2.2.2.2 | exact hp.2.2.2 | exact hp.2.2 | exact hp.2)⟩), ?_⟩
    refine ⟨(show PX_B0_3 (F 11) _ from ⟨_, rfl, (by first | assumption | omega | exact hp.1 | exact hp.2.1 | exact hp.2.2.1 | exact hp.2.2.2.1 | exact hp.2.2.2.2.1 | exact hp.2.2.2.2 | exact hp.2.2.2 | exact hp.2.2 | exact hp.2), (by first | assumption | omega | exact hp.1 | exact hp.2.1 | exact hp.2.2.1 | exact hp.2.2.2.1 | exact hp.2.2.2.2.1 | exact hp.2.2.2.2 | exact hp.2.2.2 | exact hp.2.2 | exact hp.2)⟩), ?_⟩
    refine ⟨(show PX_B0_4 (F 12) _ from ⟨_, rfl, (by first | assumption | omega | exact hp.1 | exact hp.2.1 | exact hp.2.2.1 | exact hp.2.2.2.1 | exact hp.2.2.2.2.1 | exact hp.2.2.2.2 | exact hp.2.2.2 | exact hp.2.2 | exact hp.2)⟩), ?_⟩
    refine ⟨(show PX_B0_5 (F 13) _ from ⟨_, rfl, (by first | assumption | omega | exact hp.1 | exact hp.2.1 | exact hp.2.2.1 | exact hp.2.2.2.1 | exact hp.2.2.2.2.1 | exact hp.2.2.2.2 | exact hp.2.2.2 | exact hp.2.2 | exact hp.2)⟩), ?_⟩
    refine ⟨(show PX_B0_6 (F 14) _ from ⟨_, rfl, (by first | assumption | omega | exact hp.1 | exact hp.2.1 | exact hp.2.2.1 | exact hp.2.2.2.1 | exact hp.2.2.2.2.1 | exact hp.2.2.2.2 | exact hp.2.2.2 | exact hp.2.2 | exact hp.2)⟩), ?_⟩
    refine ⟨(show PX_B0_7 (F 15) _ from ⟨_, rfl, (by first | assumption | omega | exact hp.1 | exact hp.2.1 | exact hp.2.2.1 | exact hp.2.2.2.1 | exact hp.2.2.2.2.1 | exact hp.2.2.2.2 | exact hp.2.2.2 | exact hp.2.2 | exact hp.2)⟩), ?_⟩
    refine ⟨(show PX_B1 (U 16) _ from ⟨_, _, _, _, _, rfl, (by first | assumption | omega | exact hp.1 | exact hp.2.1 | exact hp.2.2.1 | exact hp.2.2.2.1 | exact hp.2.2.2.2.1 | exact hp.2.2.2.2 | exact hp.2.2.2 | exact hp.2.2 | exact hp.2), (by first | assumption | omega | exact hp.1 | exact hp.2.1 | exact hp.2.2.1 | exact hp.2.2.2.1 | exact hp.2.2.2.2.1 | exact hp.2.2.2.2 | exact hp.2.2.2 | exact hp.2.2 | exact hp.2)⟩), ?_⟩
    refine ⟨(show PX_B1_1 (F 17) _ from ⟨_, rfl, (by first | assumption | omega | exact hp.1 | exact hp.2.1 | exact hp.2.2.1 | exact hp.2.2.2.1 | exact hp.2.2.2.2.1 | exact hp.2.2.2.2 | exact hp.2.2.2 | exact hp.2.2 | exact hp.2)⟩), ?_⟩
    refine ⟨(show PX_B1_2 (F 18) _ from ⟨_, rfl, (by first | assumption | omega | exact hp.1 | exact hp.2.1 | exact hp.2.2.1 | exact hp.2.2.2.1 | exact hp.2.2.2.2.1 | exact hp.2.2.2.2 | exact hp.2.2.2 | exact hp.2.2 | exact hp.2)⟩), ?_⟩
    refine ⟨(show PX_B1_3 (F 19) _ from ⟨_, rfl, (by first | assumption | omega | exact hp.1 | exact hp.2.1 | exact hp.2.2.1 | exact hp.2.2.2.1 | exact hp.2.2.2.2.1 | exact hp.2.2.2.2 | exact hp.2.2.2 | exact hp.2.2 | exact hp.2), (by first | assumption | omega | exact hp.1 | exact hp.2.1 | exact hp.2.2.1 | exact hp.2.2.2.1 | exact hp.2.2.2.2.1 | exact hp.2.2.2.2 | exact hp.2.2.2 | exact hp.2.2 | exact hp.2)⟩), ?_⟩
    refine ⟨(show PX_B1_4 (F 20) _ from ⟨_, rfl, (by first | assumption | omega | exact hp.1 | exact hp.2.1 | exact hp.2.2.1 | exact hp.2.2.2.1 | exact hp.2.2.2.2.1 | exact hp.2.2.2.2 | exact hp.2.2.2 | exact hp.2.2 | exact hp.2)⟩), ?_⟩
    refine ⟨(show PX_B1_5 (F 21) _ from ⟨_, rfl, (by first | assumption | omega | exact hp.1 | exact hp.2.1 | exact hp.2.2.1 | exact hp.2.2.2.1 | exact hp.2.2.2.2.1 | exact hp.2.2.2.2 | exact hp.2.2.2 | exact hp.2.2 | exact hp.2)⟩), ?_⟩
    refine ⟨(show PX_B1_6 (F 22) _ from ⟨_, rfl, (by first | assumption | omega | exact hp.1 | exact hp.2.1 | exact hp.2.2.1 | exact hp.2.2.2.1 | exact hp.2.2.2.2.1 | exact hp.2.2.2.2 | exact hp.2.2.2 | exact hp.2.2 | exact hp.2)⟩), ?_⟩
    refine ⟨(show PX_B1_7 (F 23) _ from ⟨_, rfl, (by first | assumption | omega | exact hp.1 | exact hp.2.1 | exact hp.2.2.1 | exact hp.2.2.2.1 | exact hp.2.2.2.2.1 | exact hp.2.2.2.2 | exact hp.2.2.2 | exact hp.2.2 | exact hp.2)⟩), ?_⟩
    exact trivial

set_option maxHeartbeats 2000000 in
set_option maxRecDepth 100000 in
theorem mL_X11_deed (l : Launch) (F U : Nat → Nat → Int) : q_M l yX11_deed cX11_deed 5 (some .int) 2 43 (spW F U (fun av => ∃ a b cc : Int, av = [q2 0, q1 a, q1 b, q1 cc]) rkI) := by
  refine q_M_mono (fun av w Q h9 => ?_) (q_M_fr (m_X11_deed l))
  obtain ⟨h9, ⟨a, b, cc, rfl⟩, hQ9⟩ := h9
  obtain ⟨_, e9_0, rfl⟩ := h9 0 _ rfl
  obtain ⟨_, e9_1, ln, fa, pl, rfl, i9_1_0, i9_1_1⟩ := h9 1 _ rfl
  obtain ⟨_, e9_2, tp, rfl, i9_2_0⟩ := h9 2 _ rfl
  obtain ⟨_, e9_3, ct, rfl, i9_3_0, i9_3_1⟩ := h9 3 _ rfl
  obtain ⟨_, e9_4, rfl⟩ := h9 5 _ rfl
  obtain ⟨_, e9_5, y0d, rfl, i9_5_0, i9_5_1⟩ := h9 24 _ rfl
  obtain ⟨_, e9_6, y0k1, rfl, i9_6_0⟩ := h9 25 _ rfl
  obtain ⟨_, e9_7, y0k2, rfl, i9_7_0⟩ := h9 26 _ rfl
  obtain ⟨_, e9_8, y0k3, rfl, i9_8_0⟩ := h9 27 _ rfl
  obtain ⟨_, e9_9, y0k4, rfl, i9_9_0⟩ := h9 28 _ rfl
  obtain ⟨_, e9_10, y1d, rfl, i9_10_0, i9_10_1⟩ := h9 29 _ rfl
  obtain ⟨_, e9_11, y1k1, rfl, i9_11_0⟩ := h9 30 _ rfl
  obtain ⟨_, e9_12, y1k2, rfl, i9_12_0⟩ := h9 31 _ rfl
  obtain ⟨_, e9_13, y1k3, rfl, i9_13_0⟩ := h9 32 _ rfl
  obtain ⟨_, e9_14, y1k4, rfl, i9_14_0⟩ := h9 33 _ rfl
  refine ⟨[0, 1, 2, 3, 5, 24, 25, 26, 27, 28, 29, 30, 31, 32, 33, 44, 45, 66, 70, 72, 76, 81, 4, 6, 7], [q2 0, q1 a, q1 b, q1 cc], [.inr (11, [q2 1, q2 15, q2 16, q2 17, q2 18, q2 19, q2 20, q2 21]), .inr (8, [q2 2, q2 3, q2 22, q2 4, q2 23, q2 24, q1 ln, q1 fa, q1 pl]), .inl (1, 600, .inl tp), .inl (0, 4, .inl ct), .inl (5, 2, .inr (.inr [some 5, some 10])), .inr (10, [q2 6, q2 7, q2 8, q2 9, q1 y0d]), .inl (0, 40, .inl y0k1), .inl (0, 40, .inl y0k2), .inl (0, 40, .inl y0k3), .inl (0, 40, .inl y0k4), .inr (10, [q2 11, q2 12, q2 13, q2 14, q1 y1d]), .inl (0, 40, .inl y1k1), .inl (0, 40, .inl y1k2), .inl (0, 40, .inl y1k3), .inl (0, 40, .inl y1k4)], rfl, ?_, rfl, ?_⟩
  · show [w[0]?, w[1]?, w[2]?, w[3]?, w[5]?, w[24]?, w[25]?, w[26]?, w[27]?, w[28]?, w[29]?, w[30]?, w[31]?, w[32]?, w[33]?] = _
    rw [e9_0, e9_1, e9_2, e9_3, e9_4, e9_5, e9_6, e9_7, e9_8, e9_9, e9_10, e9_11, e9_12, e9_13, e9_14]
    rfl
  · refine ⟨tp, ct, ln, fa, pl, y0k1, y0k2, y0k3, y0k4, y0d, y1k1, y1k2, y1k3, y1k4, y1d, a, b, cc, rfl, rfl, (by first | assumption | omega), (by first | assumption | omega), (by first | assumption | omega), (by first | assumption | omega), fun r hlen => ?_⟩
    refine hQ9 _ _ (PW_bw h9 rfl ?_) (by rw [q_bw_len]) (bw_out rfl) ⟨_, rfl⟩
    refine ⟨(show PX_H _ from rfl), ?_⟩
    refine ⟨(show PX_T (U 1) _ from ⟨_, _, _, rfl, (by first | assumption | omega | exact hp.1 | exact hp.2.1 | exact hp.2.2.1 | exact hp.2.2.2.1 | exact hp.2.2.2.2.1 | exact hp.2.2.2.2 | exact hp.2.2.2 | exact hp.2.2 | exact hp.2), (by first | assumption | omega | exact hp.1 | exact hp.2.1 | exact hp.2.2.1 | exact hp.2.2.2.1 | exact hp.2.2.2.2.1 | exact hp.2.2.2.2 | exact hp.2.2.2 | exact hp.2.2 | exact hp.2)⟩), ?_⟩
    refine ⟨(show PX_Ttp (F 2) _ from ⟨_, rfl, (by first | assumption | omega | exact hp.1 | exact hp.2.1 | exact hp.2.2.1 | exact hp.2.2.2.1 | exact hp.2.2.2.2.1 | exact hp.2.2.2.2 | exact hp.2.2.2 | exact hp.2.2 | exact hp.2)⟩), ?_⟩
    refine ⟨(show PX_Tct (F 3) _ from ⟨_, rfl, (by first | assumption | omega | exact hp.1 | exact hp.2.1 | exact hp.2.2.1 | exact hp.2.2.2.1 | exact hp.2.2.2.2.1 | exact hp.2.2.2.2 | exact hp.2.2.2 | exact hp.2.2 | exact hp.2), (by first | assumption | omega | exact hp.1 | exact hp.2.1 | exact hp.2.2.1 | exact hp.2.2.2.1 | exact hp.2.2.2.2.1 | exact hp.2.2.2.2 | exact hp.2.2.2 | exact hp.2.2 | exact hp.2)⟩), ?_⟩
    refine ⟨(show PX_TYa _ from rfl), ?_⟩
    refine ⟨(show PX_Y0 (U 24) _ from ⟨_, rfl, (by first | assumption | omega | exact hp.1 | exact hp.2.1 | exact hp.2.2.1 | exact hp.2.2.2.1 | exact hp.2.2.2.2.1 | exact hp.2.2.2.2 | exact hp.2.2.2 | exact hp.2.2 | exact hp.2), (by first | assumption | omega | exact hp.1 | exact hp.2.1 | exact hp.2.2.1 | exact hp.2.2.2.1 | exact hp.2.2.2.2.1 | exact hp.2.2.2.2 | exact hp.2.2.2 | exact hp.2.2 | exact hp.2)⟩), ?_⟩
    refine ⟨(show PX_Y0_1 (F 25) _ from ⟨_, rfl, (by first | assumption | omega | exact hp.1 | exact hp.2.1 | exact hp.2.2.1 | exact hp.2.2.2.1 | exact hp.2.2.2.2.1 | exact hp.2.2.2.2 | exact hp.2.2.2 | exact hp.2.2 | exact hp.2)⟩), ?_⟩
    refine ⟨(show PX_Y0_2 (F 26) _ from ⟨_, rfl, (by first | assumption | omega | exact hp.1 | exact hp.2.1 | exact hp.2.2.1 | exact hp.2.2.2.1 | exact hp.2.2.2.2.1 | exact hp.2.2.2.2 | exact hp.2.2.2 | exact hp.2.2 | exact hp.2)⟩), ?_⟩
    refine ⟨(show PX_Y0_3 (F 27) _ from ⟨_, rfl, (by first | assumption | omega | exact hp.1 | exact hp.2.1 | exact hp.2.2.1 | exact hp.2.2.2.1 | exact hp.2.2.2.2.1 | exact hp.2.2.2.2 | exact hp.2.2.2 | exact hp.2.2 | exact hp.2)⟩), ?_⟩
    refine ⟨(show PX_Y0_4 (F 28) _ from ⟨_, rfl, (by first | assumption | omega | exact hp.1 | exact hp.2.1 | exact hp.2.2.1 | exact hp.2.2.2.1 | exact hp.2.2.2.2.1 | exact hp.2.2.2.2 | exact hp.2.2.2 | exact hp.2.2 | exact hp.2)⟩), ?_⟩
    refine ⟨(show PX_Y1 (U 29) _ from ⟨_, rfl, (by first | assumption | omega | exact hp.1 | exact hp.2.1 | exact hp.2.2.1 | exact hp.2.2.2.1 | exact hp.2.2.2.2.1 | exact hp.2.2.2.2 | exact hp.2.2.2 | exact hp.2.2 | exact hp.2), (by first | assumption | omega | exact hp.1 | exact hp.2.1 | exact hp.2.2.1 | exact hp.2.2.2.1 | exact hp.2.2.2.2.1 | exact hp.2.2.2.2 | exact hp.2.2.2 | exact hp.2.2 | exact hp.2)⟩), ?_⟩
    refine ⟨(show PX_Y1_1 (F 30) _ from ⟨_, rfl, (by first | assumption | omega | exact hp.1 | exact hp.2.1 | exact hp.2.2.1 | exact hp.2.2.2.1 | exact hp.2.2.2.2.1 | exact hp.2.2.2.2 | exact hp.2.2.2 | exact hp.2.2 | exact hp.2)⟩), ?_⟩
    refine ⟨(show PX_Y1_2 (F 31) _ from ⟨_, rfl, (by first | assumption | omega | exact hp.1 | exact hp.2.1 | exact hp.2.2.1 | exact hp.2.2.2.1 | exact hp.2.2.2.2.1 | exact hp.2.2.2.2 | exact hp.2.2.2 | exact hp.2.2 | exact hp.2)⟩), ?_⟩
    refine ⟨(show PX_Y1_3 (F 32) _ from ⟨_, rfl, (by first | assumption | omega | exact hp.1 | exact hp.2.1 | exact hp.2.2.1 | exact hp.2.2.2.1 | exact hp.2.2.2.2.1 | exact hp.2.2.2.2 | exact hp.2.2.2 | exact hp.2.2 | exact hp.2)⟩), ?_⟩
    refine ⟨(show PX_Y1_4 (F 33) _ from ⟨_, rfl, (by first | assumption | omega | exact hp.1 | exact hp.2.1 | exact hp.2.2.1 | exact hp.2.2.2.1 | exact hp.2.2.2.2.1 | exact hp.2.2.2.2 | exact hp.2.2.2 | exact hp.2.2 | exact hp.2)⟩), ?_⟩
    exact trivial

set_option maxHeartbeats 2000000 in
set_option maxRecDepth 100000 in
theorem mL_X11_fact (l : Launch) (F U : Nat → Nat → Int) : q_M l yX11_fact cX11_fact 5 (some .int) 2 43 (spW F U (fun av => ∃ a b cc : Int, av = [q2 0, q1 a, q1 b, q1 cc]) rkI) := by
  refine q_M_mono (fun av w Q h9 => ?_) (q_M_fr (m_X11_fact l))
  obtain ⟨h9, ⟨a, b, cc, rfl⟩, hQ9⟩ := h9
  obtain ⟨_, e9_0, rfl⟩ := h9 0 _ rfl
  obtain ⟨_, e9_1, ln, fa, pl, rfl, i9_1_0, i9_1_1⟩ := h9 1 _ rfl
  obtain ⟨_, e9_2, tp, rfl, i9_2_0⟩ := h9 2 _ rfl
  obtain ⟨_, e9_3, ct, rfl, i9_3_0, i9_3_1⟩ := h9 3 _ rfl
  obtain ⟨_, e9_4, rfl⟩ := h9 7 _ rfl
  obtain ⟨_, e9_5, s0c, rfl, i9_5_0, i9_5_1⟩ := h9 38 _ rfl
  obtain ⟨_, e9_6, s0p, rfl, i9_6_0⟩ := h9 39 _ rfl
  obtain ⟨_, e9_7, s0t, rfl, i9_7_0⟩ := h9 40 _ rfl
  obtain ⟨_, e9_8, s1c, rfl, i9_8_0, i9_8_1⟩ := h9 41 _ rfl
  obtain ⟨_, e9_9, s1p, rfl, i9_9_0⟩ := h9 42 _ rfl
  obtain ⟨_, e9_10, s1t, rfl, i9_10_0⟩ := h9 43 _ rfl
  refine ⟨[0, 1, 2, 3, 7, 38, 39, 40, 41, 42, 43, 44, 45, 66, 70, 72, 76, 81, 4, 5, 6], [q2 0, q1 a, q1 b, q1 cc], [.inr (11, [q2 1, q2 11, q2 12, q2 13, q2 14, q2 15, q2 16, q2 17]), .inr (8, [q2 2, q2 3, q2 18, q2 19, q2 20, q2 4, q1 ln, q1 fa, q1 pl]), .inl (1, 600, .inl tp), .inl (0, 4, .inl ct), .inl (7, 2, .inr (.inr [some 5, some 8])), .inr (7, [q2 6, q2 7, q1 s0c]), .inl (0, 10, .inl s0p), .inl (0, 10, .inl s0t), .inr (7, [q2 9, q2 10, q1 s1c]), .inl (0, 10, .inl s1p), .inl (0, 10, .inl s1t)], rfl, ?_, rfl, ?_⟩
  · show [w[0]?, w[1]?, w[2]?, w[3]?, w[7]?, w[38]?, w[39]?, w[40]?, w[41]?, w[42]?, w[43]?] = _
    rw [e9_0, e9_1, e9_2, e9_3, e9_4, e9_5, e9_6, e9_7, e9_8, e9_9, e9_10]
    rfl
  · refine ⟨tp, ct, ln, fa, pl, s0p, s0t, s0c, s1p, s1t, s1c, a, b, cc, rfl, rfl, (by first | assumption | omega), (by first | assumption | omega), (by first | assumption | omega), (by first | assumption | omega), fun r hlen => ?_⟩
    refine hQ9 _ _ (PW_bw h9 rfl ?_) (by rw [q_bw_len]) (bw_out rfl) ⟨_, rfl⟩
    refine ⟨(show PX_H _ from rfl), ?_⟩
    refine ⟨(show PX_T (U 1) _ from ⟨_, _, _, rfl, (by first | assumption | omega | exact hp.1 | exact hp.2.1 | exact hp.2.2.1 | exact hp.2.2.2.1 | exact hp.2.2.2.2.1 | exact hp.2.2.2.2 | exact hp.2.2.2 | exact hp.2.2 | exact hp.2), (by first | assumption | omega | exact hp.1 | exact hp.2.1 | exact hp.2.2.1 | exact hp.2.2.2.1 | exact hp.2.2.2.2.1 | exact hp.2.2.2.2 | exact hp.2.2.2 | exact hp.2.2 | exact hp.2)⟩), ?_⟩
    refine ⟨(show PX_Ttp (F 2) _ from ⟨_, rfl, (by first | assumption | omega | exact hp.1 | exact hp.2.1 | exact hp.2.2.1 | exact hp.2.2.2.1 | exact hp.2.2.2.2.1 | exact hp.2.2.2.2 | exact hp.2.2.2 | exact hp.2.2 | exact hp.2)⟩), ?_⟩
    refine ⟨(show PX_Tct (F 3) _ from ⟨_, rfl, (by first | assumption | omega | exact hp.1 | exact hp.2.1 | exact hp.2.2.1 | exact hp.2.2.2.1 | exact hp.2.2.2.2.1 | exact hp.2.2.2.2 | exact hp.2.2.2 | exact hp.2.2 | exact hp.2), (by first | assumption | omega | exact hp.1 | exact hp.2.1 | exact hp.2.2.1 | exact hp.2.2.2.1 | exact hp.2.2.2.2.1 | exact hp.2.2.2.2 | exact hp.2.2.2 | exact hp.2.2 | exact hp.2)⟩), ?_⟩
    refine ⟨(show PX_TSa _ from rfl), ?_⟩
    refine ⟨(show PX_S0 (U 38) _ from ⟨_, rfl, (by first | assumption | omega | exact hp.1 | exact hp.2.1 | exact hp.2.2.1 | exact hp.2.2.2.1 | exact hp.2.2.2.2.1 | exact hp.2.2.2.2 | exact hp.2.2.2 | exact hp.2.2 | exact hp.2), (by first | assumption | omega | exact hp.1 | exact hp.2.1 | exact hp.2.2.1 | exact hp.2.2.2.1 | exact hp.2.2.2.2.1 | exact hp.2.2.2.2 | exact hp.2.2.2 | exact hp.2.2 | exact hp.2)⟩), ?_⟩
    refine ⟨(show PX_S0_1 (F 39) _ from ⟨_, rfl, (by first | assumption | omega | exact hp.1 | exact hp.2.1 | exact hp.2.2.1 | exact hp.2.2.2.1 | exact hp.2.2.2.2.1 | exact hp.2.2.2.2 | exact hp.2.2.2 | exact hp.2.2 | exact hp.2)⟩), ?_⟩
    refine ⟨(show PX_S0_2 (F 40) _ from ⟨_, rfl, (by first | assumption | omega | exact hp.1 | exact hp.2.1 | exact hp.2.2.1 | exact hp.2.2.2.1 | exact hp.2.2.2.2.1 | exact hp.2.2.2.2 | exact hp.2.2.2 | exact hp.2.2 | exact hp.2)⟩), ?_⟩
    refine ⟨(show PX_S1 (U 41) _ from ⟨_, rfl, (by first | assumption | omega | exact hp.1 | exact hp.2.1 | exact hp.2.2.1 | exact hp.2.2.2.1 | exact hp.2.2.2.2.1 | exact hp.2.2.2.2 | exact hp.2.2.2 | exact hp.2.2 | exact hp.2), (by first | assumption | omega | exact hp.1 | exact hp.2.1 | exact hp.2.2.1 | exact hp.2.2.2.1 | exact hp.2.2.2.2.1 | exact hp.2.2.2.2 | exact hp.2.2.2 | exact hp.2.2 | exact hp.2)⟩), ?_⟩
    refine ⟨(show PX_S1_1 (F 42) _ from ⟨_, rfl, (by first | assumption | omega | exact hp.1 | exact hp.2.1 | exact hp.2.2.1 | exact hp.2.2.2.1 | exact hp.2.2.2.2.1 | exact hp.2.2.2.2 | exact hp.2.2.2 | exact hp.2.2 | exact hp.2)⟩), ?_⟩
    refine ⟨(show PX_S1_2 (F 43) _ from ⟨_, rfl, (by first | assumption | omega | exact hp.1 | exact hp.2.1 | exact hp.2.2.1 | exact hp.2.2.2.1 | exact hp.2.2.2.2.1 | exact hp.2.2.2.2 | exact hp.2.2.2 | exact hp.2.2 | exact hp.2)⟩), ?_⟩
    exact trivial
