set_option maxHeartbeats 2000000 in
set_option maxRecDepth 100000 in
theorem mL_X12_share (l : Launch) (F U : Nat → Nat → Int) : q_M l yX12_share cX12_share 6 (some .int) 3 65 (spW F U (fun av => ∃ a b cc dd : Int, av = [q2 85, q1 a, q1 b, q1 cc, q1 dd]) rkI) := by
  refine q_M_mono (fun av w Q h9 => ?_) (q_M_fr (m_X12_share l))
  obtain ⟨h9, ⟨a, b, cc, dd, rfl⟩, hQ9⟩ := h9
  obtain ⟨_, e9_0, mco, mre, mle, mbe, mso, mva, mwo, mwr, mlf, mlp, mfp, mfd, mgo, mbo, mpe, mye, mpr, mld, msi, mse, rfl⟩ := h9 85 _ rfl
  obtain ⟨_, e9_1, mn, rfl, i9_1_0, i9_1_1⟩ := h9 90 _ rfl
  obtain ⟨_, e9_2, bs, rfl, i9_2_0, i9_2_1⟩ := h9 91 _ rfl
  obtain ⟨_, e9_3, lo, rfl⟩ := h9 101 _ rfl
  refine ⟨[85, 90, 91, 101, 86, 87, 88, 89, 92, 93, 94, 95, 96, 97, 98, 99, 100, 102, 103, 104, 105, 106, 107, 108, 109, 110], [q2 0, q1 a, q1 b, q1 cc, q1 dd], [.inr (12, [q1 mco, q2 4, q2 5, q2 6, q2 7, q2 1, q2 2, q2 8, q2 9, q2 10, q1 mre, q1 mle, q1 mbe, q1 mso, q1 mva, q3 mwo, q1 mwr, q1 mlf, q1 mlp, q2 11, q2 12, q1 mfp, q1 mfd, q1 mgo, q1 mbo, q1 mpe, q1 mye, q2 13, q1 mpr, q2 14, q2 15, q2 16, q2 3, q1 mld, q2 17, q1 msi, q2 18, q2 19, q2 20, q2 21, q2 22, q1 mse, q2 23, q2 24, q2 25]), .inl (0, 16, .inl mn), .inl (0, 600, .inl bs), .inl (0, 8, .inl lo)], rfl, ?_, rfl, ?_⟩
  · show [w[85]?, w[90]?, w[91]?, w[101]?] = _
    rw [e9_0, e9_1, e9_2, e9_3]
    rfl
  · refine ⟨mco, mre, mle, mbe, mso, mva, mwo, mwr, mlf, mlp, mfp, mfd, mgo, mbo, mpe, mye, mpr, mld, msi, mse, mn, bs, lo, a, b, cc, dd, rfl, rfl, (by first | assumption | omega), (by first | assumption | omega), fun r x_mco x_mbo x_mpe x_lo hlen => ?_⟩
    refine hQ9 _ _ (PW_bw h9 rfl ?_) (by rw [q_bw_len]) (bw_out rfl) ⟨_, rfl⟩
    refine ⟨(show PM_M _ from ⟨_, _, _, _, _, _, _, _, _, _, _, _, _, _, _, _, _, _, _, _, rfl⟩), ?_⟩
    refine ⟨(show PM_MN (F 90) _ from ⟨_, rfl, (by first | assumption | omega | exact hp.1 | exact hp.2.1 | exact hp.2.2.1 | exact hp.2.2.2.1 | exact hp.2.2.2.2.1 | exact hp.2.2.2.2 | exact hp.2.2.2 | exact hp.2.2 | exact hp.2), (by first | assumption | omega | exact hp.1 | exact hp.2.1 | exact hp.2.2.1 | exact hp.2.2.2.1 | exact hp.2.2.2.2.1 | exact hp.2.2.2.2 | exact hp.2.2.2 | exact hp.2.2 | exact hp.2)⟩), ?_⟩
    refine ⟨(show PM_BS (F 91) _ from ⟨_, rfl, (by first | assumption | omega | exact hp.1 | exact hp.2.1 | exact hp.2.2.1 | exact hp.2.2.2.1 | exact hp.2.2.2.2.1 | exact hp.2.2.2.2 | exact hp.2.2.2 | exact hp.2.2 | exact hp.2), (by first | assumption | omega | exact hp.1 | exact hp.2.1 | exact hp.2.2.1 | exact hp.2.2.2.1 | exact hp.2.2.2.2.1 | exact hp.2.2.2.2 | exact hp.2.2.2 | exact hp.2.2 | exact hp.2)⟩), ?_⟩
    refine ⟨(show PM_LO _ from ⟨_, rfl⟩), ?_⟩
    exact trivial

set_option maxHeartbeats 2000000 in
set_option maxRecDepth 100000 in
theorem mL_X12_elder (l : Launch) (F U : Nat → Nat → Int) : q_M l yX12_elder cX12_elder 10 (some .int) 3 65 (spW F U (fun av => ∃ a b cc : Int, av = [q2 85, q1 a, q1 b, q1 cc]) rkI) := by
  refine q_M_mono (fun av w Q h9 => ?_) (q_M_fr (m_X12_elder l))
  obtain ⟨h9, ⟨a, b, cc, rfl⟩, hQ9⟩ := h9
  obtain ⟨_, e9_0, mco, mre, mle, mbe, mso, mva, mwo, mwr, mlf, mlp, mfp, mfd, mgo, mbo, mpe, mye, mpr, mld, msi, mse, rfl⟩ := h9 85 _ rfl
  obtain ⟨_, e9_1, mn, rfl, i9_1_0, i9_1_1⟩ := h9 90 _ rfl
  obtain ⟨_, e9_2, bs, rfl, i9_2_0, i9_2_1⟩ := h9 91 _ rfl
  refine ⟨[85, 90, 91, 86, 87, 88, 89, 92, 93, 94, 95, 96, 97, 98, 99, 100, 101, 102, 103, 104, 105, 106, 107, 108, 109, 110], [q2 0, q1 a, q1 b, q1 cc], [.inr (12, [q1 mco, q2 3, q2 4, q2 5, q2 6, q2 1, q2 2, q2 7, q2 8, q2 9, q1 mre, q1 mle, q1 mbe, q1 mso, q1 mva, q3 mwo, q1 mwr, q1 mlf, q1 mlp, q2 10, q2 11, q1 mfp, q1 mfd, q1 mgo, q1 mbo, q1 mpe, q1 mye, q2 12, q1 mpr, q2 13, q2 14, q2 15, q2 16, q1 mld, q2 17, q1 msi, q2 18, q2 19, q2 20, q2 21, q2 22, q1 mse, q2 23, q2 24, q2 25]), .inl (0, 16, .inl mn), .inl (0, 600, .inl bs)], rfl, ?_, rfl, ?_⟩
  · show [w[85]?, w[90]?, w[91]?] = _
    rw [e9_0, e9_1, e9_2]
    rfl
  · refine ⟨mco, mre, mle, mbe, mso, mva, mwo, mwr, mlf, mlp, mfp, mfd, mgo, mbo, mpe, mye, mpr, mld, msi, mse, mn, bs, a, b, cc, rfl, rfl, (by first | assumption | omega), (by first | assumption | omega), fun r x_mco x_mbo x_mpe hlen => ?_⟩
    refine hQ9 _ _ (PW_bw h9 rfl ?_) (by rw [q_bw_len]) (bw_out rfl) ⟨_, rfl⟩
    refine ⟨(show PM_M _ from ⟨_, _, _, _, _, _, _, _, _, _, _, _, _, _, _, _, _, _, _, _, rfl⟩), ?_⟩
    refine ⟨(show PM_MN (F 90) _ from ⟨_, rfl, (by first | assumption | omega | exact hp.1 | exact hp.2.1 | exact hp.2.2.1 | exact hp.2.2.2.1 | exact hp.2.2.2.2.1 | exact hp.2.2.2.2 | exact hp.2.2.2 | exact hp.2.2 | exact hp.2), (by first | assumption | omega | exact hp.1 | exact hp.2.1 | exact hp.2.2.1 | exact hp.2.2.2.1 | exact hp.2.2.2.2.1 | exact hp.2.2.2.2 | exact hp.2.2.2 | exact hp.2.2 | exact hp.2)⟩), ?_⟩
    refine ⟨(show PM_BS (F 91) _ from ⟨_, rfl, (by first | assumption | omega | exact hp.1 | exact hp.2.1 | exact hp.2.2.1 | exact hp.2.2.2.1 | exact hp.2.2.2.2.1 | exact hp.2.2.2.2 | exact hp.2.2.2 | exact hp.2.2 | exact hp.2), (by first | assumption | omega | exact hp.1 | exact hp.2.1 | exact hp.2.2.1 | exact hp.2.2.2.1 | exact hp.2.2.2.2.1 | exact hp.2.2.2.2 | exact hp.2.2.2 | exact hp.2.2 | exact hp.2)⟩), ?_⟩
    exact trivial

set_option maxHeartbeats 2000000 in
set_option maxRecDepth 100000 in
theorem mL_X12_ledger (l : Launch) (F U : Nat → Nat → Int) : q_M l yX12_ledger cX12_ledger 3 (some .int) 3 72 (spW F U (fun av => ∃ a b : Int, av = [q2 85, q1 a, q1 b]) rkI) := by
  refine q_M_mono (fun av w Q h9 => ?_) (q_M_fr (m_X12_ledger l))
  obtain ⟨h9, ⟨a, b, rfl⟩, hQ9⟩ := h9
  obtain ⟨_, e9_0, mco, mre, mle, mbe, mso, mva, mwo, mwr, mlf, mlp, mfp, mfd, mgo, mbo, mpe, mye, mpr, mld, msi, mse, rfl⟩ := h9 85 _ rfl
  obtain ⟨_, e9_1, mn, rfl, i9_1_0, i9_1_1⟩ := h9 90 _ rfl
  obtain ⟨_, e9_2, ls, rfl, i9_2_0⟩ := h9 93 _ rfl
  obtain ⟨_, e9_3, bk, rfl⟩ := h9 102 _ rfl
  refine ⟨[85, 90, 93, 102, 86, 87, 88, 89, 91, 92, 94, 95, 96, 97, 98, 99, 100, 101, 103, 104, 105, 106, 107, 108, 109, 110], [q2 0, q1 a, q1 b], [.inr (12, [q1 mco, q2 4, q2 5, q2 6, q2 7, q2 1, q2 8, q2 9, q2 2, q2 10, q1 mre, q1 mle, q1 mbe, q1 mso, q1 mva, q3 mwo, q1 mwr, q1 mlf, q1 mlp, q2 11, q2 12, q1 mfp, q1 mfd, q1 mgo, q1 mbo, q1 mpe, q1 mye, q2 13, q1 mpr, q2 14, q2 15, q2 16, q2 17, q1 mld, q2 3, q1 msi, q2 18, q2 19, q2 20, q2 21, q2 22, q1 mse, q2 23, q2 24, q2 25]), .inl (0, 16, .inl mn), .inl (0, 72, .inl ls), .inl (0, 8, .inl bk)], rfl, ?_, rfl, ?_⟩
  · show [w[85]?, w[90]?, w[93]?, w[102]?] = _
    rw [e9_0, e9_1, e9_2, e9_3]
    rfl
  · refine ⟨mco, mre, mle, mbe, mso, mva, mwo, mwr, mlf, mlp, mfp, mfd, mgo, mbo, mpe, mye, mpr, mld, msi, mse, mn, ls, bk, a, b, rfl, rfl, (by first | assumption | omega), fun r x_mco x_mld x_bk hlen => ?_⟩
    refine hQ9 _ _ (PW_bw h9 rfl ?_) (by rw [q_bw_len]) (bw_out rfl) ⟨_, rfl⟩
    refine ⟨(show PM_M _ from ⟨_, _, _, _, _, _, _, _, _, _, _, _, _, _, _, _, _, _, _, _, rfl⟩), ?_⟩
    refine ⟨(show PM_MN (F 90) _ from ⟨_, rfl, (by first | assumption | omega | exact hp.1 | exact hp.2.1 | exact hp.2.2.1 | exact hp.2.2.2.1 | exact hp.2.2.2.2.1 | exact hp.2.2.2.2 | exact hp.2.2.2 | exact hp.2.2 | exact hp.2), (by first | assumption | omega | exact hp.1 | exact hp.2.1 | exact hp.2.2.1 | exact hp.2.2.2.1 | exact hp.2.2.2.2.1 | exact hp.2.2.2.2 | exact hp.2.2.2 | exact hp.2.2 | exact hp.2)⟩), ?_⟩
    refine ⟨(show PM_LS (F 93) _ from ⟨_, rfl, (by first | assumption | omega | exact hp.1 | exact hp.2.1 | exact hp.2.2.1 | exact hp.2.2.2.1 | exact hp.2.2.2.2.1 | exact hp.2.2.2.2 | exact hp.2.2.2 | exact hp.2.2 | exact hp.2)⟩), ?_⟩
    refine ⟨(show PM_BK _ from ⟨_, rfl⟩), ?_⟩
    exact trivial

set_option maxHeartbeats 2000000 in
set_option maxRecDepth 100000 in
theorem mL_X12_fact (l : Launch) (F U : Nat → Nat → Int) : q_M l yX12_fact cX12_fact 4 (some .int) 3 65 (spW F U (fun av => ∃ a b cc : Int, av = [q2 85, q1 a, q1 b, q1 cc]) rkI) := by
  refine q_M_mono (fun av w Q h9 => ?_) (q_M_fr (m_X12_fact l))
  obtain ⟨h9, ⟨a, b, cc, rfl⟩, hQ9⟩ := h9
  obtain ⟨_, e9_0, mco, mre, mle, mbe, mso, mva, mwo, mwr, mlf, mlp, mfp, mfd, mgo, mbo, mpe, mye, mpr, mld, msi, mse, rfl⟩ := h9 85 _ rfl
  obtain ⟨_, e9_1, mn, rfl, i9_1_0, i9_1_1⟩ := h9 90 _ rfl
  obtain ⟨_, e9_2, ss, rfl, i9_2_0, i9_2_1⟩ := h9 94 _ rfl
  refine ⟨[85, 90, 94, 86, 87, 88, 89, 91, 92, 93, 95, 96, 97, 98, 99, 100, 101, 102, 103, 104, 105, 106, 107, 108, 109, 110], [q2 0, q1 a, q1 b, q1 cc], [.inr (12, [q1 mco, q2 3, q2 4, q2 5, q2 6, q2 1, q2 7, q2 8, q2 9, q2 2, q1 mre, q1 mle, q1 mbe, q1 mso, q1 mva, q3 mwo, q1 mwr, q1 mlf, q1 mlp, q2 10, q2 11, q1 mfp, q1 mfd, q1 mgo, q1 mbo, q1 mpe, q1 mye, q2 12, q1 mpr, q2 13, q2 14, q2 15, q2 16, q1 mld, q2 17, q1 msi, q2 18, q2 19, q2 20, q2 21, q2 22, q1 mse, q2 23, q2 24, q2 25]), .inl (0, 16, .inl mn), .inl (0, 168, .inl ss)], rfl, ?_, rfl, ?_⟩
  · show [w[85]?, w[90]?, w[94]?] = _
    rw [e9_0, e9_1, e9_2]
    rfl
  · refine ⟨mco, mre, mle, mbe, mso, mva, mwo, mwr, mlf, mlp, mfp, mfd, mgo, mbo, mpe, mye, mpr, mld, msi, mse, mn, ss, a, b, cc, rfl, rfl, (by first | assumption | omega), (by first | assumption | omega), fun r x_mco x_msi hlen => ?_⟩
    refine hQ9 _ _ (PW_bw h9 rfl ?_) (by rw [q_bw_len]) (bw_out rfl) ⟨_, rfl⟩
    refine ⟨(show PM_M _ from ⟨_, _, _, _, _, _, _, _, _, _, _, _, _, _, _, _, _, _, _, _, rfl⟩), ?_⟩
    refine ⟨(show PM_MN (F 90) _ from ⟨_, rfl, (by first | assumption | omega | exact hp.1 | exact hp.2.1 | exact hp.2.2.1 | exact hp.2.2.2.1 | exact hp.2.2.2.2.1 | exact hp.2.2.2.2 | exact hp.2.2.2 | exact hp.2.2 | exact hp.2), (by first | assumption | omega | exact hp.1 | exact hp.2.1 | exact hp.2.2.1 | exact hp.2.2.2.1 | exact hp.2.2.2.2.1 | exact hp.2.2.2.2 | exact hp.2.2.2 | exact hp.2.2 | exact hp.2)⟩), ?_⟩
    refine ⟨(show PM_SS (F 94) _ from ⟨_, rfl, (by first | assumption | omega | exact hp.1 | exact hp.2.1 | exact hp.2.2.1 | exact hp.2.2.2.1 | exact hp.2.2.2.2.1 | exact hp.2.2.2.2 | exact hp.2.2.2 | exact hp.2.2 | exact hp.2), (by first | assumption | omega | exact hp.1 | exact hp.2.1 | exact hp.2.2.1 | exact hp.2.2.2.1 | exact hp.2.2.2.2.1 | exact hp.2.2.2.2 | exact hp.2.2.2 | exact hp.2.2 | exact hp.2)⟩), ?_⟩
    exact trivial

set_option maxHeartbeats 2000000 in
set_option maxRecDepth 100000 in
theorem mL_X12_rows (l : Launch) (F U : Nat → Nat → Int) : q_M l yX12_rows cX12_rows 6 (some .long) 4 94 (spW F U (fun av => ∃ a b cc dd ee : Int, av = [q2 85, q1 a, q1 b, q1 cc, q1 dd, q1 ee]) rkL) := by
  refine q_M_mono (fun av w Q h9 => ?_) (q_M_fr (m_X12_rows l))
  obtain ⟨h9, ⟨a, b, cc, dd, ee, rfl⟩, hQ9⟩ := h9
  obtain ⟨_, e9_0, mco, mre, mle, mbe, mso, mva, mwo, mwr, mlf, mlp, mfp, mfd, mgo, mbo, mpe, mye, mpr, mld, msi, mse, rfl⟩ := h9 85 _ rfl
  obtain ⟨_, e9_1, mn, rfl, i9_1_0, i9_1_1⟩ := h9 90 _ rfl
  obtain ⟨_, e9_2, bs, rfl, i9_2_0, i9_2_1⟩ := h9 91 _ rfl
  obtain ⟨_, e9_3, ss, rfl, i9_3_0, i9_3_1⟩ := h9 94 _ rfl
  obtain ⟨_, e9_4, lx, rfl⟩ := h9 106 _ rfl
  obtain ⟨_, e9_5, fu, rfl⟩ := h9 107 _ rfl
  obtain ⟨_, e9_6, ow, rfl⟩ := h9 103 _ rfl
  obtain ⟨_, e9_7, rw, rfl⟩ := h9 104 _ rfl
  obtain ⟨_, e9_8, th, rfl⟩ := h9 105 _ rfl
  refine ⟨[85, 90, 91, 94, 106, 107, 103, 104, 105, 86, 87, 88, 89, 92, 93, 95, 96, 97, 98, 99, 100, 101, 102, 108, 109, 110], [q2 0, q1 a, q1 b, q1 cc, q1 dd, q1 ee], [.inr (12, [q1 mco, q2 9, q2 10, q2 11, q2 12, q2 1, q2 2, q2 13, q2 14, q2 3, q1 mre, q1 mle, q1 mbe, q1 mso, q1 mva, q3 mwo, q1 mwr, q1 mlf, q1 mlp, q2 15, q2 16, q1 mfp, q1 mfd, q1 mgo, q1 mbo, q1 mpe, q1 mye, q2 17, q1 mpr, q2 18, q2 19, q2 20, q2 21, q1 mld, q2 22, q1 msi, q2 6, q2 7, q2 8, q2 4, q2 5, q1 mse, q2 23, q2 24, q2 25]), .inl (0, 16, .inl mn), .inl (0, 600, .inl bs), .inl (0, 168, .inl ss), .inl (3, 100, .inr (.inl lx)), .inl (3, 100, .inr (.inl fu)), .inl (3, 72, .inr (.inl ow)), .inl (3, 9, .inr (.inl rw)), .inl (3, 9, .inr (.inl th))], rfl, ?_, rfl, ?_⟩
  · show [w[85]?, w[90]?, w[91]?, w[94]?, w[106]?, w[107]?, w[103]?, w[104]?, w[105]?] = _
    rw [e9_0, e9_1, e9_2, e9_3, e9_4, e9_5, e9_6, e9_7, e9_8]
    rfl
  · refine ⟨mco, mre, mle, mbe, mso, mva, mwo, mwr, mlf, mlp, mfp, mfd, mgo, mbo, mpe, mye, mpr, mld, msi, mse, mn, bs, ss, lx, fu, ow, rw, th, a, b, cc, dd, ee, rfl, rfl, (by first | assumption | omega), (by first | assumption | omega), (by first | assumption | omega), fun r x_mco x_msi x_mbo x_mpe x_lx x_fu x_ow x_rw x_th hlen => ?_⟩
    refine hQ9 _ _ (PW_bw h9 rfl ?_) (by rw [q_bw_len]) (bw_out rfl) ⟨_, rfl⟩
    refine ⟨(show PM_M _ from ⟨_, _, _, _, _, _, _, _, _, _, _, _, _, _, _, _, _, _, _, _, rfl⟩), ?_⟩
    refine ⟨(show PM_MN (F 90) _ from ⟨_, rfl, (by first | assumption | omega | exact hp.1 | exact hp.2.1 | exact hp.2.2.1 | exact hp.2.2.2.1 | exact hp.2.2.2.2.1 | exact hp.2.2.2.2 | exact hp.2.2.2 | exact hp.2.2 | exact hp.2), (by first | assumption | omega | exact hp.1 | exact hp.2.1 | exact hp.2.2.1 | exact hp.2.2.2.1 | exact hp.2.2.2.2.1 | exact hp.2.2.2.2 | exact hp.2.2.2 | exact hp.2.2 | exact hp.2)⟩), ?_⟩
    refine ⟨(show PM_BS (F 91) _ from ⟨_, rfl, (by first | assumption | omega | exact hp.1 | exact hp.2.1 | exact hp.2.2.1 | exact hp.2.2.2.1 | exact hp.2.2.2.2.1 | exact hp.2.2.2.2 | exact hp.2.2.2 | exact hp.2.2 | exact hp.2), (by first | assumption | omega | exact hp.1 | exact hp.2.1 | exact hp.2.2.1 | exact hp.2.2.2.1 | exact hp.2.2.2.2.1 | exact hp.2.2.2.2 | exact hp.2.2.2 | exact hp.2.2 | exact hp.2)⟩), ?_⟩
    refine ⟨(show PM_SS (F 94) _ from ⟨_, rfl, (by first | assumption | omega | exact hp.1 | exact hp.2.1 | exact hp.2.2.1 | exact hp.2.2.2.1 | exact hp.2.2.2.2.1 | exact hp.2.2.2.2 | exact hp.2.2.2 | exact hp.2.2 | exact hp.2), (by first | assumption | omega | exact hp.1 | exact hp.2.1 | exact hp.2.2.1 | exact hp.2.2.2.1 | exact hp.2.2.2.2.1 | exact hp.2.2.2.2 | exact hp.2.2.2 | exact hp.2.2 | exact hp.2)⟩), ?_⟩
    refine ⟨(show PM_LX _ from ⟨_, rfl⟩), ?_⟩
    refine ⟨(show PM_FU _ from ⟨_, rfl⟩), ?_⟩
    refine ⟨(show PM_OW _ from ⟨_, rfl⟩), ?_⟩
    refine ⟨(show PM_RW _ from ⟨_, rfl⟩), ?_⟩
    refine ⟨(show PM_TH _ from ⟨_, rfl⟩), ?_⟩
    exact trivial

set_option maxHeartbeats 2000000 in
set_option maxRecDepth 100000 in
theorem mL_X12_sure (l : Launch) (F U : Nat → Nat → Int) : q_M l yX12_sure cX12_sure 8 (some .int) 4 94 (spW F U (fun av => ∃ a b cc dd : Int, av = [q2 85, q1 a, q1 b, q1 cc, q1 dd]) rkI) := by
  refine q_M_mono (fun av w Q h9 => ?_) (q_M_fr (m_X12_sure l))
  obtain ⟨h9, ⟨a, b, cc, dd, rfl⟩, hQ9⟩ := h9
  obtain ⟨_, e9_0, mco, mre, mle, mbe, mso, mva, mwo, mwr, mlf, mlp, mfp, mfd, mgo, mbo, mpe, mye, mpr, mld, msi, mse, rfl⟩ := h9 85 _ rfl
  obtain ⟨_, e9_1, mn, rfl, i9_1_0, i9_1_1⟩ := h9 90 _ rfl
  obtain ⟨_, e9_2, bs, rfl, i9_2_0, i9_2_1⟩ := h9 91 _ rfl
  obtain ⟨_, e9_3, ss, rfl, i9_3_0, i9_3_1⟩ := h9 94 _ rfl
  obtain ⟨_, e9_4, lx, rfl⟩ := h9 106 _ rfl
  obtain ⟨_, e9_5, fu, rfl⟩ := h9 107 _ rfl
  obtain ⟨_, e9_6, ow, rfl⟩ := h9 103 _ rfl
  obtain ⟨_, e9_7, rw, rfl⟩ := h9 104 _ rfl
  obtain ⟨_, e9_8, th, rfl⟩ := h9 105 _ rfl
  refine ⟨[85, 90, 91, 94, 106, 107, 103, 104, 105, 86, 87, 88, 89, 92, 93, 95, 96, 97, 98, 99, 100, 101, 102, 108, 109, 110], [q2 0, q1 a, q1 b, q1 cc, q1 dd], [.inr (12, [q1 mco, q2 9, q2 10, q2 11, q2 12, q2 1, q2 2, q2 13, q2 14, q2 3, q1 mre, q1 mle, q1 mbe, q1 mso, q1 mva, q3 mwo, q1 mwr, q1 mlf, q1 mlp, q2 15, q2 16, q1 mfp, q1 mfd, q1 mgo, q1 mbo, q1 mpe, q1 mye, q2 17, q1 mpr, q2 18, q2 19, q2 20, q2 21, q1 mld, q2 22, q1 msi, q2 6, q2 7, q2 8, q2 4, q2 5, q1 mse, q2 23, q2 24, q2 25]), .inl (0, 16, .inl mn), .inl (0, 600, .inl bs), .inl (0, 168, .inl ss), .inl (3, 100, .inr (.inl lx)), .inl (3, 100, .inr (.inl fu)), .inl (3, 72, .inr (.inl ow)), .inl (3, 9, .inr (.inl rw)), .inl (3, 9, .inr (.inl th))], rfl, ?_, rfl, ?_⟩
  · show [w[85]?, w[90]?, w[91]?, w[94]?, w[106]?, w[107]?, w[103]?, w[104]?, w[105]?] = _
    rw [e9_0, e9_1, e9_2, e9_3, e9_4, e9_5, e9_6, e9_7, e9_8]
    rfl
  · refine ⟨mco, mre, mle, mbe, mso, mva, mwo, mwr, mlf, mlp, mfp, mfd, mgo, mbo, mpe, mye, mpr, mld, msi, mse, mn, bs, ss, lx, fu, ow, rw, th, a, b, cc, dd, rfl, rfl, (by first | assumption | omega), (by first | assumption | omega), (by first | assumption | omega), fun r x_mco x_msi x_mbo x_mpe x_lx x_fu x_ow x_rw x_th hlen => ?_⟩
    refine hQ9 _ _ (PW_bw h9 rfl ?_) (by rw [q_bw_len]) (bw_out rfl) ⟨_, rfl⟩
    refine ⟨(show PM_M _ from ⟨_, _, _, _, _, _, _, _, _, _, _, _, _, _, _, _, _, _, _, _, rfl⟩), ?_⟩
    refine ⟨(show PM_MN (F 90) _ from ⟨_, rfl, (by first | assumption | omega | exact hp.1 | exact hp.2.1 | exact hp.2.2.1 | exact hp.2.2.2.1 | exact hp.2.2.2.2.1 | exact hp.2.2.2.2 | exact hp.2.2.2 | exact hp.2.2 | exact hp.2), (by first | assumption | omega | exact hp.1 | exact hp.2.1 | exact hp.2.2.1 | exact hp.2.2.2.1 | exact hp.2.2.2.2.1 | exact hp.2.2.2.2 | exact hp.2.2.2 | exact hp.2.2 | exact hp.2)⟩), ?_⟩
    refine ⟨(show PM_BS (F 91) _ from ⟨_, rfl, (by first | assumption | omega | exact hp.1 | exact hp.2.1 | exact hp.2.2.1 | exact hp.2.2.2.1 | exact hp.2.2.2.2.1 | exact hp.2.2.2.2 | exact hp.2.2.2 | exact hp.2.2 | exact hp.2), (by first | assumption | omega | exact hp.1 | exact hp.2.1 | exact hp.2.2.1 | exact hp.2.2.2.1 | exact hp.2.2.2.2.1 | exact hp.2.2.2.2 | exact hp.2.2.2 | exact hp.2.2 | exact hp.2)⟩), ?_⟩
    refine ⟨(show PM_SS (F 94) _ from ⟨_, rfl, (by first | assumption | omega | exact hp.1 | exact hp.2.1 | exact hp.2.2.1 | exact hp.2.2.2.1 | exact hp.2.2.2.2.1 | exact hp.2.2.2.2 | exact hp.2.2.2 | exact hp.2.2 | exact hp.2), (by first | assumption | omega | exact hp.1 | exact hp.2.1 | exact hp.2.2.1 | exact hp.2.2.2.1 | exact hp.2.2.2.2.1 | exact hp.2.2.2.2 | exact hp.2.2.2 | exact hp.2.2 | exact hp.2)⟩), ?_⟩
    refine ⟨(show PM_LX _ from ⟨_, rfl⟩), ?_⟩
    refine ⟨(show PM_FU _ from ⟨_, rfl⟩), ?_⟩
    refine ⟨(show PM_OW _ from ⟨_, rfl⟩), ?_⟩
    refine ⟨(show PM_RW _ from ⟨_, rfl⟩), ?_⟩
    refine ⟨(show PM_TH _ from ⟨_, rfl⟩), ?_⟩
    exact trivial
