set_option maxHeartbeats 2000000 in
set_option maxRecDepth 100000 in
theorem mL_X12_drawn (l : Launch) (F U : Nat → Nat → Int) : q_M l yX12_drawn cX12_drawn 6 (some .int) 4 89 (spW F U (fun av => ∃ a b cc dd : Int, av = [q2 85, q1 a, q1 b, q1 cc, q1 dd]) rkI) := by
  refine q_M_mono (fun av w Q h9 => ?_) (q_M_fr (m_X12_drawn l))
  obtain ⟨h9, ⟨a, b, cc, dd, rfl⟩, hQ9⟩ := h9
  obtain ⟨_, e9_0, mco, mre, mle, mbe, mso, mva, mwo, mwr, mlf, mlp, mfp, mfd, mgo, mbo, mpe, mye, mpr, mld, msi, mse, rfl⟩ := h9 85 _ rfl
  obtain ⟨_, e9_1, mn, rfl, i9_1_0, i9_1_1⟩ := h9 90 _ rfl
  obtain ⟨_, e9_2, bs, rfl, i9_2_0, i9_2_1⟩ := h9 91 _ rfl
  obtain ⟨_, e9_3, tl, rfl⟩ := h9 97 _ rfl
  refine ⟨[85, 90, 91, 97, 86, 87, 88, 89, 92, 93, 94, 95, 96, 98, 99, 100, 101, 102, 103, 104, 105, 106, 107, 108, 109, 110], [q2 0, q1 a, q1 b, q1 cc, q1 dd], [.inr (12, [q1 mco, q2 4, q2 5, q2 6, q2 7, q2 1, q2 2, q2 8, q2 9, q2 10, q1 mre, q1 mle, q1 mbe, q1 mso, q1 mva, q3 mwo, q1 mwr, q1 mlf, q1 mlp, q2 11, q2 12, q1 mfp, q1 mfd, q1 mgo, q1 mbo, q1 mpe, q1 mye, q2 3, q1 mpr, q2 13, q2 14, q2 15, q2 16, q1 mld, q2 17, q1 msi, q2 18, q2 19, q2 20, q2 21, q2 22, q1 mse, q2 23, q2 24, q2 25]), .inl (0, 16, .inl mn), .inl (0, 600, .inl bs), .inl (0, 8, .inl tl)], rfl, ?_, rfl, ?_⟩
  · show [w[85]?, w[90]?, w[91]?, w[97]?] = _
    rw [e9_0, e9_1, e9_2, e9_3]
    rfl
  · refine ⟨mco, mre, mle, mbe, mso, mva, mwo, mwr, mlf, mlp, mfp, mfd, mgo, mbo, mpe, mye, mpr, mld, msi, mse, mn, bs, tl, a, b, cc, dd, rfl, rfl, (by first | assumption | omega), (by first | assumption | omega), fun r x_mco x_mbo x_mpe x_mse x_tl x_mpr hlen => ?_⟩
    refine hQ9 _ _ (PW_bw h9 rfl ?_) (by rw [q_bw_len]) (bw_out rfl) ⟨_, rfl⟩
    refine ⟨(show PM_M _ from ⟨_, _, _, _, _, _, _, _, _, _, _, _, _, _, _, _, _, _, _, _, rfl⟩), ?_⟩
    refine ⟨(show PM_MN (F 90) _ from ⟨_, rfl, (by first | assumption | omega | exact hp.1 | exact hp.2.1 | exact hp.2.2.1 | exact hp.2.2.2.1 | exact hp.2.2.2.2.1 | exact hp.2.2.2.2 | exact hp.2.2.2 | exact hp.2.2 | exact hp.2), (by first | assumption | omega | exact hp.1 | exact hp.2.1 | exact hp.2.2.1 | exact hp.2.2.2.1 | exact hp.2.2.2.2.1 | exact hp.2.2.2.2 | exact hp.2.2.2 | exact hp.2.2 | exact hp.2)⟩), ?_⟩
    refine ⟨(show PM_BS (F 91) _ from ⟨_, rfl, (by first | assumption | omega | exact hp.1 | exact hp.2.1 | exact hp.2.2.1 | exact hp.2.2.2.1 | exact hp.2.2.2.2.1 | exact hp.2.2.2.2 | exact hp.2.2.2 | exact hp.2.2 | exact hp.2), (by first | assumption | omega | exact hp.1 | exact hp.2.1 | exact hp.2.2.1 | exact hp.2.2.2.1 | exact hp.2.2.2.2.1 | exact hp.2.2.2.2 | exact hp.2.2.2 | exact hp.2.2 | exact hp.2)⟩), ?_⟩
    refine ⟨(show PM_TL _ from ⟨_, rfl⟩), ?_⟩
    exact trivial

set_option maxHeartbeats 2000000 in
set_option maxRecDepth 100000 in
theorem mL_X12_family (l : Launch) (F U : Nat → Nat → Int) : q_M l yX12_family cX12_family 8 (some .int) 3 65 (spW F U (fun av => ∃ a b cc : Int, av = [q2 85, q1 a, q1 b, q1 cc]) rkI) := by
  refine q_M_mono (fun av w Q h9 => ?_) (q_M_fr (m_X12_family l))
  obtain ⟨h9, ⟨a, b, cc, rfl⟩, hQ9⟩ := h9
  obtain ⟨_, e9_0, mco, mre, mle, mbe, mso, mva, mwo, mwr, mlf, mlp, mfp, mfd, mgo, mbo, mpe, mye, mpr, mld, msi, mse, rfl⟩ := h9 85 _ rfl
  obtain ⟨_, e9_1, mn, rfl, i9_1_0, i9_1_1⟩ := h9 90 _ rfl
  obtain ⟨_, e9_2, bs, rfl, i9_2_0, i9_2_1⟩ := h9 91 _ rfl
  refine ⟨[85, 90, 91, 86, 87, 88, 89, 92, 93, 94, 95, 96, 97, 98, 99, 100, 101, 102, 103, 104, 105, 106, 107, 108, 109, 110], [q2 0, q1 a, q1 b, q1 cc], [.inr (12, [q1 mco, q2 3, q2 4, q2 5, q2 6, q2 1, q2 2, q2 7, q2 8, q2 9, q1 mre, q1 mle, q1 mbe, q1 mso, q1 mva, q3 mwo, q1 mwr, q1 mlf, q1 mlp, q2 10, q2 11, q1 mfp, q1 mfd, q1 mgo, q1 mbo, q1 mpe, q1 mye, q2 12, q1 mpr, q2 13, q2 14, q2 15, q2 16, q1 mld, q2 17, q1 msi, q2 18, q2 19, q2 20, q2 21, q2 22, q1 mse, q2 23, q2 24, q2 25]), .inl (0, 16, .inl mn), .inl (0, 600, .inl bs)], rfl, ?_, rfl, ?_⟩
  · show [w[85]?, w[90]?, w[91]?] = _
    rw [e9_0, e9_1, e9_2]
    rfl
  · refine ⟨mco, mre, mle, mbe, mso, mva, mwo, mwr, mlf, mlp, mfp, mfd, mgo, mbo, mpe, mye, mpr, mld, msi, mse, mn, bs, a, b, cc, rfl, rfl, (by first | assumption | omega), (by first | assumption | omega), fun r x_mco x_mbo x_mpe hlen => ?_⟩
    refine hQ9 _ _ (PW_bw h9 rfl ?_) (by rw [q_bw_len]) (bw_out rfl) ⟨_, rfl⟩
    refine ⟨(show PM_M _ from ⟨_, _, _, _, _, _, _, _, _, _, _, _, _, _, _, _, _, _, _, _, rfl⟩), ?_⟩
    refine ⟨(show PM_MN (F 90) _ from ⟨_, rfl, (by first | assumption | omega | exact hp.1 | exact hp.2.1 | exact hp.2.2.1 | exact hp.2.2.2.1 | exact hp.2.2.2.2.1 | exact hp.2.2.2.2 | exact hp.2.2.2 | exact hp.2.2 | exact hp.2), (by first | assumption | omega | exact hp.1 | exact hp.2.1 | exact hp.2.2.1 | exact hp.2.2.2.1 | exact hp.2.2.2.2.1 | exact hp.2.2.2.2 | exact hp.2.2.2 | exact hp.2.2 | exact hp.2)⟩), ?_⟩
    refine ⟨(show PM_BS (F 91) _ from ⟨_, rfl, (by first | assumption | omega | exact hp.1 | exact hp.2.1 | exact hp.2.2.1 | exact hp.2.2.2.1 | exact hp.2.2.2.2.1 | exact hp.2.2.2.2 | exact hp.2.2.2 | exact hp.2.2 | exact hp.2), (by first | assumption | omega | exact hp.1 | exact hp.2.1 | exact hp.2.2.1 | exact hp.2.2.2.1 | exact hp.2.2.2.2.1 | exact hp.2.2.2.2 | exact hp.2.2.2 | exact hp.2.2 | exact hp.2)⟩), ?_⟩
    exact trivial

set_option maxHeartbeats 2000000 in
set_option maxRecDepth 100000 in
theorem mL_X12_views (l : Launch) (F U : Nat → Nat → Int) : q_M l yX12_views cX12_views 7 (some .long) 3 65 (spW F U (fun av => ∃ a b : Int, av = [q2 85, q1 a, q1 b]) rkL) := by
  refine q_M_mono (fun av w Q h9 => ?_) (q_M_fr (m_X12_views l))
  obtain ⟨h9, ⟨a, b, rfl⟩, hQ9⟩ := h9
  obtain ⟨_, e9_0, mco, mre, mle, mbe, mso, mva, mwo, mwr, mlf, mlp, mfp, mfd, mgo, mbo, mpe, mye, mpr, mld, msi, mse, rfl⟩ := h9 85 _ rfl
  obtain ⟨_, e9_1, mn, rfl, i9_1_0, i9_1_1⟩ := h9 90 _ rfl
  obtain ⟨_, e9_2, bs, rfl, i9_2_0, i9_2_1⟩ := h9 91 _ rfl
  obtain ⟨_, e9_3, se, rfl⟩ := h9 108 _ rfl
  refine ⟨[85, 90, 91, 108, 86, 87, 88, 89, 92, 93, 94, 95, 96, 97, 98, 99, 100, 101, 102, 103, 104, 105, 106, 107, 109, 110], [q2 0, q1 a, q1 b], [.inr (12, [q1 mco, q2 4, q2 5, q2 6, q2 7, q2 1, q2 2, q2 8, q2 9, q2 10, q1 mre, q1 mle, q1 mbe, q1 mso, q1 mva, q3 mwo, q1 mwr, q1 mlf, q1 mlp, q2 11, q2 12, q1 mfp, q1 mfd, q1 mgo, q1 mbo, q1 mpe, q1 mye, q2 13, q1 mpr, q2 14, q2 15, q2 16, q2 17, q1 mld, q2 18, q1 msi, q2 19, q2 20, q2 21, q2 22, q2 23, q1 mse, q2 3, q2 24, q2 25]), .inl (0, 16, .inl mn), .inl (0, 600, .inl bs), .inl (3, 2304, .inr (.inl se))], rfl, ?_, rfl, ?_⟩
  · show [w[85]?, w[90]?, w[91]?, w[108]?] = _
    rw [e9_0, e9_1, e9_2, e9_3]
    rfl
  · refine ⟨mco, mre, mle, mbe, mso, mva, mwo, mwr, mlf, mlp, mfp, mfd, mgo, mbo, mpe, mye, mpr, mld, msi, mse, mn, bs, se, a, b, rfl, rfl, (by first | assumption | omega), (by first | assumption | omega), fun r x_mco x_mbo x_mpe x_se hlen => ?_⟩
    refine hQ9 _ _ (PW_bw h9 rfl ?_) (by rw [q_bw_len]) (bw_out rfl) ⟨_, rfl⟩
    refine ⟨(show PM_M _ from ⟨_, _, _, _, _, _, _, _, _, _, _, _, _, _, _, _, _, _, _, _, rfl⟩), ?_⟩
    refine ⟨(show PM_MN (F 90) _ from ⟨_, rfl, (by first | assumption | omega | exact hp.1 | exact hp.2.1 | exact hp.2.2.1 | exact hp.2.2.2.1 | exact hp.2.2.2.2.1 | exact hp.2.2.2.2 | exact hp.2.2.2 | exact hp.2.2 | exact hp.2), (by first | assumption | omega | exact hp.1 | exact hp.2.1 | exact hp.2.2.1 | exact hp.2.2.2.1 | exact hp.2.2.2.2.1 | exact hp.2.2.2.2 | exact hp.2.2.2 | exact hp.2.2 | exact hp.2)⟩), ?_⟩
    refine ⟨(show PM_BS (F 91) _ from ⟨_, rfl, (by first | assumption | omega | exact hp.1 | exact hp.2.1 | exact hp.2.2.1 | exact hp.2.2.2.1 | exact hp.2.2.2.2.1 | exact hp.2.2.2.2 | exact hp.2.2.2 | exact hp.2.2 | exact hp.2), (by first | assumption | omega | exact hp.1 | exact hp.2.1 | exact hp.2.2.1 | exact hp.2.2.2.1 | exact hp.2.2.2.2.1 | exact hp.2.2.2.2 | exact hp.2.2.2 | exact hp.2.2 | exact hp.2)⟩), ?_⟩
    refine ⟨(show PM_SE _ from ⟨_, rfl⟩), ?_⟩
    exact trivial

set_option maxHeartbeats 2000000 in
set_option maxRecDepth 100000 in
theorem mL_X12_shoulders (l : Launch) (F U : Nat → Nat → Int) : q_M l yX12_shoulders cX12_shoulders 5 (some .int) 3 65 (spW F U (fun av => ∃ a b : Int, av = [q2 85, q1 a, q1 b]) rkI) := by
  refine q_M_mono (fun av w Q h9 => ?_) (q_M_fr (m_X12_shoulders l))
  obtain ⟨h9, ⟨a, b, rfl⟩, hQ9⟩ := h9
  obtain ⟨_, e9_0, mco, mre, mle, mbe, mso, mva, mwo, mwr, mlf, mlp, mfp, mfd, mgo, mbo, mpe, mye, mpr, mld, msi, mse, rfl⟩ := h9 85 _ rfl
  obtain ⟨_, e9_1, mn, rfl, i9_1_0, i9_1_1⟩ := h9 90 _ rfl
  obtain ⟨_, e9_2, bs, rfl, i9_2_0, i9_2_1⟩ := h9 91 _ rfl
  refine ⟨[85, 90, 91, 86, 87, 88, 89, 92, 93, 94, 95, 96, 97, 98, 99, 100, 101, 102, 103, 104, 105, 106, 107, 108, 109, 110], [q2 0, q1 a, q1 b], [.inr (12, [q1 mco, q2 3, q2 4, q2 5, q2 6, q2 1, q2 2, q2 7, q2 8, q2 9, q1 mre, q1 mle, q1 mbe, q1 mso, q1 mva, q3 mwo, q1 mwr, q1 mlf, q1 mlp, q2 10, q2 11, q1 mfp, q1 mfd, q1 mgo, q1 mbo, q1 mpe, q1 mye, q2 12, q1 mpr, q2 13, q2 14, q2 15, q2 16, q1 mld, q2 17, q1 msi, q2 18, q2 19, q2 20, q2 21, q2 22, q1 mse, q2 23, q2 24, q2 25]), .inl (0, 16, .inl mn), .inl (0, 600, .inl bs)], rfl, ?_, rfl, ?_⟩
  · show [w[85]?, w[90]?, w[91]?] = _
    rw [e9_0, e9_1, e9_2]
    rfl
  · refine ⟨mco, mre, mle, mbe, mso, mva, mwo, mwr, mlf, mlp, mfp, mfd, mgo, mbo, mpe, mye, mpr, mld, msi, mse, mn, bs, a, b, rfl, rfl, (by first | assumption | omega), (by first | assumption | omega), fun r x_mco x_mbo x_mpe hlen => ?_⟩
    refine hQ9 _ _ (PW_bw h9 rfl ?_) (by rw [q_bw_len]) (bw_out rfl) ⟨_, rfl⟩
    refine ⟨(show PM_M _ from ⟨_, _, _, _, _, _, _, _, _, _, _, _, _, _, _, _, _, _, _, _, rfl⟩), ?_⟩
    refine ⟨(show PM_MN (F 90) _ from ⟨_, rfl, (by first | assumption | omega | exact hp.1 | exact hp.2.1 | exact hp.2.2.1 | exact hp.2.2.2.1 | exact hp.2.2.2.2.1 | exact hp.2.2.2.2 | exact hp.2.2.2 | exact hp.2.2 | exact hp.2), (by first | assumption | omega | exact hp.1 | exact hp.2.1 | exact hp.2.2.1 | exact hp.2.2.2.1 | exact hp.2.2.2.2.1 | exact hp.2.2.2.2 | exact hp.2.2.2 | exact hp.2.2 | exact hp.2)⟩), ?_⟩
    refine ⟨(show PM_BS (F 91) _ from ⟨_, rfl, (by first | assumption | omega | exact hp.1 | exact hp.2.1 | exact hp.2.2.1 | exact hp.2.2.2.1 | exact hp.2.2.2.2.1 | exact hp.2.2.2.2 | exact hp.2.2.2 | exact hp.2.2 | exact hp.2), (by first | assumption | omega | exact hp.1 | exact hp.2.1 | exact hp.2.2.1 | exact hp.2.2.2.1 | exact hp.2.2.2.2.1 | exact hp.2.2.2.2 | exact hp.2.2.2 | exact hp.2.2 | exact hp.2)⟩), ?_⟩
    exact trivial

set_option maxHeartbeats 2000000 in
set_option maxRecDepth 100000 in
theorem mL_X12_hats (l : Launch) (F U : Nat → Nat → Int) : q_M l yX12_hats cX12_hats 7 (some .int) 3 65 (spW F U (fun av => ∃ a b : Int, av = [q2 85, q1 a, q1 b]) rkI) := by
  refine q_M_mono (fun av w Q h9 => ?_) (q_M_fr (m_X12_hats l))
  obtain ⟨h9, ⟨a, b, rfl⟩, hQ9⟩ := h9
  obtain ⟨_, e9_0, mco, mre, mle, mbe, mso, mva, mwo, mwr, mlf, mlp, mfp, mfd, mgo, mbo, mpe, mye, mpr, mld, msi, mse, rfl⟩ := h9 85 _ rfl
  obtain ⟨_, e9_1, mn, rfl, i9_1_0, i9_1_1⟩ := h9 90 _ rfl
  obtain ⟨_, e9_2, bs, rfl, i9_2_0, i9_2_1⟩ := h9 91 _ rfl
  obtain ⟨_, e9_3, tl, rfl⟩ := h9 97 _ rfl
  refine ⟨[85, 90, 91, 97, 86, 87, 88, 89, 92, 93, 94, 95, 96, 98, 99, 100, 101, 102, 103, 104, 105, 106, 107, 108, 109, 110], [q2 0, q1 a, q1 b], [.inr (12, [q1 mco, q2 4, q2 5, q2 6, q2 7, q2 1, q2 2, q2 8, q2 9, q2 10, q1 mre, q1 mle, q1 mbe, q1 mso, q1 mva, q3 mwo, q1 mwr, q1 mlf, q1 mlp, q2 11, q2 12, q1 mfp, q1 mfd, q1 mgo, q1 mbo, q1 mpe, q1 mye, q2 3, q1 mpr, q2 13, q2 14, q2 15, q2 16, q1 mld, q2 17, q1 msi, q2 18, q2 19, q2 20, q2 21, q2 22, q1 mse, q2 23, q2 24, q2 25]), .inl (0, 16, .inl mn), .inl (0, 600, .inl bs), .inl (0, 8, .inl tl)], rfl, ?_, rfl, ?_⟩
  · show [w[85]?, w[90]?, w[91]?, w[97]?] = _
    rw [e9_0, e9_1, e9_2, e9_3]
    rfl
  · refine ⟨mco, mre, mle, mbe, mso, mva, mwo, mwr, mlf, mlp, mfp, mfd, mgo, mbo, mpe, mye, mpr, mld, msi, mse, mn, bs, tl, a, b, rfl, rfl, (by first | assumption | omega), (by first | assumption | omega), fun r x_mco x_mbo x_mpe x_tl x_mpr hlen => ?_⟩
    refine hQ9 _ _ (PW_bw h9 rfl ?_) (by rw [q_bw_len]) (bw_out rfl) ⟨_, rfl⟩
    refine ⟨(show PM_M _ from ⟨_, _, _, _, _, _, _, _, _, _, _, _, _, _, _, _, _, _, _, _, rfl⟩), ?_⟩
    refine ⟨(show PM_MN (F 90) _ from ⟨_, rfl, (by first | assumption | omega | exact hp.1 | exact hp.2.1 | exact hp.2.2.1 | exact hp.2.2.2.1 | exact hp.2.2.2.2.1 | exact hp.2.2.2.2 | exact hp.2.2.2 | exact hp.2.2 | exact hp.2), (by first | assumption | omega | exact hp.1 | exact hp.2.1 | exact hp.2.2.1 | exact hp.2.2.2.1 | exact hp.2.2.2.2.1 | exact hp.2.2.2.2 | exact hp.2.2.2 | exact hp.2.2 | exact hp.2)⟩), ?_⟩
    refine ⟨(show PM_BS (F 91) _ from ⟨_, rfl, (by first | assumption | omega | exact hp.1 | exact hp.2.1 | exact hp.2.2.1 | exact hp.2.2.2.1 | exact hp.2.2.2.2.1 | exact hp.2.2.2.2 | exact hp.2.2.2 | exact hp.2.2 | exact hp.2), (by first | assumption | omega | exact hp.1 | exact hp.2.1 | exact hp.2.2.1 | exact hp.2.2.2.1 | exact hp.2.2.2.2.1 | exact hp.2.2.2.2 | exact hp.2.2.2 | exact hp.2.2 | exact hp.2)⟩), ?_⟩
    refine ⟨(show PM_TL _ from ⟨_, rfl⟩), ?_⟩
    exact trivial

set_option maxHeartbeats 2000000 in
set_option maxRecDepth 100000 in
theorem mL_X12_teams (l : Launch) (F U : Nat → Nat → Int) : q_M l yX12_teams cX12_teams 9 (some .int) 3 65 (spW F U (fun av => ∃ a b : Int, av = [q2 85, q1 a, q1 b]) rkI) := by
  refine q_M_mono (fun av w Q h9 => ?_) (q_M_fr (m_X12_teams l))
  obtain ⟨h9, ⟨a, b, rfl⟩, hQ9⟩ := h9
  obtain ⟨_, e9_0, mco, mre, mle, mbe, mso, mva, mwo, mwr, mlf, mlp, mfp, mfd, mgo, mbo, mpe, mye, mpr, mld, msi, mse, rfl⟩ := h9 85 _ rfl
  obtain ⟨_, e9_1, mn, rfl, i9_1_0, i9_1_1⟩ := h9 90 _ rfl
  obtain ⟨_, e9_2, bs, rfl, i9_2_0, i9_2_1⟩ := h9 91 _ rfl
  refine ⟨[85, 90, 91, 86, 87, 88, 89, 92, 93, 94, 95, 96, 97, 98, 99, 100, 101, 102, 103, 104, 105, 106, 107, 108, 109, 110], [q2 0, q1 a, q1 b], [.inr (12, [q1 mco, q2 3, q2 4, q2 5, q2 6, q2 1, q2 2, q2 7, q2 8, q2 9, q1 mre, q1 mle, q1 mbe, q1 mso, q1 mva, q3 mwo, q1 mwr, q1 mlf, q1 mlp, q2 10, q2 11, q1 mfp, q1 mfd, q1 mgo, q1 mbo, q1 mpe, q1 mye, q2 12, q1 mpr, q2 13, q2 14, q2 15, q2 16, q1 mld, q2 17, q1 msi, q2 18, q2 19, q2 20, q2 21, q2 22, q1 mse, q2 23, q2 24, q2 25]), .inl (0, 16, .inl mn), .inl (0, 600, .inl bs)], rfl, ?_, rfl, ?_⟩
  · show [w[85]?, w[90]?, w[91]?] = _
    rw [e9_0, e9_1, e9_2]
    rfl
  · refine ⟨mco, mre, mle, mbe, mso, mva, mwo, mwr, mlf, mlp, mfp, mfd, mgo, mbo, mpe, mye, mpr, mld, msi, mse, mn, bs, a, b, rfl, rfl, (by first | assumption | omega), (by first | assumption | omega), fun r x_mco x_mbo x_mpe hlen => ?_⟩
    refine hQ9 _ _ (PW_bw h9 rfl ?_) (by rw [q_bw_len]) (bw_out rfl) ⟨_, rfl⟩
    refine ⟨(show PM_M _ from ⟨_, _, _, _, _, _, _, _, _, _, _, _, _, _, _, _, _, _, _, _, rfl⟩), ?_⟩
    refine ⟨(show PM_MN (F 90) _ from ⟨_, rfl, (by first | assumption | omega | exact hp.1 | exact hp.2.1 | exact hp.2.2.1 | exact hp.2.2.2.1 | exact hp.2.2.2.2.1 | exact hp.2.2.2.2 | exact hp.2.2.2 | exact hp.2.2 | exact hp.2), (by first | assumption | omega | exact hp.1 | exact hp.2.1 | exact hp.2.2.1 | exact hp.2.2.2.1 | exact hp.2.2.2.2.1 | exact hp.2.2.2.2 | exact hp.2.2.2 | exact hp.2.2 | exact hp.2)⟩), ?_⟩
    refine ⟨(show PM_BS (F 91) _ from ⟨_, rfl, (by first | assumption | omega | exact hp.1 | exact hp.2.1 | exact hp.2.2.1 | exact hp.2.2.2.1 | exact hp.2.2.2.2.1 | exact hp.2.2.2.2 | exact hp.2.2.2 | exact hp.2.2 | exact hp.2), (by first | assumption | omega | exact hp.1 | exact hp.2.1 | exact hp.2.2.1 | exact hp.2.2.2.1 | exact hp.2.2.2.2.1 | exact hp.2.2.2.2 | exact hp.2.2.2 | exact hp.2.2 | exact hp.2)⟩), ?_⟩
    exact trivial
