set_option maxHeartbeats 2000000 in
set_option maxRecDepth 100000 in
theorem mL_X12_feed (l : Launch) (F U : Nat → Nat → Int) : q_M l yX12_feed cX12_feed 6 (some .int) 1 22 (spG F U (fun av => ∃ a b cc dd ee : Int, av = [q2 85, q1 a, q1 b, q1 cc, q1 dd, q1 ee]) (fun av r F' U' => ∃ a b c d e z : Int, av = [q2 85, q1 a, q1 b, q1 c, q1 d, q1 e] ∧ r = some (q1 z) ∧ feM F U F' U' a b c d e z)) := by
  refine q_M_mono (fun av w Q h9 => ?_) (q_M_fr (m_F12_feed l))
  obtain ⟨h9, ⟨a, b, cc, dd, ee, rfl⟩, hQ9⟩ := h9
  obtain ⟨_, e9_0, mco, mre, mle, mbe, mso, mva, mwo, mwr, mlf, mlp, mfp, mfd, mgo, mbo, mpe, mye, mpr, mld, msi, mse, rfl⟩ := h9 85 _ rfl
  obtain ⟨_, e9_1, tp, rfl, i9_1_0⟩ := h9 86 _ rfl
  obtain ⟨_, e9_2, siz, rfl, i9_2_0, i9_2_1⟩ := h9 87 _ rfl
  refine ⟨[85, 86, 87, 88, 89, 90, 91, 92, 93, 94, 95, 96, 97, 98, 99, 100, 101, 102, 103, 104, 105, 106, 107, 108, 109, 110], [q2 0, q1 a, q1 b, q1 cc, q1 dd, q1 ee], [.inr (12, [q1 mco, q2 1, q2 2, q2 3, q2 4, q2 5, q2 6, q2 7, q2 8, q2 9, q1 mre, q1 mle, q1 mbe, q1 mso, q1 mva, q3 mwo, q1 mwr, q1 mlf, q1 mlp, q2 10, q2 11, q1 mfp, q1 mfd, q1 mgo, q1 mbo, q1 mpe, q1 mye, q2 12, q1 mpr, q2 13, q2 14, q2 15, q2 16, q1 mld, q2 17, q1 msi, q2 18, q2 19, q2 20, q2 21, q2 22, q1 mse, q2 23, q2 24, q2 25]), .inl (1, 2400, .inl tp), .inl (0, 4, .inl siz)], rfl, ?_, rfl, ?_⟩
  · show [w[85]?, w[86]?, w[87]?] = _
    rw [e9_0, e9_1, e9_2]
    rfl
  · refine ⟨mco, mre, mle, mbe, mso, mva, mwo, mwr, mlf, mlp, mfp, mfd, mgo, mbo, mpe, mye, mpr, mld, msi, mse, tp, siz, a, b, cc, dd, ee, rfl, rfl, (by first | assumption | omega), fun r x_mco x_tp x_siz hp hlen => ?_⟩
    refine hQ9 _ (fu (fu F 86 x_tp) 87 x_siz) U _ (PW_bwC h9 rfl (fun i hi => LC_ne (fu_c (fun e => hi (by rw [e]; exact List.mem_of_getElem? (i := 2) rfl)) (fu_c (fun e => hi (by rw [e]; exact List.mem_of_getElem? (i := 1) rfl)) rfl)) rfl) rfl ?_) (by rw [q_bw_len]) (bw_out rfl) ⟨a, b, cc, dd, ee, r, rfl, rfl, ⟨(by have q9 := hp.2; rw [i9_2_1, i9_1_0] at q9; exact q9), (by have q9 := hp.1.2; rw [i9_2_1] at q9; exact q9), fun p h1 h2 => fu_c h2 (fu_c h1 rfl), rfl⟩⟩
    refine ⟨(show PM_M _ from ⟨_, _, _, _, _, _, _, _, _, _, _, _, _, _, _, _, _, _, _, _, rfl⟩), ?_⟩
    refine ⟨(show PM_TP (x_tp) _ from ⟨_, rfl, rfl⟩), ?_⟩
    refine ⟨(show PM_SZ (x_siz) _ from ⟨_, rfl, hp.1.1, rfl⟩), ?_⟩
    exact trivial

set_option maxHeartbeats 2000000 in
set_option maxRecDepth 100000 in
theorem mL_X12_end (l : Launch) (F U : Nat → Nat → Int) : q_M l yX12_end cX12_end 2 (some .int) 1 22 (spG F U (fun av => ∃ a : Int, av = [q2 85, q1 a]) (fun av r F' U' => ∃ a z : Int, av = [q2 85, q1 a] ∧ r = some (q1 z) ∧ enM F U F' U' a z)) := by
  refine q_M_mono (fun av w Q h9 => ?_) (q_M_fr (m_X12_end l))
  obtain ⟨h9, ⟨a, rfl⟩, hQ9⟩ := h9
  obtain ⟨_, e9_0, mco, mre, mle, mbe, mso, mva, mwo, mwr, mlf, mlp, mfp, mfd, mgo, mbo, mpe, mye, mpr, mld, msi, mse, rfl⟩ := h9 85 _ rfl
  obtain ⟨_, e9_1, siz, rfl, i9_1_0, i9_1_1⟩ := h9 87 _ rfl
  refine ⟨[85, 87, 86, 88, 89, 90, 91, 92, 93, 94, 95, 96, 97, 98, 99, 100, 101, 102, 103, 104, 105, 106, 107, 108, 109, 110], [q2 0, q1 a], [.inr (12, [q1 mco, q2 2, q2 1, q2 3, q2 4, q2 5, q2 6, q2 7, q2 8, q2 9, q1 mre, q1 mle, q1 mbe, q1 mso, q1 mva, q3 mwo, q1 mwr, q1 mlf, q1 mlp, q2 10, q2 11, q1 mfp, q1 mfd, q1 mgo, q1 mbo, q1 mpe, q1 mye, q2 12, q1 mpr, q2 13, q2 14, q2 15, q2 16, q1 mld, q2 17, q1 msi, q2 18, q2 19, q2 20, q2 21, q2 22, q1 mse, q2 23, q2 24, q2 25]), .inl (0, 4, .inl siz)], rfl, ?_, rfl, ?_⟩
  · show [w[85]?, w[87]?] = _
    rw [e9_0, e9_1]
    rfl
  · refine ⟨mco, mre, mle, mbe, mso, mva, mwo, mwr, mlf, mlp, mfp, mfd, mgo, mbo, mpe, mye, mpr, mld, msi, mse, siz, a, rfl, rfl, (by first | assumption | omega), fun r x_mco x_siz hp hlen => ?_⟩
    refine hQ9 _ (fu F 87 x_siz) U _ (PW_bwC h9 rfl (fun i hi => LC_ne (fu_c (fun e => hi (by rw [e]; exact List.mem_of_getElem? (i := 1) rfl)) rfl) rfl) rfl ?_) (by rw [q_bw_len]) (bw_out rfl) ⟨a, r, rfl, rfl, ⟨(by have q9 := hp.2.1; rw [i9_1_1] at q9; exact q9), (by have q9 := hp.2.2; rw [i9_1_1] at q9; exact q9), fun p h1 => fu_c h1 rfl, rfl⟩⟩
    refine ⟨(show PM_M _ from ⟨_, _, _, _, _, _, _, _, _, _, _, _, _, _, _, _, _, _, _, _, rfl⟩), ?_⟩
    refine ⟨(show PM_SZ (x_siz) _ from ⟨_, rfl, hp.1, rfl⟩), ?_⟩
    exact trivial

set_option maxHeartbeats 2000000 in
set_option maxRecDepth 100000 in
theorem mL_X12_text (l : Launch) (F U : Nat → Nat → Int) : q_M l yX12_text cX12_text 4 (some .int) 9 208 (spG F U (fun av => ∃ a b : Int, av = [q2 85, q1 a, q1 b]) (fun av r F' U' => ∃ a b z : Int, av = [q2 85, q1 a, q1 b] ∧ r = some (q1 z) ∧ txM F U F' U' a b z)) := by
  refine q_M_mono (fun av w Q h9 => ?_) (q_M_fr (m_F12_text l))
  obtain ⟨h9, ⟨a, b, rfl⟩, hQ9⟩ := h9
  obtain ⟨_, e9_0, mco, mre, mle, mbe, mso, mva, mwo, mwr, mlf, mlp, mfp, mfd, mgo, mbo, mpe, mye, mpr, mld, msi, mse, rfl⟩ := h9 85 _ rfl
  obtain ⟨_, e9_1, tp, rfl, i9_1_0⟩ := h9 86 _ rfl
  obtain ⟨_, e9_2, siz, rfl, i9_2_0, i9_2_1⟩ := h9 87 _ rfl
  obtain ⟨_, e9_3, fa, rfl, i9_3_0⟩ := h9 88 _ rfl
  obtain ⟨_, e9_4, fpl, rfl, i9_4_0⟩ := h9 89 _ rfl
  obtain ⟨_, e9_5, mn, rfl, i9_5_0, i9_5_1⟩ := h9 90 _ rfl
  obtain ⟨_, e9_6, bs, rfl, i9_6_0, i9_6_1⟩ := h9 91 _ rfl
  obtain ⟨_, e9_7, ys, rfl, i9_7_0, i9_7_1⟩ := h9 92 _ rfl
  obtain ⟨_, e9_8, ls, rfl, i9_8_0⟩ := h9 93 _ rfl
  obtain ⟨_, e9_9, ss, rfl, i9_9_0, i9_9_1⟩ := h9 94 _ rfl
  obtain ⟨_, e9_10, td, rfl⟩ := h9 95 _ rfl
  obtain ⟨_, e9_11, re, rfl⟩ := h9 96 _ rfl
  refine ⟨[85, 86, 87, 88, 89, 90, 91, 92, 93, 94, 95, 96, 97, 98, 99, 100, 101, 102, 103, 104, 105, 106, 107, 108, 109, 110], [q2 0, q1 a, q1 b], [.inr (12, [q1 mco, q2 1, q2 2, q2 3, q2 4, q2 5, q2 6, q2 7, q2 8, q2 9, q1 mre, q1 mle, q1 mbe, q1 mso, q1 mva, q3 mwo, q1 mwr, q1 mlf, q1 mlp, q2 10, q2 11, q1 mfp, q1 mfd, q1 mgo, q1 mbo, q1 mpe, q1 mye, q2 12, q1 mpr, q2 13, q2 14, q2 15, q2 16, q1 mld, q2 17, q1 msi, q2 18, q2 19, q2 20, q2 21, q2 22, q1 mse, q2 23, q2 24, q2 25]), .inl (1, 2400, .inl tp), .inl (0, 4, .inl siz), .inl (0, 4, .inl fa), .inl (0, 4, .inl fpl), .inl (0, 16, .inl mn), .inl (0, 600, .inl bs), .inl (0, 1288, .inl ys), .inl (0, 72, .inl ls), .inl (0, 168, .inl ss), .inl (0, 161, .inl td), .inl (0, 4, .inl re)], rfl, ?_, rfl, ?_⟩
  · show [w[85]?, w[86]?, w[87]?, w[88]?, w[89]?, w[90]?, w[91]?, w[92]?, w[93]?, w[94]?, w[95]?, w[96]?] = _
    rw [e9_0, e9_1, e9_2, e9_3, e9_4, e9_5, e9_6, e9_7, e9_8, e9_9, e9_10, e9_11]
    rfl
  · refine ⟨mco, mre, mle, mbe, mso, mva, mwo, mwr, mlf, mlp, mfp, mfd, mgo, mbo, mpe, mye, mpr, mld, msi, mse, tp, siz, fa, fpl, mn, bs, ys, ls, ss, td, re, a, b, rfl, rfl, (by first | assumption | omega), (by first | assumption | omega), (by first | assumption | omega), (by first | assumption | omega), (by first | assumption | omega), fun r x_mco x_mle x_mre x_mbe x_mso x_mva x_mwo x_mwr x_mlf x_mlp x_mgo x_mfp x_mfd x_re x_td x_siz x_fa x_fpl x_mn x_bs x_ys x_ls x_ss hp hlen => ?_⟩
    refine hQ9 _ (fu (fu (fu (fu (fu (fu (fu (fu F 87 x_siz) 88 x_fa) 89 x_fpl) 90 x_mn) 91 x_bs) 92 x_ys) 93 x_ls) 94 x_ss) U _ (PW_bwC h9 rfl (fun i hi => LC_ne (fu_c (fun e => hi (by rw [e]; exact List.mem_of_getElem? (i := 9) rfl)) (fu_c (fun e => hi (by rw [e]; exact List.mem_of_getElem? (i := 8) rfl)) (fu_c (fun e => hi (by rw [e]; exact List.mem_of_getElem? (i := 7) rfl)) (fu_c (fun e => hi (by rw [e]; exact List.mem_of_getElem? (i := 6) rfl)) (fu_c (fun e => hi (by rw [e]; exact List.mem_of_getElem? (i := 5) rfl)) (fu_c (fun e => hi (by rw [e]; exact List.mem_of_getElem? (i := 4) rfl)) (fu_c (fun e => hi (by rw [e]; exact List.mem_of_getElem? (i := 3) rfl)) (fu_c (fun e => hi (by rw [e]; exact List.mem_of_getElem? (i := 2) rfl)) rfl)))))))) rfl) rfl ?_) (by rw [q_bw_len]) (bw_out rfl) ⟨a, b, r, rfl, rfl, ⟨(by have q9 := hp.2.2.2.2.2; rw [i9_1_0, i9_2_1, i9_3_0, i9_4_0, i9_5_1, i9_6_1, i9_7_1, i9_8_0, i9_9_1] at q9; exact q9), fun p h1 => (fu_c (fun e9 => by omega) (fu_c (fun e9 => by omega) (fu_c (fun e9 => by omega) (fu_c (fun e9 => by omega) (fu_c (fun e9 => by omega) (fu_c (fun e9 => by omega) (fu_c (fun e9 => by omega) (fu_c (fun e9 => by omega) rfl)))))))), rfl⟩⟩
    refine ⟨(show PM_M _ from ⟨_, _, _, _, _, _, _, _, _, _, _, _, _, _, _, _, _, _, _, _, rfl⟩), ?_⟩
    refine ⟨(show PM_TP (F 86) _ from ⟨_, rfl, (by first | assumption | omega | exact hp.1 | exact hp.2.1 | exact hp.2.2.1 | exact hp.2.2.2.1 | exact hp.2.2.2.2.1 | exact hp.2.2.2.2 | exact hp.2.2.2 | exact hp.2.2 | exact hp.2)⟩), ?_⟩
    refine ⟨(show PM_SZ (x_siz) _ from ⟨_, rfl, hp.2.2.2.2.1, rfl⟩), ?_⟩
    refine ⟨(show PM_FA (x_fa) _ from ⟨_, rfl, rfl⟩), ?_⟩
    refine ⟨(show PM_FP (x_fpl) _ from ⟨_, rfl, rfl⟩), ?_⟩
    refine ⟨(show PM_MN (x_mn) _ from ⟨_, rfl, hp.2.2.2.1, rfl⟩), ?_⟩
    refine ⟨(show PM_BS (x_bs) _ from ⟨_, rfl, hp.1, rfl⟩), ?_⟩
    refine ⟨(show PM_YS (x_ys) _ from ⟨_, rfl, hp.2.1, rfl⟩), ?_⟩
    refine ⟨(show PM_LS (x_ls) _ from ⟨_, rfl, rfl⟩), ?_⟩
    refine ⟨(show PM_SS (x_ss) _ from ⟨_, rfl, hp.2.2.1, rfl⟩), ?_⟩
    refine ⟨(show PM_TD _ from ⟨_, rfl⟩), ?_⟩
    refine ⟨(show PM_RE _ from ⟨_, rfl⟩), ?_⟩
    exact trivial

set_option maxHeartbeats 2000000 in
set_option maxRecDepth 100000 in
theorem mL_X12_fault (l : Launch) (F U : Nat → Nat → Int) : q_M l yX12_fault cX12_fault 2 (some .int) 0 0 (spV (LC F U) (fun av r => ∃ a z : Int, av = [q2 85, q1 a] ∧ r = some (q1 z) ∧ z = if a = 0 then F 88 0 else if a = 1 then F 89 0 else -1) (fun av => ∃ a : Int, av = [q2 85, q1 a])) := by
  refine q_M_mono (fun av w Q h9 => ?_) (q_M_fr (m_F12_fault l))
  obtain ⟨h9, ⟨a, rfl⟩, hQ9⟩ := h9
  obtain ⟨_, e9_0, mco, mre, mle, mbe, mso, mva, mwo, mwr, mlf, mlp, mfp, mfd, mgo, mbo, mpe, mye, mpr, mld, msi, mse, rfl⟩ := h9 85 _ rfl
  obtain ⟨_, e9_1, fa, rfl, i9_1_0⟩ := h9 88 _ rfl
  obtain ⟨_, e9_2, fpl, rfl, i9_2_0⟩ := h9 89 _ rfl
  refine ⟨[85, 88, 89, 86, 87, 90, 91, 92, 93, 94, 95, 96, 97, 98, 99, 100, 101, 102, 103, 104, 105, 106, 107, 108, 109, 110], [q2 0, q1 a], [.inr (12, [q1 mco, q2 3, q2 4, q2 1, q2 2, q2 5, q2 6, q2 7, q2 8, q2 9, q1 mre, q1 mle, q1 mbe, q1 mso, q1 mva, q3 mwo, q1 mwr, q1 mlf, q1 mlp, q2 10, q2 11, q1 mfp, q1 mfd, q1 mgo, q1 mbo, q1 mpe, q1 mye, q2 12, q1 mpr, q2 13, q2 14, q2 15, q2 16, q1 mld, q2 17, q1 msi, q2 18, q2 19, q2 20, q2 21, q2 22, q1 mse, q2 23, q2 24, q2 25]), .inl (0, 4, .inl fa), .inl (0, 4, .inl fpl)], rfl, ?_, rfl, ?_⟩
  · show [w[85]?, w[88]?, w[89]?] = _
    rw [e9_0, e9_1, e9_2]
    rfl
  · refine ⟨mco, mre, mle, mbe, mso, mva, mwo, mwr, mlf, mlp, mfp, mfd, mgo, mbo, mpe, mye, mpr, mld, msi, mse, fa, fpl, a, rfl, rfl, fun r x_mco hp hlen => ?_⟩
    refine hQ9 _ _ (PW_bw h9 rfl ?_) (by rw [q_bw_len]) (bw_out rfl) ⟨a, r, rfl, rfl, (by rw [← i9_1_0, ← i9_2_0]; exact hp)⟩
    refine ⟨(show PM_M _ from ⟨_, _, _, _, _, _, _, _, _, _, _, _, _, _, _, _, _, _, _, _, rfl⟩), ?_⟩
    refine ⟨(show PM_FA (F 88) _ from ⟨_, rfl, (by first | assumption | omega | exact hp.1 | exact hp.2.1 | exact hp.2.2.1 | exact hp.2.2.2.1 | exact hp.2.2.2.2.1 | exact hp.2.2.2.2 | exact hp.2.2.2 | exact hp.2.2 | exact hp.2)⟩), ?_⟩
    refine ⟨(show PM_FP (F 89) _ from ⟨_, rfl, (by first | assumption | omega | exact hp.1 | exact hp.2.1 | exact hp.2.2.1 | exact hp.2.2.2.1 | exact hp.2.2.2.2.1 | exact hp.2.2.2.2 | exact hp.2.2.2 | exact hp.2.2 | exact hp.2)⟩), ?_⟩
    exact trivial

set_option maxHeartbeats 2000000 in
set_option maxRecDepth 100000 in
theorem mL_X12_borough (l : Launch) (F U : Nat → Nat → Int) : q_M l yX12_borough cX12_borough 4 (some .int) 3 65 (spW F U (fun av => ∃ a b : Int, av = [q2 85, q1 a, q1 b]) rkI) := by
  refine q_M_mono (fun av w Q h9 => ?_) (q_M_fr (m_X12_borough l))
  obtain ⟨h9, ⟨a, b, rfl⟩, hQ9⟩ := h9
  obtain ⟨_, e9_0, mco, mre, mle, mbe, mso, mva, mwo, mwr, mlf, mlp, mfp, mfd, mgo, mbo, mpe, mye, mpr, mld, msi, mse, rfl⟩ := h9 85 _ rfl
  obtain ⟨_, e9_1, mn, rfl, i9_1_0, i9_1_1⟩ := h9 90 _ rfl
  obtain ⟨_, e9_2, bs, rfl, i9_2_0, i9_2_1⟩ := h9 91 _ rfl
  refine ⟨[85, 90, 91, 86, 87, 88, 89, 92, 93, 94, 95, 96, 97, 98, 99, 100, 101, 102, 103, 104, 105, 106, 107, 108, 109, 110], [q2 0, q1 a, q1 b], [.inr (12, [q1 mco, q2 3, q2 4, q2 5, q2 6, q2 1, q2 2, q2 7, q2 8, q2 9, q1 mre, q1 mle, q1 mbe, q1 mso, q1 mva, q3 mwo, q1 mwr, q1 mlf, q1 mlp, q2 10, q2 11, q1 mfp, q1 mfd, q1 mgo, q1 mbo, q1 mpe, q1 mye, q2 12, q1 mpr, q2 13, q2 14, q2 15, q2 16, q1 mld, q2 17, q1 msi, q2 18, q2 19, q2 20, q2 21, q2 22, q1 mse, q2 23, q2 24, q2 25]), .inl (0, 16, .inl mn), .inl (0, 600, .inl bs)], rfl, ?_, rfl, ?_⟩
  · show [w[85]?, w[90]?, w[91]?] = _
    rw [e9_0, e9_1, e9_2]
    rfl
  · refine ⟨mco, mre, mle, mbe, mso, mva, mwo, mwr, mlf, mlp, mfp, mfd, mgo, mbo, mpe, mye, mpr, mld, msi, mse, mn, bs, a, b, rfl, rfl, (by first | assumption | omega), (by first | assumption | omega), fun r x_mco x_mbo x_mpe hlen => ?_⟩
    refine hQ9 _ _ (PW_bw h9 rfl ?_) (by rw [q_bw_len]) (bw_out rfl) ⟨_, rfl⟩
    refine ⟨(show PM_M _ from ⟨_, _, _, _, _, _, _, _, _, _, _, _, _, _, _, _, _, _, _, _, rfl⟩), ?_⟩
    refine ⟨(show PM_MN (F 90) _ from ⟨_, rfl, (by first | assumption | omega | exact hp.1 | exact hp.2.1 | exact hp.2.2.1 | exact hp.2.2.2.1 | exact hp.2.2.2.2.1 | exact hp.2.2.2.2 | exact hp.2.2.2 | exact hp.2.2 | exact hp.2), (by first | assumption | omega | exact hp.1 | exact hp.2.1 | exact hp.2.2.1 | exact hp.2.2.2.1 | exact hp.2.2.2.2.1 | exact hp.2.2.2.2 | exact hp.2.2.2 | exact hp.2.2 | exact hp.2)⟩), ?_⟩
    refine ⟨(show PM_BS (F 91) _ from ⟨_, rfl, (by first | assumption | omega | exact hp.1 | exact hp.2.1 | exact hp.2.2.1 | exact hp.2.2.2.1 | exact hp.2.2.2.2.1 | exact hp.2.2.2.2 | exact hp.2.2.2 | exact hp.2.2 | exact hp.2), (by first | assumption | omega | exact hp.1 | exact hp.2.1 | exact hp.2.2.1 | exact hp.2.2.2.1 | exact hp.2.2.2.2.1 | exact hp.2.2.2.2 | exact hp.2.2.2 | exact hp.2.2 | exact hp.2)⟩), ?_⟩
    exact trivial

set_option maxHeartbeats 2000000 in
set_option maxRecDepth 100000 in
theorem mL_X12_deed (l : Launch) (F U : Nat → Nat → Int) : q_M l yX12_deed cX12_deed 4 (some .int) 3 65 (spW F U (fun av => ∃ a b cc : Int, av = [q2 85, q1 a, q1 b, q1 cc]) rkI) := by
  refine q_M_mono (fun av w Q h9 => ?_) (q_M_fr (m_X12_deed l))
  obtain ⟨h9, ⟨a, b, cc, rfl⟩, hQ9⟩ := h9
  obtain ⟨_, e9_0, mco, mre, mle, mbe, mso, mva, mwo, mwr, mlf, mlp, mfp, mfd, mgo, mbo, mpe, mye, mpr, mld, msi, mse, rfl⟩ := h9 85 _ rfl
  obtain ⟨_, e9_1, mn, rfl, i9_1_0, i9_1_1⟩ := h9 90 _ rfl
  obtain ⟨_, e9_2, ys, rfl, i9_2_0, i9_2_1⟩ := h9 92 _ rfl
  refine ⟨[85, 90, 92, 86, 87, 88, 89, 91, 93, 94, 95, 96, 97, 98, 99, 100, 101, 102, 103, 104, 105, 106, 107, 108, 109, 110], [q2 0, q1 a, q1 b, q1 cc], [.inr (12, [q1 mco, q2 3, q2 4, q2 5, q2 6, q2 1, q2 7, q2 2, q2 8, q2 9, q1 mre, q1 mle, q1 mbe, q1 mso, q1 mva, q3 mwo, q1 mwr, q1 mlf, q1 mlp, q2 10, q2 11, q1 mfp, q1 mfd, q1 mgo, q1 mbo, q1 mpe, q1 mye, q2 12, q1 mpr, q2 13, q2 14, q2 15, q2 16, q1 mld, q2 17, q1 msi, q2 18, q2 19, q2 20, q2 21, q2 22, q1 mse, q2 23, q2 24, q2 25]), .inl (0, 16, .inl mn), .inl (0, 1288, .inl ys)], rfl, ?_, rfl, ?_⟩
  · show [w[85]?, w[90]?, w[92]?] = _
    rw [e9_0, e9_1, e9_2]
    rfl
  · refine ⟨mco, mre, mle, mbe, mso, mva, mwo, mwr, mlf, mlp, mfp, mfd, mgo, mbo, mpe, mye, mpr, mld, msi, mse, mn, ys, a, b, cc, rfl, rfl, (by first | assumption | omega), (by first | assumption | omega), fun r x_mco x_mye hlen => ?_⟩
    refine hQ9 _ _ (PW_bw h9 rfl ?_) (by rw [q_bw_len]) (bw_out rfl) ⟨_, rfl⟩
    refine ⟨(show PM_M _ from ⟨_, _, _, _, _, _, _, _, _, _, _, _, _, _, _, _, _, _, _, _, rfl⟩), ?_⟩
    refine ⟨(show PM_MN (F 90) _ from ⟨_, rfl, (by first | assumption | omega | exact hp.1 | exact hp.2.1 | exact hp.2.2.1 | exact hp.2.2.2.1 | exact hp.2.2.2.2.1 | exact hp.2.2.2.2 | exact hp.2.2.2 | exact hp.2.2 | exact hp.2), (by first | assumption | omega | exact hp.1 | exact hp.2.1 | exact hp.2.2.1 | exact hp.2.2.2.1 | exact hp.2.2.2.2.1 | exact hp.2.2.2.2 | exact hp.2.2.2 | exact hp.2.2 | exact hp.2)⟩), ?_⟩
    refine ⟨(show PM_YS (F 92) _ from ⟨_, rfl, (by first | assumption | omega | exact hp.1 | exact hp.2.1 | exact hp.2.2.1 | exact hp.2.2.2.1 | exact hp.2.2.2.2.1 | exact hp.2.2.2.2 | exact hp.2.2.2 | exact hp.2.2 | exact hp.2), (by first | assumption | omega | exact hp.1 | exact hp.2.1 | exact hp.2.2.1 | exact hp.2.2.2.1 | exact hp.2.2.2.2.1 | exact hp.2.2.2.2 | exact hp.2.2.2 | exact hp.2.2 | exact hp.2)⟩), ?_⟩
    exact trivial
