set_option maxHeartbeats 2000000 in
set_option maxRecDepth 100000 in
theorem mL_G12_hats (l : Launch) (F U : Nat → Nat → Int) : q_M l yX12_hats cX12_hats 7 (some .int) 3 65 (spV (LC F U) (fun av r => ∃ a b z : Int, av = [q2 85, q1 a, q1 b] ∧ r = some (q1 z) ∧ (RGA F U → rHtm F a b z)) (fun av => ∃ a b : Int, av = [q2 85, q1 a, q1 b])) := by
  by_cases hH : RGA F U
  · refine q_M_mono (fun av w Q h9 => ?_) (q_M_fr (m_G12_hats l))
    obtain ⟨h9, ⟨a, b, rfl⟩, hQ9⟩ := h9
    obtain ⟨_, e9_0, mco, mre, mle, mbe, mso, mva, mwo, mwr, mlf, mlp, mfp, mfd, mgo, mbo, mpe, mye, mpr, mld, msi, mse, rfl⟩ := h9 85 _ rfl
    obtain ⟨_, e9_1, mn, rfl, i9_1_0, i9_1_1⟩ := h9 90 _ rfl
    obtain ⟨_, e9_2, bs, rfl, i9_2_0, i9_2_1⟩ := h9 91 _ rfl
    obtain ⟨_, e9_3, tl, rfl⟩ := h9 97 _ rfl
    refine ⟨[85, 90, 91, 97, 86, 87, 88, 89, 92, 93, 94, 95, 96, 98, 99, 100, 101, 102, 103, 104, 105, 106, 107, 108, 109, 110], [q2 0, q1 a, q1 b], [.inr (12, [q1 mco, q2 4, q2 5, q2 6, q2 7, q2 1, q2 2, q2 8, q2 9, q2 10, q1 mre, q1 mle, q1 mbe, q1 mso, q1 mva, q3 mwo, q1 mwr, q1 mlf, q1 mlp, q2 11, q2 12, q1 mfp, q1 mfd, q1 mgo, q1 mbo, q1 mpe, q1 mye, q2 3, q1 mpr, q2 13, q2 14, q2 15, q2 16, q1 mld, q2 17, q1 msi, q2 18, q2 19, q2 20, q2 21, q2 22, q1 mse, q2 23, q2 24, q2 25]), .inl (0, 16, .inl mn), .inl (0, 600, .inl bs), .inl (0, 8, .inl tl)], rfl, ?_, rfl, ?_⟩
    · show [w[85]?, w[90]?, w[91]?, w[97]?] = _
      rw [e9_0, e9_1, e9_2, e9_3]
      rfl
    · refine ⟨mco, mre, mle, mbe, mso, mva, mwo, mwr, mlf, mlp, mfp, mfd, mgo, mbo, mpe, mye, mpr, mld, msi, mse, mn, bs, tl, a, b, rfl, rfl, (by first | assumption | omega), (by first | assumption | omega), (by rw [i9_1_1, i9_2_1]; exact RGA_M hH), fun r x_mco x_mbo x_mpe x_tl x_mpr hp hlen => ?_⟩
      refine hQ9 _ _ (PW_bw h9 rfl ?_) (by rw [q_bw_len]) (bw_out rfl) ⟨a, b, r, rfl, rfl, fun _ => (by have q9 := hp; rw [i9_1_1, i9_2_1] at q9; exact q9)⟩
      refine ⟨(show PM_M _ from ⟨_, _, _, _, _, _, _, _, _, _, _, _, _, _, _, _, _, _, _, _, rfl⟩), ?_⟩
      refine ⟨(show PM_MN (F 90) _ from ⟨_, rfl, (by first | assumption | omega | exact hp.1 | exact hp.2.1 | exact hp.2.2.1 | exact hp.2.2.2.1 | exact hp.2.2.2.2.1 | exact hp.2.2.2.2 | exact hp.2.2.2 | exact hp.2.2 | exact hp.2), (by first | assumption | omega | exact hp.1 | exact hp.2.1 | exact hp.2.2.1 | exact hp.2.2.2.1 | exact hp.2.2.2.2.1 | exact hp.2.2.2.2 | exact hp.2.2.2 | exact hp.2.2 | exact hp.2)⟩), ?_⟩
      refine ⟨(show PM_BS (F 91) _ from ⟨_, rfl, (by first | assumption | omega | exact hp.1 | exact hp.2.1 | exact hp.2.2.1 | exact hp.2.2.2.1 | exact hp.2.2.2.2.1 | exact hp.2.2.2.2 | exact hp.2.2.2 | exact hp.2.2 | exact hp.2), (by first | assumption | omega | exact hp.1 | exact hp.2.1 | exact hp.2.2.1 | exact hp.2.2.2.1 | exact hp.2.2.2.2.1 | exact hp.2.2.2.2 | exact hp.2.2.2 | exact hp.2.2 | exact hp.2)⟩), ?_⟩
      refine ⟨(show PM_TL _ from ⟨_, rfl⟩), ?_⟩
      exact trivial
  · refine q_M_mono (fun av w Q h9 => ?_) (mL_X12_hats l F U)
    obtain ⟨h9, ⟨a, b, rfl⟩, hQ9⟩ := h9
    exact ⟨h9, ⟨a, b, rfl⟩, fun r w1 b1 b2 b3 b4 => by obtain ⟨z, rfl⟩ := b4; exact hQ9 _ _ b1 b2 b3 ⟨a, b, z, rfl, rfl, fun h => absurd h hH⟩⟩
