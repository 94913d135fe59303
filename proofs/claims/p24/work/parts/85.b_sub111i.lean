def sO_B0_111i : qS := spY CL_111 out_111 (fun av => av = [q2 118, q2 8]) (fun F U _ r F' U' => r = none ∧ CpBlk [8, 8, 4, 32, 6, 6, 6] 5 118 8 F U F' U')
set_option maxHeartbeats 4000000 in
set_option maxRecDepth 100000 in
theorem mO_B0_111i (l : Launch) : q_M l yX0_copy cX0_copy 2 none 1 68 sO_B0_111i := by
  refine q_M_mono (fun av w Q h9 => ?_) (q_M_fr (m_X0_copy l))
  obtain ⟨F, U, h9, rfl, hQ9⟩ := h9
  obtain ⟨_, e9_0, b0u0, b0u1, b0u2, b0u3, b0u4, rfl, i9_0_0, i9_0_1⟩ := h9 118 _ rfl
  obtain ⟨_, e9_1, b0f1, rfl, i9_1_0⟩ := h9 119 _ rfl
  obtain ⟨_, e9_2, b0f2, rfl, i9_2_0⟩ := h9 120 _ rfl
  obtain ⟨_, e9_3, b0f3, rfl, i9_3_0, i9_3_1⟩ := h9 121 _ rfl
  obtain ⟨_, e9_4, b0f4, rfl, i9_4_0⟩ := h9 122 _ rfl
  obtain ⟨_, e9_5, b0f5, rfl, i9_5_0⟩ := h9 123 _ rfl
  obtain ⟨_, e9_6, b0f6, rfl, i9_6_0⟩ := h9 124 _ rfl
  obtain ⟨_, e9_7, b0f7, rfl, i9_7_0⟩ := h9 125 _ rfl
  obtain ⟨_, e9_8, g_b0u0, g_b0u1, g_b0u2, g_b0u3, g_b0u4, rfl, i9_8_0, i9_8_1⟩ := h9 8 _ rfl
  obtain ⟨_, e9_9, g_b0f1, rfl, i9_9_0⟩ := h9 9 _ rfl
  obtain ⟨_, e9_10, g_b0f2, rfl, i9_10_0⟩ := h9 10 _ rfl
  obtain ⟨_, e9_11, g_b0f3, rfl, i9_11_0, i9_11_1⟩ := h9 11 _ rfl
  obtain ⟨_, e9_12, g_b0f4, rfl, i9_12_0⟩ := h9 12 _ rfl
  obtain ⟨_, e9_13, g_b0f5, rfl, i9_13_0⟩ := h9 13 _ rfl
  obtain ⟨_, e9_14, g_b0f6, rfl, i9_14_0⟩ := h9 14 _ rfl
  obtain ⟨_, e9_15, g_b0f7, rfl, i9_15_0⟩ := h9 15 _ rfl
  refine ⟨[118, 119, 120, 121, 122, 123, 124, 125, 8, 9, 10, 11, 12, 13, 14, 15], [q2 0, q2 8], (wBo 0 b0f1 b0f2 b0f3 b0f4 b0f5 b0f6 b0f7 b0u0 b0u1 b0u2 b0u3 b0u4 ++ wBo 8 g_b0f1 g_b0f2 g_b0f3 g_b0f4 g_b0f5 g_b0f6 g_b0f7 g_b0u0 g_b0u1 g_b0u2 g_b0u3 g_b0u4), rfl, ?_, rfl, ?_⟩
  · show [w[118]?, w[119]?, w[120]?, w[121]?, w[122]?, w[123]?, w[124]?, w[125]?, w[8]?, w[9]?, w[10]?, w[11]?, w[12]?, w[13]?, w[14]?, w[15]?] = _
    rw [e9_0, e9_1, e9_2, e9_3, e9_4, e9_5, e9_6, e9_7, e9_8, e9_9, e9_10, e9_11, e9_12, e9_13, e9_14, e9_15]
    rfl
  · refine ⟨b0f1, b0f2, b0f3, b0f4, b0f5, b0f6, b0f7, b0u0, b0u1, b0u2, b0u3, b0u4, g_b0f1, g_b0f2, g_b0f3, g_b0f4, g_b0f5, g_b0f6, g_b0f7, g_b0u0, g_b0u1, g_b0u2, g_b0u3, g_b0u4, rfl, rfl, fun hlen => ?_⟩
    refine hQ9 _ (fu (fu (fu (fu (fu (fu (fu F 119 (va_cpy g_b0f1 b0f1 0 0 8)) 120 (va_cpy g_b0f2 b0f2 0 0 8)) 121 (va_cpy g_b0f3 b0f3 0 0 4)) 122 (va_cpy g_b0f4 b0f4 0 0 32)) 123 (va_cpy g_b0f5 b0f5 0 0 6)) 124 (va_cpy g_b0f6 b0f6 0 0 6)) 125 (va_cpy g_b0f7 b0f7 0 0 6)) (fu U 118 (vL [g_b0u0, g_b0u1, g_b0u2, g_b0u3, g_b0u4])) _ (PW_bwC h9 rfl (fun i hi => CL_111_ne (fu_c (fun e => hi (by rw [e]; exact List.mem_of_getElem? (i := 7) rfl)) (fu_c (fun e => hi (by rw [e]; exact List.mem_of_getElem? (i := 6) rfl)) (fu_c (fun e => hi (by rw [e]; exact List.mem_of_getElem? (i := 5) rfl)) (fu_c (fun e => hi (by rw [e]; exact List.mem_of_getElem? (i := 4) rfl)) (fu_c (fun e => hi (by rw [e]; exact List.mem_of_getElem? (i := 3) rfl)) (fu_c (fun e => hi (by rw [e]; exact List.mem_of_getElem? (i := 2) rfl)) (fu_c (fun e => hi (by rw [e]; exact List.mem_of_getElem? (i := 1) rfl)) rfl))))))) (fu_c (fun e => hi (by rw [e]; exact List.mem_of_getElem? (i := 0) rfl)) rfl)) rfl ?_) (by rw [q_bw_len]) (bw_outo (ps := [118, 119, 120, 121, 122, 123, 124, 125, 8, 9, 10, 11, 12, 13, 14, 15]) (fun p hp => by unfold out_111; revert p; decide)) ⟨rfl, (fun p (h1 : ¬ (118 ≤ p ∧ p ≤ 118 + ([8, 8, 4, 32, 6, 6, 6] : List Nat).length)) => ⟨(fu_c (fun e9 => by simp only [List.length] at h1; omega) (fu_c (fun e9 => by simp only [List.length] at h1; omega) (fu_c (fun e9 => by simp only [List.length] at h1; omega) (fu_c (fun e9 => by simp only [List.length] at h1; omega) (fu_c (fun e9 => by simp only [List.length] at h1; omega) (fu_c (fun e9 => by simp only [List.length] at h1; omega) (fu_c (fun e9 => by simp only [List.length] at h1; omega) rfl))))))), (fu_c (fun e9 => by simp only [List.length] at h1; omega) rfl)⟩), (by intro j hj i hi; match j, hj with | 0, _ => exact (cpy_lt hi).trans (congrFun i9_9_0 i) | 1, _ => exact (cpy_lt hi).trans (congrFun i9_10_0 i) | 2, _ => exact (cpy_lt hi).trans (congrFun i9_11_1 i) | 3, _ => exact (cpy_lt hi).trans (congrFun i9_12_0 i) | 4, _ => exact (cpy_lt hi).trans (congrFun i9_13_0 i) | 5, _ => exact (cpy_lt hi).trans (congrFun i9_14_0 i) | 6, _ => exact (cpy_lt hi).trans (congrFun i9_15_0 i) | j + 7, hj => exact absurd hj (by simp)), (by intro i hi; match i, hi with | 0, _ => exact i9_8_1.1 | 1, _ => exact i9_8_1.2.1 | 2, _ => exact i9_8_1.2.2.1 | 3, _ => exact i9_8_1.2.2.2.1 | 4, _ => exact i9_8_1.2.2.2.2 | i + 5, hi => exact absurd hi (by omega))⟩
    refine ⟨(show PT_B0 111 (vL [g_b0u0, g_b0u1, g_b0u2, g_b0u3, g_b0u4]) _ from ⟨_, _, _, _, _, rfl, (by first | assumption | omega | exact q_rg_cpy (by assumption) (by assumption)), ⟨rfl, rfl, rfl, rfl, rfl⟩⟩), ?_⟩
    refine ⟨(show PT_B0_1 111 (va_cpy g_b0f1 b0f1 0 0 8) _ from ⟨_, rfl, rfl⟩), ?_⟩
    refine ⟨(show PT_B0_2 111 (va_cpy g_b0f2 b0f2 0 0 8) _ from ⟨_, rfl, rfl⟩), ?_⟩
    refine ⟨(show PT_B0_3 111 (va_cpy g_b0f3 b0f3 0 0 4) _ from ⟨_, rfl, (by first | assumption | omega | exact q_rg_cpy (by assumption) (by assumption)), rfl⟩), ?_⟩
    refine ⟨(show PT_B0_4 111 (va_cpy g_b0f4 b0f4 0 0 32) _ from ⟨_, rfl, rfl⟩), ?_⟩
    refine ⟨(show PT_B0_5 111 (va_cpy g_b0f5 b0f5 0 0 6) _ from ⟨_, rfl, rfl⟩), ?_⟩
    refine ⟨(show PT_B0_6 111 (va_cpy g_b0f6 b0f6 0 0 6) _ from ⟨_, rfl, rfl⟩), ?_⟩
    refine ⟨(show PT_B0_7 111 (va_cpy g_b0f7 b0f7 0 0 6) _ from ⟨_, rfl, rfl⟩), ?_⟩
    refine ⟨(show PX_B0 (U 8) _ from ⟨_, _, _, _, _, rfl, (by first | assumption | omega | exact q_rg_cpy (by assumption) (by assumption)), i9_8_1⟩), ?_⟩
    refine ⟨(show PX_B0_1 (F 9) _ from ⟨_, rfl, i9_9_0⟩), ?_⟩
    refine ⟨(show PX_B0_2 (F 10) _ from ⟨_, rfl, i9_10_0⟩), ?_⟩
    refine ⟨(show PX_B0_3 (F 11) _ from ⟨_, rfl, (by first | assumption | omega | exact q_rg_cpy (by assumption) (by assumption)), i9_11_1⟩), ?_⟩
    refine ⟨(show PX_B0_4 (F 12) _ from ⟨_, rfl, i9_12_0⟩), ?_⟩
    refine ⟨(show PX_B0_5 (F 13) _ from ⟨_, rfl, i9_13_0⟩), ?_⟩
    refine ⟨(show PX_B0_6 (F 14) _ from ⟨_, rfl, i9_14_0⟩), ?_⟩
    refine ⟨(show PX_B0_7 (F 15) _ from ⟨_, rfl, i9_15_0⟩), ?_⟩
    exact trivial

def sO_B1_111i : qS := spY CL_111 out_111 (fun av => av = [q2 126, q2 16]) (fun F U _ r F' U' => r = none ∧ CpBlk [8, 8, 4, 32, 6, 6, 6] 5 126 16 F U F' U')
set_option maxHeartbeats 4000000 in
set_option maxRecDepth 100000 in
theorem mO_B1_111i (l : Launch) : q_M l yX0_copy cX0_copy 2 none 1 68 sO_B1_111i := by
  refine q_M_mono (fun av w Q h9 => ?_) (q_M_fr (m_X0_copy l))
  obtain ⟨F, U, h9, rfl, hQ9⟩ := h9
  obtain ⟨_, e9_0, b1u0, b1u1, b1u2, b1u3, b1u4, rfl, i9_0_0, i9_0_1⟩ := h9 126 _ rfl
  obtain ⟨_, e9_1, b1f1, rfl, i9_1_0⟩ := h9 127 _ rfl
  obtain ⟨_, e9_2, b1f2, rfl, i9_2_0⟩ := h9 128 _ rfl
  obtain ⟨_, e9_3, b1f3, rfl, i9_3_0, i9_3_1⟩ := h9 129 _ rfl
  obtain ⟨_, e9_4, b1f4, rfl, i9_4_0⟩ := h9 130 _ rfl
  obtain ⟨_, e9_5, b1f5, rfl, i9_5_0⟩ := h9 131 _ rfl
  obtain ⟨_, e9_6, b1f6, rfl, i9_6_0⟩ := h9 132 _ rfl
  obtain ⟨_, e9_7, b1f7, rfl, i9_7_0⟩ := h9 133 _ rfl
  obtain ⟨_, e9_8, g_b1u0, g_b1u1, g_b1u2, g_b1u3, g_b1u4, rfl, i9_8_0, i9_8_1⟩ := h9 16 _ rfl
  obtain ⟨_, e9_9, g_b1f1, rfl, i9_9_0⟩ := h9 17 _ rfl
  obtain ⟨_, e9_10, g_b1f2, rfl, i9_10_0⟩ := h9 18 _ rfl
  obtain ⟨_, e9_11, g_b1f3, rfl, i9_11_0, i9_11_1⟩ := h9 19 _ rfl
  obtain ⟨_, e9_12, g_b1f4, rfl, i9_12_0⟩ := h9 20 _ rfl
  obtain ⟨_, e9_13, g_b1f5, rfl, i9_13_0⟩ := h9 21 _ rfl
  obtain ⟨_, e9_14, g_b1f6, rfl, i9_14_0⟩ := h9 22 _ rfl
  obtain ⟨_, e9_15, g_b1f7, rfl, i9_15_0⟩ := h9 23 _ rfl
  refine ⟨[126, 127, 128, 129, 130, 131, 132, 133, 16, 17, 18, 19, 20, 21, 22, 23], [q2 0, q2 8], (wBo 0 b1f1 b1f2 b1f3 b1f4 b1f5 b1f6 b1f7 b1u0 b1u1 b1u2 b1u3 b1u4 ++ wBo 8 g_b1f1 g_b1f2 g_b1f3 g_b1f4 g_b1f5 g_b1f6 g_b1f7 g_b1u0 g_b1u1 g_b1u2 g_b1u3 g_b1u4), rfl, ?_, rfl, ?_⟩
  · show [w[126]?, w[127]?, w[128]?, w[129]?, w[130]?, w[131]?, w[132]?, w[133]?, w[16]?, w[17]?, w[18]?, w[19]?, w[20]?, w[21]?, w[22]?, w[23]?] = _
    rw [e9_0, e9_1, e9_2, e9_3, e9_4, e9_5, e9_6, e9_7, e9_8, e9_9, e9_10, e9_11, e9_12, e9_13, e9_14, e9_15]
    rfl
  · refine ⟨b1f1, b1f2, b1f3, b1f4, b1f5, b1f6, b1f7, b1u0, b1u1, b1u2, b1u3, b1u4, g_b1f1, g_b1f2, g_b1f3, g_b1f4, g_b1f5, g_b1f6, g_b1f7, g_b1u0, g_b1u1, g_b1u2, g_b1u3, g_b1u4, rfl, rfl, fun hlen => ?_⟩
    refine hQ9 _ (fu (fu (fu (fu (fu (fu (fu F 127 (va_cpy g_b1f1 b1f1 0 0 8)) 128 (va_cpy g_b1f2 b1f2 0 0 8)) 129 (va_cpy g_b1f3 b1f3 0 0 4)) 130 (va_cpy g_b1f4 b1f4 0 0 32)) 131 (va_cpy g_b1f5 b1f5 0 0 6)) 132 (va_cpy g_b1f6 b1f6 0 0 6)) 133 (va_cpy g_b1f7 b1f7 0 0 6)) (fu U 126 (vL [g_b1u0, g_b1u1, g_b1u2, g_b1u3, g_b1u4])) _ (PW_bwC h9 rfl (fun i hi => CL_111_ne (fu_c (fun e => hi (by rw [e]; exact List.mem_of_getElem? (i := 7) rfl)) (fu_c (fun e => hi (by rw [e]; exact List.mem_of_getElem? (i := 6) rfl)) (fu_c (fun e => hi (by rw [e]; exact List.mem_of_getElem? (i := 5) rfl)) (fu_c (fun e => hi (by rw [e]; exact List.mem_of_getElem? (i := 4) rfl)) (fu_c (fun e => hi (by rw [e]; exact List.mem_of_getElem? (i := 3) rfl)) (fu_c (fun e => hi (by rw [e]; exact List.mem_of_getElem? (i := 2) rfl)) (fu_c (fun e => hi (by rw [e]; exact List.mem_of_getElem? (i := 1) rfl)) rfl))))))) (fu_c (fun e => hi (by rw [e]; exact List.mem_of_getElem? (i := 0) rfl)) rfl)) rfl ?_) (by rw [q_bw_len]) (bw_outo (ps := [126, 127, 128, 129, 130, 131, 132, 133, 16, 17, 18, 19, 20, 21, 22, 23]) (fun p hp => by unfold out_111; revert p; decide)) ⟨rfl, (fun p (h1 : ¬ (126 ≤ p ∧ p ≤ 126 + ([8, 8, 4, 32, 6, 6, 6] : List Nat).length)) => ⟨(fu_c (fun e9 => by simp only [List.length] at h1; omega) (fu_c (fun e9 => by simp only [List.length] at h1; omega) (fu_c (fun e9 => by simp only [List.length] at h1; omega) (fu_c (fun e9 => by simp only [List.length] at h1; omega) (fu_c (fun e9 => by simp only [List.length] at h1; omega) (fu_c (fun e9 => by simp only [List.length] at h1; omega) (fu_c (fun e9 => by simp only [List.length] at h1; omega) rfl))))))), (fu_c (fun e9 => by simp only [List.length] at h1; omega) rfl)⟩), (by intro j hj i hi; match j, hj with | 0, _ => exact (cpy_lt hi).trans (congrFun i9_9_0 i) | 1, _ => exact (cpy_lt hi).trans (congrFun i9_10_0 i) | 2, _ => exact (cpy_lt hi).trans (congrFun i9_11_1 i) | 3, _ => exact (cpy_lt hi).trans (congrFun i9_12_0 i) | 4, _ => exact (cpy_lt hi).trans (congrFun i9_13_0 i) | 5, _ => exact (cpy_lt hi).trans (congrFun i9_14_0 i) | 6, _ => exact (cpy_lt hi).trans (congrFun i9_15_0 i) | j + 7, hj => exact absurd hj (by simp)), (by intro i hi; match i, hi with | 0, _ => exact i9_8_1.1 | 1, _ => exact i9_8_1.2.1 | 2, _ => exact i9_8_1.2.2.1 | 3, _ => exact i9_8_1.2.2.2.1 | 4, _ => exact i9_8_1.2.2.2.2 | i + 5, hi => exact absurd hi (by omega))⟩
    refine ⟨(show PT_B1 111 (vL [g_b1u0, g_b1u1, g_b1u2, g_b1u3, g_b1u4]) _ from ⟨_, _, _, _, _, rfl, (by first | assumption | omega | exact q_rg_cpy (by assumption) (by assumption)), ⟨rfl, rfl, rfl, rfl, rfl⟩⟩), ?_⟩
    refine ⟨(show PT_B1_1 111 (va_cpy g_b1f1 b1f1 0 0 8) _ from ⟨_, rfl, rfl⟩), ?_⟩
    refine ⟨(show PT_B1_2 111 (va_cpy g_b1f2 b1f2 0 0 8) _ from ⟨_, rfl, rfl⟩), ?_⟩
    refine ⟨(show PT_B1_3 111 (va_cpy g_b1f3 b1f3 0 0 4) _ from ⟨_, rfl, (by first | assumption | omega | exact q_rg_cpy (by assumption) (by assumption)), rfl⟩), ?_⟩
    refine ⟨(show PT_B1_4 111 (va_cpy g_b1f4 b1f4 0 0 32) _ from ⟨_, rfl, rfl⟩), ?_⟩
    refine ⟨(show PT_B1_5 111 (va_cpy g_b1f5 b1f5 0 0 6) _ from ⟨_, rfl, rfl⟩), ?_⟩
    refine ⟨(show PT_B1_6 111 (va_cpy g_b1f6 b1f6 0 0 6) _ from ⟨_, rfl, rfl⟩), ?_⟩
    refine ⟨(show PT_B1_7 111 (va_cpy g_b1f7 b1f7 0 0 6) _ from ⟨_, rfl, rfl⟩), ?_⟩
    refine ⟨(show PX_B1 (U 16) _ from ⟨_, _, _, _, _, rfl, (by first | assumption | omega | exact q_rg_cpy (by assumption) (by assumption)), i9_8_1⟩), ?_⟩
    refine ⟨(show PX_B1_1 (F 17) _ from ⟨_, rfl, i9_9_0⟩), ?_⟩
    refine ⟨(show PX_B1_2 (F 18) _ from ⟨_, rfl, i9_10_0⟩), ?_⟩
    refine ⟨(show PX_B1_3 (F 19) _ from ⟨_, rfl, (by first | assumption | omega | exact q_rg_cpy (by assumption) (by assumption)), i9_11_1⟩), ?_⟩
    refine ⟨(show PX_B1_4 (F 20) _ from ⟨_, rfl, i9_12_0⟩), ?_⟩
    refine ⟨(show PX_B1_5 (F 21) _ from ⟨_, rfl, i9_13_0⟩), ?_⟩
    refine ⟨(show PX_B1_6 (F 22) _ from ⟨_, rfl, i9_14_0⟩), ?_⟩
    refine ⟨(show PX_B1_7 (F 23) _ from ⟨_, rfl, i9_15_0⟩), ?_⟩
    exact trivial

def sO_B_111i : qS := spY CL_111 out_111 (fun av => av = [q2 118, q2 8] ∨ av = [q2 126, q2 16]) (fun F U av r F' U' => r = none ∧ ∃ p s : Nat, av = [q2 p, q2 s] ∧ CpBlk [8, 8, 4, 32, 6, 6, 6] 5 p s F U F' U')
theorem mO_B_111i (l : Launch) : q_M l yX0_copy cX0_copy 2 none 1 68 sO_B_111i := by
  intro dC dI k g av w Q sz hs oka okw
  obtain ⟨F, U, h1, h2 | h2, h3⟩ := hs
  · exact mO_B0_111i l dC dI k g av w Q sz ⟨F, U, h1, h2, fun r F' U' w' a b c d => h3 r F' U' w' a b c ⟨d.1, _, _, h2, d.2⟩⟩ oka okw
  · exact mO_B1_111i l dC dI k g av w Q sz ⟨F, U, h1, h2, fun r F' U' w' a b c d => h3 r F' U' w' a b c ⟨d.1, _, _, h2, d.2⟩⟩ oka okw

def sO_Y0_111i : qS := spY CL_111 out_111 (fun av => av = [q2 134, q2 24]) (fun F U _ r F' U' => r = none ∧ CpBlk [40, 40, 40, 40] 1 134 24 F U F' U')
set_option maxHeartbeats 4000000 in
set_option maxRecDepth 100000 in
theorem mO_Y0_111i (l : Launch) : q_M l yX10_copy cX10_copy 2 none 1 68 sO_Y0_111i := by
  refine q_M_mono (fun av w Q h9 => ?_) (q_M_fr (m_X10_copy l))
  obtain ⟨F, U, h9, rfl, hQ9⟩ := h9
  obtain ⟨_, e9_0, y0d, rfl, i9_0_0, i9_0_1⟩ := h9 134 _ rfl
  obtain ⟨_, e9_1, y0k1, rfl, i9_1_0⟩ := h9 135 _ rfl
  obtain ⟨_, e9_2, y0k2, rfl, i9_2_0⟩ := h9 136 _ rfl
  obtain ⟨_, e9_3, y0k3, rfl, i9_3_0⟩ := h9 137 _ rfl
  obtain ⟨_, e9_4, y0k4, rfl, i9_4_0⟩ := h9 138 _ rfl
  obtain ⟨_, e9_5, g_y0d, rfl, i9_5_0, i9_5_1⟩ := h9 24 _ rfl
  obtain ⟨_, e9_6, g_y0k1, rfl, i9_6_0⟩ := h9 25 _ rfl
  obtain ⟨_, e9_7, g_y0k2, rfl, i9_7_0⟩ := h9 26 _ rfl
  obtain ⟨_, e9_8, g_y0k3, rfl, i9_8_0⟩ := h9 27 _ rfl
  obtain ⟨_, e9_9, g_y0k4, rfl, i9_9_0⟩ := h9 28 _ rfl
  refine ⟨[134, 135, 136, 137, 138, 24, 25, 26, 27, 28], [q2 0, q2 5], (wYo 0 y0k1 y0k2 y0k3 y0k4 y0d ++ wYo 5 g_y0k1 g_y0k2 g_y0k3 g_y0k4 g_y0d), rfl, ?_, rfl, ?_⟩
  · show [w[134]?, w[135]?, w[136]?, w[137]?, w[138]?, w[24]?, w[25]?, w[26]?, w[27]?, w[28]?] = _
    rw [e9_0, e9_1, e9_2, e9_3, e9_4, e9_5, e9_6, e9_7, e9_8, e9_9]
    rfl
  · refine ⟨y0k1, y0k2, y0k3, y0k4, y0d, g_y0k1, g_y0k2, g_y0k3, g_y0k4, g_y0d, rfl, rfl, fun hlen => ?_⟩
    refine hQ9 _ (fu (fu (fu (fu F 135 (va_cpy g_y0k1 y0k1 0 0 40)) 136 (va_cpy g_y0k2 y0k2 0 0 40)) 137 (va_cpy g_y0k3 y0k3 0 0 40)) 138 (va_cpy g_y0k4 y0k4 0 0 40)) (fu U 134 (vL [g_y0d])) _ (PW_bwC h9 rfl (fun i hi => CL_111_ne (fu_c (fun e => hi (by rw [e]; exact List.mem_of_getElem? (i := 4) rfl)) (fu_c (fun e => hi (by rw [e]; exact List.mem_of_getElem? (i := 3) rfl)) (fu_c (fun e => hi (by rw [e]; exact List.mem_of_getElem? (i := 2) rfl)) (fu_c (fun e => hi (by rw [e]; exact List.mem_of_getElem? (i := 1) rfl)) rfl)))) (fu_c (fun e => hi (by rw [e]; exact List.mem_of_getElem? (i := 0) rfl)) rfl)) rfl ?_) (by rw [q_bw_len]) (bw_outo (ps := [134, 135, 136, 137, 138, 24, 25, 26, 27, 28]) (fun p hp => by unfold out_111; revert p; decide)) ⟨rfl, (fun p (h1 : ¬ (134 ≤ p ∧ p ≤ 134 + ([40, 40, 40, 40] : List Nat).length)) => ⟨(fu_c (fun e9 => by simp only [List.length] at h1; omega) (fu_c (fun e9 => by simp only [List.length] at h1; omega) (fu_c (fun e9 => by simp only [List.length] at h1; omega) (fu_c (fun e9 => by simp only [List.length] at h1; omega) rfl)))), (fu_c (fun e9 => by simp only [List.length] at h1; omega) rfl)⟩), (by intro j hj i hi; match j, hj with | 0, _ => exact (cpy_lt hi).trans (congrFun i9_6_0 i) | 1, _ => exact (cpy_lt hi).trans (congrFun i9_7_0 i) | 2, _ => exact (cpy_lt hi).trans (congrFun i9_8_0 i) | 3, _ => exact (cpy_lt hi).trans (congrFun i9_9_0 i) | j + 4, hj => exact absurd hj (by simp)), (by intro i hi; match i, hi with | 0, _ => exact i9_5_1 | i + 1, hi => exact absurd hi (by omega))⟩
    refine ⟨(show PT_Y0 111 (vL [g_y0d]) _ from ⟨_, rfl, (by first | assumption | omega | exact q_rg_cpy (by assumption) (by assumption)), rfl⟩), ?_⟩
    refine ⟨(show PT_Y0_1 111 (va_cpy g_y0k1 y0k1 0 0 40) _ from ⟨_, rfl, rfl⟩), ?_⟩
    refine ⟨(show PT_Y0_2 111 (va_cpy g_y0k2 y0k2 0 0 40) _ from ⟨_, rfl, rfl⟩), ?_⟩
    refine ⟨(show PT_Y0_3 111 (va_cpy g_y0k3 y0k3 0 0 40) _ from ⟨_, rfl, rfl⟩), ?_⟩
    refine ⟨(show PT_Y0_4 111 (va_cpy g_y0k4 y0k4 0 0 40) _ from ⟨_, rfl, rfl⟩), ?_⟩
    refine ⟨(show PX_Y0 (U 24) _ from ⟨_, rfl, (by first | assumption | omega | exact q_rg_cpy (by assumption) (by assumption)), i9_5_1⟩), ?_⟩
    refine ⟨(show PX_Y0_1 (F 25) _ from ⟨_, rfl, i9_6_0⟩), ?_⟩
    refine ⟨(show PX_Y0_2 (F 26) _ from ⟨_, rfl, i9_7_0⟩), ?_⟩
    refine ⟨(show PX_Y0_3 (F 27) _ from ⟨_, rfl, i9_8_0⟩), ?_⟩
    refine ⟨(show PX_Y0_4 (F 28) _ from ⟨_, rfl, i9_9_0⟩), ?_⟩
    exact trivial

def sO_Y1_111i : qS := spY CL_111 out_111 (fun av => av = [q2 139, q2 29]) (fun F U _ r F' U' => r = none ∧ CpBlk [40, 40, 40, 40] 1 139 29 F U F' U')
set_option maxHeartbeats 4000000 in
set_option maxRecDepth 100000 in
theorem mO_Y1_111i (l : Launch) : q_M l yX10_copy cX10_copy 2 none 1 68 sO_Y1_111i := by
  refine q_M_mono (fun av w Q h9 => ?_) (q_M_fr (m_X10_copy l))
  obtain ⟨F, U, h9, rfl, hQ9⟩ := h9
  obtain ⟨_, e9_0, y1d, rfl, i9_0_0, i9_0_1⟩ := h9 139 _ rfl
  obtain ⟨_, e9_1, y1k1, rfl, i9_1_0⟩ := h9 140 _ rfl
  obtain ⟨_, e9_2, y1k2, rfl, i9_2_0⟩ := h9 141 _ rfl
  obtain ⟨_, e9_3, y1k3, rfl, i9_3_0⟩ := h9 142 _ rfl
  obtain ⟨_, e9_4, y1k4, rfl, i9_4_0⟩ := h9 143 _ rfl
  obtain ⟨_, e9_5, g_y1d, rfl, i9_5_0, i9_5_1⟩ := h9 29 _ rfl
  obtain ⟨_, e9_6, g_y1k1, rfl, i9_6_0⟩ := h9 30 _ rfl
  obtain ⟨_, e9_7, g_y1k2, rfl, i9_7_0⟩ := h9 31 _ rfl
  obtain ⟨_, e9_8, g_y1k3, rfl, i9_8_0⟩ := h9 32 _ rfl
  obtain ⟨_, e9_9, g_y1k4, rfl, i9_9_0⟩ := h9 33 _ rfl
  refine ⟨[139, 140, 141, 142, 143, 29, 30, 31, 32, 33], [q2 0, q2 5], (wYo 0 y1k1 y1k2 y1k3 y1k4 y1d ++ wYo 5 g_y1k1 g_y1k2 g_y1k3 g_y1k4 g_y1d), rfl, ?_, rfl, ?_⟩
  · show [w[139]?, w[140]?, w[141]?, w[142]?, w[143]?, w[29]?, w[30]?, w[31]?, w[32]?, w[33]?] = _
    rw [e9_0, e9_1, e9_2, e9_3, e9_4, e9_5, e9_6, e9_7, e9_8, e9_9]
    rfl
  · refine ⟨y1k1, y1k2, y1k3, y1k4, y1d, g_y1k1, g_y1k2, g_y1k3, g_y1k4, g_y1d, rfl, rfl, fun hlen => ?_⟩
    refine hQ9 _ (fu (fu (fu (fu F 140 (va_cpy g_y1k1 y1k1 0 0 40)) 141 (va_cpy g_y1k2 y1k2 0 0 40)) 142 (va_cpy g_y1k3 y1k3 0 0 40)) 143 (va_cpy g_y1k4 y1k4 0 0 40)) (fu U 139 (vL [g_y1d])) _ (PW_bwC h9 rfl (fun i hi => CL_111_ne (fu_c (fun e => hi (by rw [e]; exact List.mem_of_getElem? (i := 4) rfl)) (fu_c (fun e => hi (by rw [e]; exact List.mem_of_getElem? (i := 3) rfl)) (fu_c (fun e => hi (by rw [e]; exact List.mem_of_getElem? (i := 2) rfl)) (fu_c (fun e => hi (by rw [e]; exact List.mem_of_getElem? (i := 1) rfl)) rfl)))) (fu_c (fun e => hi (by rw [e]; exact List.mem_of_getElem? (i := 0) rfl)) rfl)) rfl ?_) (by rw [q_bw_len]) (bw_outo (ps := [139, 140, 141, 142, 143, 29, 30, 31, 32, 33]) (fun p hp => by unfold out_111; revert p; decide)) ⟨rfl, (fun p (h1 : ¬ (139 ≤ p ∧ p ≤ 139 + ([40, 40, 40, 40] : List Nat).length)) => ⟨(fu_c (fun e9 => by simp only [List.length] at h1; omega) (fu_c (fun e9 => by simp only [List.length] at h1; omega) (fu_c (fun e9 => by simp only [List.length] at h1; omega) (fu_c (fun e9 => by simp only [List.length] at h1; omega) rfl)))), (fu_c (fun e9 => by simp only [List.length] at h1; omega) rfl)⟩), (by intro j hj i hi; match j, hj with | 0, _ => exact (cpy_lt hi).trans (congrFun i9_6_0 i) | 1, _ => exact (cpy_lt hi).trans (congrFun i9_7_0 i) | 2, _ => exact (cpy_lt hi).trans (congrFun i9_8_0 i) | 3, _ => exact (cpy_lt hi).trans (congrFun i9_9_0 i) | j + 4, hj => exact absurd hj (by simp)), (by intro i hi; match i, hi with | 0, _ => exact i9_5_1 | i + 1, hi => exact absurd hi (by omega))⟩
    refine ⟨(show PT_Y1 111 (vL [g_y1d]) _ from ⟨_, rfl, (by first | assumption | omega | exact q_rg_cpy (by assumption) (by assumption)), rfl⟩), ?_⟩
    refine ⟨(show PT_Y1_1 111 (va_cpy g_y1k1 y1k1 0 0 40) _ from ⟨_, rfl, rfl⟩), ?_⟩
    refine ⟨(show PT_Y1_2 111 (va_cpy g_y1k2 y1k2 0 0 40) _ from ⟨_, rfl, rfl⟩), ?_⟩
    refine ⟨(show PT_Y1_3 111 (va_cpy g_y1k3 y1k3 0 0 40) _ from ⟨_, rfl, rfl⟩), ?_⟩
    refine ⟨(show PT_Y1_4 111 (va_cpy g_y1k4 y1k4 0 0 40) _ from ⟨_, rfl, rfl⟩), ?_⟩
    refine ⟨(show PX_Y1 (U 29) _ from ⟨_, rfl, (by first | assumption | omega | exact q_rg_cpy (by assumption) (by assumption)), i9_5_1⟩), ?_⟩
    refine ⟨(show PX_Y1_1 (F 30) _ from ⟨_, rfl, i9_6_0⟩), ?_⟩
    refine ⟨(show PX_Y1_2 (F 31) _ from ⟨_, rfl, i9_7_0⟩), ?_⟩
    refine ⟨(show PX_Y1_3 (F 32) _ from ⟨_, rfl, i9_8_0⟩), ?_⟩
    refine ⟨(show PX_Y1_4 (F 33) _ from ⟨_, rfl, i9_9_0⟩), ?_⟩
    exact trivial

def sO_Y_111i : qS := spY CL_111 out_111 (fun av => av = [q2 134, q2 24] ∨ av = [q2 139, q2 29]) (fun F U av r F' U' => r = none ∧ ∃ p s : Nat, av = [q2 p, q2 s] ∧ CpBlk [40, 40, 40, 40] 1 p s F U F' U')
theorem mO_Y_111i (l : Launch) : q_M l yX10_copy cX10_copy 2 none 1 68 sO_Y_111i := by
  intro dC dI k g av w Q sz hs oka okw
  obtain ⟨F, U, h1, h2 | h2, h3⟩ := hs
  · exact mO_Y0_111i l dC dI k g av w Q sz ⟨F, U, h1, h2, fun r F' U' w' a b c d => h3 r F' U' w' a b c ⟨d.1, _, _, h2, d.2⟩⟩ oka okw
  · exact mO_Y1_111i l dC dI k g av w Q sz ⟨F, U, h1, h2, fun r F' U' w' a b c d => h3 r F' U' w' a b c ⟨d.1, _, _, h2, d.2⟩⟩ oka okw

def sO_L0_111i : qS := spY CL_111 out_111 (fun av => av = [q2 144, q2 34]) (fun F U _ r F' U' => r = none ∧ CpBlk [8] 1 144 34 F U F' U')
set_option maxHeartbeats 4000000 in
set_option maxRecDepth 100000 in
theorem mO_L0_111i (l : Launch) : q_M l yX3_copy cX3_copy 2 none 1 68 sO_L0_111i := by
  refine q_M_mono (fun av w Q h9 => ?_) (q_M_fr (m_X3_copy l))
  obtain ⟨F, U, h9, rfl, hQ9⟩ := h9
  obtain ⟨_, e9_0, l0o, rfl, i9_0_0⟩ := h9 144 _ rfl
  obtain ⟨_, e9_1, l0g, rfl, i9_1_0⟩ := h9 145 _ rfl
  obtain ⟨_, e9_2, g_l0o, rfl, i9_2_0⟩ := h9 34 _ rfl
  obtain ⟨_, e9_3, g_l0g, rfl, i9_3_0⟩ := h9 35 _ rfl
  refine ⟨[144, 145, 34, 35], [q2 0, q2 2], (wLo 0 l0g l0o ++ wLo 2 g_l0g g_l0o), rfl, ?_, rfl, ?_⟩
  · show [w[144]?, w[145]?, w[34]?, w[35]?] = _
    rw [e9_0, e9_1, e9_2, e9_3]
    rfl
  · refine ⟨l0g, l0o, g_l0g, g_l0o, rfl, rfl, fun hlen => ?_⟩
    refine hQ9 _ (fu F 145 (va_cpy g_l0g l0g 0 0 8)) (fu U 144 (vL [g_l0o])) _ (PW_bwC h9 rfl (fun i hi => CL_111_ne (fu_c (fun e => hi (by rw [e]; exact List.mem_of_getElem? (i := 1) rfl)) rfl) (fu_c (fun e => hi (by rw [e]; exact List.mem_of_getElem? (i := 0) rfl)) rfl)) rfl ?_) (by rw [q_bw_len]) (bw_outo (ps := [144, 145, 34, 35]) (fun p hp => by unfold out_111; revert p; decide)) ⟨rfl, (fun p (h1 : ¬ (144 ≤ p ∧ p ≤ 144 + ([8] : List Nat).length)) => ⟨(fu_c (fun e9 => by simp only [List.length] at h1; omega) rfl), (fu_c (fun e9 => by simp only [List.length] at h1; omega) rfl)⟩), (by intro j hj i hi; match j, hj with | 0, _ => exact (cpy_lt hi).trans (congrFun i9_3_0 i) | j + 1, hj => exact absurd hj (by simp)), (by intro i hi; match i, hi with | 0, _ => exact i9_2_0 | i + 1, hi => exact absurd hi (by omega))⟩
    refine ⟨(show PT_L0 111 (vL [g_l0o]) _ from ⟨_, rfl, rfl⟩), ?_⟩
    refine ⟨(show PT_L0_1 111 (va_cpy g_l0g l0g 0 0 8) _ from ⟨_, rfl, rfl⟩), ?_⟩
    refine ⟨(show PX_L0 (U 34) _ from ⟨_, rfl, i9_2_0⟩), ?_⟩
    refine ⟨(show PX_L0_1 (F 35) _ from ⟨_, rfl, i9_3_0⟩), ?_⟩
    exact trivial

def sO_L1_111i : qS := spY CL_111 out_111 (fun av => av = [q2 146, q2 36]) (fun F U _ r F' U' => r = none ∧ CpBlk [8] 1 146 36 F U F' U')
set_option maxHeartbeats 4000000 in
set_option maxRecDepth 100000 in
theorem mO_L1_111i (l : Launch) : q_M l yX3_copy cX3_copy 2 none 1 68 sO_L1_111i := by
  refine q_M_mono (fun av w Q h9 => ?_) (q_M_fr (m_X3_copy l))
  obtain ⟨F, U, h9, rfl, hQ9⟩ := h9
  obtain ⟨_, e9_0, l1o, rfl, i9_0_0⟩ := h9 146 _ rfl
  obtain ⟨_, e9_1, l1g, rfl, i9_1_0⟩ := h9 147 _ rfl
  obtain ⟨_, e9_2, g_l1o, rfl, i9_2_0⟩ := h9 36 _ rfl
  obtain ⟨_, e9_3, g_l1g, rfl, i9_3_0⟩ := h9 37 _ rfl
  refine ⟨[146, 147, 36, 37], [q2 0, q2 2], (wLo 0 l1g l1o ++ wLo 2 g_l1g g_l1o), rfl, ?_, rfl, ?_⟩
  · show [w[146]?, w[147]?, w[36]?, w[37]?] = _
    rw [e9_0, e9_1, e9_2, e9_3]
    rfl
  · refine ⟨l1g, l1o, g_l1g, g_l1o, rfl, rfl, fun hlen => ?_⟩
    refine hQ9 _ (fu F 147 (va_cpy g_l1g l1g 0 0 8)) (fu U 146 (vL [g_l1o])) _ (PW_bwC h9 rfl (fun i hi => CL_111_ne (fu_c (fun e => hi (by rw [e]; exact List.mem_of_getElem? (i := 1) rfl)) rfl) (fu_c (fun e => hi (by rw [e]; exact List.mem_of_getElem? (i := 0) rfl)) rfl)) rfl ?_) (by rw [q_bw_len]) (bw_outo (ps := [146, 147, 36, 37]) (fun p hp => by unfold out_111; revert p; decide)) ⟨rfl, (fun p (h1 : ¬ (146 ≤ p ∧ p ≤ 146 + ([8] : List Nat).length)) => ⟨(fu_c (fun e9 => by simp only [List.length] at h1; omega) rfl), (fu_c (fun e9 => by simp only [List.length] at h1; omega) rfl)⟩), (by intro j hj i hi; match j, hj with | 0, _ => exact (cpy_lt hi).trans (congrFun i9_3_0 i) | j + 1, hj => exact absurd hj (by simp)), (by intro i hi; match i, hi with | 0, _ => exact i9_2_0 | i + 1, hi => exact absurd hi (by omega))⟩
    refine ⟨(show PT_L1 111 (vL [g_l1o]) _ from ⟨_, rfl, rfl⟩), ?_⟩
    refine ⟨(show PT_L1_1 111 (va_cpy g_l1g l1g 0 0 8) _ from ⟨_, rfl, rfl⟩), ?_⟩
    refine ⟨(show PX_L1 (U 36) _ from ⟨_, rfl, i9_2_0⟩), ?_⟩
    refine ⟨(show PX_L1_1 (F 37) _ from ⟨_, rfl, i9_3_0⟩), ?_⟩
    exact trivial

def sO_L_111i : qS := spY CL_111 out_111 (fun av => av = [q2 144, q2 34] ∨ av = [q2 146, q2 36]) (fun F U av r F' U' => r = none ∧ ∃ p s : Nat, av = [q2 p, q2 s] ∧ CpBlk [8] 1 p s F U F' U')
theorem mO_L_111i (l : Launch) : q_M l yX3_copy cX3_copy 2 none 1 68 sO_L_111i := by
  intro dC dI k g av w Q sz hs oka okw
  obtain ⟨F, U, h1, h2 | h2, h3⟩ := hs
  · exact mO_L0_111i l dC dI k g av w Q sz ⟨F, U, h1, h2, fun r F' U' w' a b c d => h3 r F' U' w' a b c ⟨d.1, _, _, h2, d.2⟩⟩ oka okw
  · exact mO_L1_111i l dC dI k g av w Q sz ⟨F, U, h1, h2, fun r F' U' w' a b c d => h3 r F' U' w' a b c ⟨d.1, _, _, h2, d.2⟩⟩ oka okw

def sO_S0_111i : qS := spY CL_111 out_111 (fun av => av = [q2 148, q2 38]) (fun F U _ r F' U' => r = none ∧ CpBlk [10, 10] 1 148 38 F U F' U')
set_option maxHeartbeats 4000000 in
set_option maxRecDepth 100000 in
theorem mO_S0_111i (l : Launch) : q_M l yX7_copy cX7_copy 2 none 1 68 sO_S0_111i := by
  refine q_M_mono (fun av w Q h9 => ?_) (q_M_fr (m_X7_copy l))
  obtain ⟨F, U, h9, rfl, hQ9⟩ := h9
  obtain ⟨_, e9_0, s0c, rfl, i9_0_0, i9_0_1⟩ := h9 148 _ rfl
  obtain ⟨_, e9_1, s0p, rfl, i9_1_0⟩ := h9 149 _ rfl
  obtain ⟨_, e9_2, s0t, rfl, i9_2_0⟩ := h9 150 _ rfl
  obtain ⟨_, e9_3, g_s0c, rfl, i9_3_0, i9_3_1⟩ := h9 38 _ rfl
  obtain ⟨_, e9_4, g_s0p, rfl, i9_4_0⟩ := h9 39 _ rfl
  obtain ⟨_, e9_5, g_s0t, rfl, i9_5_0⟩ := h9 40 _ rfl
  refine ⟨[148, 149, 150, 38, 39, 40], [q2 0, q2 3], (wSo 0 s0p s0t s0c ++ wSo 3 g_s0p g_s0t g_s0c), rfl, ?_, rfl, ?_⟩
  · show [w[148]?, w[149]?, w[150]?, w[38]?, w[39]?, w[40]?] = _
    rw [e9_0, e9_1, e9_2, e9_3, e9_4, e9_5]
    rfl
  · refine ⟨s0p, s0t, s0c, g_s0p, g_s0t, g_s0c, rfl, rfl, fun hlen => ?_⟩
    refine hQ9 _ (fu (fu F 149 (va_cpy g_s0p s0p 0 0 10)) 150 (va_cpy g_s0t s0t 0 0 10)) (fu U 148 (vL [g_s0c])) _ (PW_bwC h9 rfl (fun i hi => CL_111_ne (fu_c (fun e => hi (by rw [e]; exact List.mem_of_getElem? (i := 2) rfl)) (fu_c (fun e => hi (by rw [e]; exact List.mem_of_getElem? (i := 1) rfl)) rfl)) (fu_c (fun e => hi (by rw [e]; exact List.mem_of_getElem? (i := 0) rfl)) rfl)) rfl ?_) (by rw [q_bw_len]) (bw_outo (ps := [148, 149, 150, 38, 39, 40]) (fun p hp => by unfold out_111; revert p; decide)) ⟨rfl, (fun p (h1 : ¬ (148 ≤ p ∧ p ≤ 148 + ([10, 10] : List Nat).length)) => ⟨(fu_c (fun e9 => by simp only [List.length] at h1; omega) (fu_c (fun e9 => by simp only [List.length] at h1; omega) rfl)), (fu_c (fun e9 => by simp only [List.length] at h1; omega) rfl)⟩), (by intro j hj i hi; match j, hj with | 0, _ => exact (cpy_lt hi).trans (congrFun i9_4_0 i) | 1, _ => exact (cpy_lt hi).trans (congrFun i9_5_0 i) | j + 2, hj => exact absurd hj (by simp)), (by intro i hi; match i, hi with | 0, _ => exact i9_3_1 | i + 1, hi => exact absurd hi (by omega))⟩
    refine ⟨(show PT_S0 111 (vL [g_s0c]) _ from ⟨_, rfl, (by first | assumption | omega | exact q_rg_cpy (by assumption) (by assumption)), rfl⟩), ?_⟩
    refine ⟨(show PT_S0_1 111 (va_cpy g_s0p s0p 0 0 10) _ from ⟨_, rfl, rfl⟩), ?_⟩
    refine ⟨(show PT_S0_2 111 (va_cpy g_s0t s0t 0 0 10) _ from ⟨_, rfl, rfl⟩), ?_⟩
    refine ⟨(show PX_S0 (U 38) _ from ⟨_, rfl, (by first | assumption | omega | exact q_rg_cpy (by assumption) (by assumption)), i9_3_1⟩), ?_⟩
    refine ⟨(show PX_S0_1 (F 39) _ from ⟨_, rfl, i9_4_0⟩), ?_⟩
    refine ⟨(show PX_S0_2 (F 40) _ from ⟨_, rfl, i9_5_0⟩), ?_⟩
    exact trivial

def sO_S1_111i : qS := spY CL_111 out_111 (fun av => av = [q2 151, q2 41]) (fun F U _ r F' U' => r = none ∧ CpBlk [10, 10] 1 151 41 F U F' U')
set_option maxHeartbeats 4000000 in
set_option maxRecDepth 100000 in
theorem mO_S1_111i (l : Launch) : q_M l yX7_copy cX7_copy 2 none 1 68 sO_S1_111i := by
  refine q_M_mono (fun av w Q h9 => ?_) (q_M_fr (m_X7_copy l))
  obtain ⟨F, U, h9, rfl, hQ9⟩ := h9
  obtain ⟨_, e9_0, s1c, rfl, i9_0_0, i9_0_1⟩ := h9 151 _ rfl
  obtain ⟨_, e9_1, s1p, rfl, i9_1_0⟩ := h9 152 _ rfl
  obtain ⟨_, e9_2, s1t, rfl, i9_2_0⟩ := h9 153 _ rfl
  obtain ⟨_, e9_3, g_s1c, rfl, i9_3_0, i9_3_1⟩ := h9 41 _ rfl
  obtain ⟨_, e9_4, g_s1p, rfl, i9_4_0⟩ := h9 42 _ rfl
  obtain ⟨_, e9_5, g_s1t, rfl, i9_5_0⟩ := h9 43 _ rfl
  refine ⟨[151, 152, 153, 41, 42, 43], [q2 0, q2 3], (wSo 0 s1p s1t s1c ++ wSo 3 g_s1p g_s1t g_s1c), rfl, ?_, rfl, ?_⟩
  · show [w[151]?, w[152]?, w[153]?, w[41]?, w[42]?, w[43]?] = _
    rw [e9_0, e9_1, e9_2, e9_3, e9_4, e9_5]
    rfl
  · refine ⟨s1p, s1t, s1c, g_s1p, g_s1t, g_s1c, rfl, rfl, fun hlen => ?_⟩
    refine hQ9 _ (fu (fu F 152 (va_cpy g_s1p s1p 0 0 10)) 153 (va_cpy g_s1t s1t 0 0 10)) (fu U 151 (vL [g_s1c])) _ (PW_bwC h9 rfl (fun i hi => CL_111_ne (fu_c (fun e => hi (by rw [e]; exact List.mem_of_getElem? (i := 2) rfl)) (fu_c (fun e => hi (by rw [e]; exact List.mem_of_getElem? (i := 1) rfl)) rfl)) (fu_c (fun e => hi (by rw [e]; exact List.mem_of_getElem? (i := 0) rfl)) rfl)) rfl ?_) (by rw [q_bw_len]) (bw_outo (ps := [151, 152, 153, 41, 42, 43]) (fun p hp => by unfold out_111; revert p; decide)) ⟨rfl, (fun p (h1 : ¬ (151 ≤ p ∧ p ≤ 151 + ([10, 10] : List Nat).length)) => ⟨(fu_c (fun e9 => by simp only [List.length] at h1; omega) (fu_c (fun e9 => by simp only [List.length] at h1; omega) rfl)), (fu_c (fun e9 => by simp only [List.length] at h1; omega) rfl)⟩), (by intro j hj i hi; match j, hj with | 0, _ => exact (cpy_lt hi).trans (congrFun i9_4_0 i) | 1, _ => exact (cpy_lt hi).trans (congrFun i9_5_0 i) | j + 2, hj => exact absurd hj (by simp)), (by intro i hi; match i, hi with | 0, _ => exact i9_3_1 | i + 1, hi => exact absurd hi (by omega))⟩
    refine ⟨(show PT_S1 111 (vL [g_s1c]) _ from ⟨_, rfl, (by first | assumption | omega | exact q_rg_cpy (by assumption) (by assumption)), rfl⟩), ?_⟩
    refine ⟨(show PT_S1_1 111 (va_cpy g_s1p s1p 0 0 10) _ from ⟨_, rfl, rfl⟩), ?_⟩
    refine ⟨(show PT_S1_2 111 (va_cpy g_s1t s1t 0 0 10) _ from ⟨_, rfl, rfl⟩), ?_⟩
    refine ⟨(show PX_S1 (U 41) _ from ⟨_, rfl, (by first | assumption | omega | exact q_rg_cpy (by assumption) (by assumption)), i9_3_1⟩), ?_⟩
    refine ⟨(show PX_S1_1 (F 42) _ from ⟨_, rfl, i9_4_0⟩), ?_⟩
    refine ⟨(show PX_S1_2 (F 43) _ from ⟨_, rfl, i9_5_0⟩), ?_⟩
    exact trivial

def sO_S_111i : qS := spY CL_111 out_111 (fun av => av = [q2 148, q2 38] ∨ av = [q2 151, q2 41]) (fun F U av r F' U' => r = none ∧ ∃ p s : Nat, av = [q2 p, q2 s] ∧ CpBlk [10, 10] 1 p s F U F' U')
theorem mO_S_111i (l : Launch) : q_M l yX7_copy cX7_copy 2 none 1 68 sO_S_111i := by
  intro dC dI k g av w Q sz hs oka okw
  obtain ⟨F, U, h1, h2 | h2, h3⟩ := hs
  · exact mO_S0_111i l dC dI k g av w Q sz ⟨F, U, h1, h2, fun r F' U' w' a b c d => h3 r F' U' w' a b c ⟨d.1, _, _, h2, d.2⟩⟩ oka okw
  · exact mO_S1_111i l dC dI k g av w Q sz ⟨F, U, h1, h2, fun r F' U' w' a b c d => h3 r F' U' w' a b c ⟨d.1, _, _, h2, d.2⟩⟩ oka okw
