def sO_B0_154i : qS := spY CL_154 out_154 (fun av => av = [q2 161, q2 8]) (fun F U _ r F' U' => r = none ∧ CpBlk [8, 8, 4, 32, 6, 6, 6] 5 161 8 F U F' U')
set_option maxHeartbeats 4000000 in
set_option maxRecDepth 100000 in
theorem mO_B0_154i (l : Launch) : q_M l yX0_copy cX0_copy 2 none 1 68 sO_B0_154i := by
  refine q_M_mono (fun av w Q h9 => ?_) (q_M_fr (m_X0_copy l))
  obtain ⟨F, U, h9, rfl, hQ9⟩ := h9
  obtain ⟨_, e9_0, b0u0, b0u1, b0u2, b0u3, b0u4, rfl, i9_0_0, i9_0_1⟩ := h9 161 _ rfl
  obtain ⟨_, e9_1, b0f1, rfl, i9_1_0⟩ := h9 162 _ rfl
  obtain ⟨_, e9_2, b0f2, rfl, i9_2_0⟩ := h9 163 _ rfl
  obtain ⟨_, e9_3, b0f3, rfl, i9_3_0, i9_3_1⟩ := h9 164 _ rfl
  obtain ⟨_, e9_4, b0f4, rfl, i9_4_0⟩ := h9 165 _ rfl
  obtain ⟨_, e9_5, b0f5, rfl, i9_5_0⟩ := h9 166 _ rfl
  obtain ⟨_, e9_6, b0f6, rfl, i9_6_0⟩ := h9 167 _ rfl
  obtain ⟨_, e9_7, b0f7, rfl, i9_7_0⟩ := h9 168 _ rfl
  obtain ⟨_, e9_8, g_b0u0, g_b0u1, g_b0u2, g_b0u3, g_b0u4, rfl, i9_8_0, i9_8_1⟩ := h9 8 _ rfl
  obtain ⟨_, e9_9, g_b0f1, rfl, i9_9_0⟩ := h9 9 _ rfl
  obtain ⟨_, e9_10, g_b0f2, rfl, i9_10_0⟩ := h9 10 _ rfl
  obtain ⟨_, e9_11, g_b0f3, rfl, i9_11_0, i9_11_1⟩ := h9 11 _ rfl
  obtain ⟨_, e9_12, g_b0f4, rfl, i9_12_0⟩ := h9 12 _ rfl
  obtain ⟨_, e9_13, g_b0f5, rfl, i9_13_0⟩ := h9 13 _ rfl
  obtain ⟨_, e9_14, g_b0f6, rfl, i9_14_0⟩ := h9 14 _ rfl
  obtain ⟨_, e9_15, g_b0f7, rfl, i9_15_0⟩ := h9 15 _ rfl
  refine ⟨[161, 162, 163, 164, 165, 166, 167, 168, 8, 9, 10, 11, 12, 13, 14, 15], [q2 0, q2 8], (wBo 0 b0f1 b0f2 b0f3 b0f4 b0f5 b0f6 b0f7 b0u0 b0u1 b0u2 b0u3 b0u4 ++ wBo 8 g_b0f1 g_b0f2 g_b0f3 g_b0f4 g_b0f5 g_b0f6 g_b0f7 g_b0u0 g_b0u1 g_b0u2 g_b0u3 g_b0u4), rfl, ?_, rfl, ?_⟩
  · show [w[161]?, w[162]?, w[163]?, w[164]?, w[165]?, w[166]?, w[167]?, w[168]?, w[8]?, w[9]?, w[10]?, w[11]?, w[12]?, w[13]?, w[14]?, w[15]?] = _
    rw [e9_0, e9_1, e9_2, e9_3, e9_4, e9_5, e9_6, e9_7, e9_8, e9_9, e9_10, e9_11, e9_12, e9_13, e9_14, e9_15]
    rfl
  · refine ⟨b0f1, b0f2, b0f3, b0f4, b0f5, b0f6, b0f7, b0u0, b0u1, b0u2, b0u3, b0u4, g_b0f1, g_b0f2, g_b0f3, g_b0f4, g_b0f5, g_b0f6, g_b0f7, g_b0u0, g_b0u1, g_b0u2, g_b0u3, g_b0u4, rfl, rfl, fun hlen => ?_⟩
    refine hQ9 _ (fu (fu (fu (fu (fu (fu (fu F 162 (va_cpy g_b0f1 b0f1 0 0 8)) 163 (va_cpy g_b0f2 b0f2 0 0 8)) 164 (va_cpy g_b0f3 b0f3 0 0 4)) 165 (va_cpy g_b0f4 b0f4 0 0 32)) 166 (va_cpy g_b0f5 b0f5 0 0 6)) 167 (va_cpy g_b0f6 b0f6 0 0 6)) 168 (va_cpy g_b0f7 b0f7 0 0 6)) (fu U 161 (vL [g_b0u0, g_b0u1, g_b0u2, g_b0u3, g_b0u4])) _ (PW_bwC h9 rfl (fun i hi => CL_154_ne (fu_c (fun e => hi (by rw [e]; exact List.mem_of_getElem? (i := 7) rfl)) (fu_c (fun e => hi (by rw [e]; exact List.mem_of_getElem? (i := 6) rfl)) (fu_c (fun e => hi (by rw [e]; exact List.mem_of_getElem? (i := 5) rfl)) (fu_c (fun e => hi (by rw [e]; exact List.mem_of_getElem? (i := 4) rfl)) (fu_c (fun e => hi (by rw [e]; exact List.mem_of_getElem? (i := 3) rfl)) (fu_c (fun e => hi (by rw [e]; exact List.mem_of_getElem? (i := 2) rfl)) (fu_c (fun e => hi (by rw [e]; exact List.mem_of_getElem? (i := 1) rfl)) rfl))))))) (fu_c (fun e => hi (by rw [e]; exact List.mem_of_getElem? (i := 0) rfl)) rfl)) rfl ?_) (by rw [q_bw_len]) (bw_outo (ps := [161, 162, 163, 164, 165, 166, 167, 168, 8, 9, 10, 11, 12, 13, 14, 15]) (fun p hp => by unfold out_154; revert p; decide)) ⟨rfl, (fun p (h1 : ¬ (161 ≤ p ∧ p ≤ 161 + ([8, 8, 4, 32, 6, 6, 6] : List Nat).length)) => ⟨(fu_c (fun e9 => by simp only [List.length] at h1; omega) (fu_c (fun e9 => by simp only [List.length] at h1; omega) (fu_c (fun e9 => by simp only [List.length] at h1; omega) (fu_c (fun e9 => by simp only [List.length] at h1; omega) (fu_c (fun e9 => by simp only [List.length] at h1; omega) (fu_c (fun e9 => by simp only [List.length] at h1; omega) (fu_c (fun e9 => by simp only [List.length] at h1; omega) rfl))))))), (fu_c (fun e9 => by simp only [List.length] at h1; omega) rfl)⟩), (by intro j hj i hi; match j, hj with | 0, _ => exact (cpy_lt hi).trans (congrFun i9_9_0 i) | 1, _ => exact (cpy_lt hi).trans (congrFun i9_10_0 i) | 2, _ => exact (cpy_lt hi).trans (congrFun i9_11_1 i) | 3, _ => exact (cpy_lt hi).trans (congrFun i9_12_0 i) | 4, _ => exact (cpy_lt hi).trans (congrFun i9_13_0 i) | 5, _ => exact (cpy_lt hi).trans (congrFun i9_14_0 i) | 6, _ => exact (cpy_lt hi).trans (congrFun i9_15_0 i) | j + 7, hj => exact absurd hj (by simp)), (by intro i hi; match i, hi with | 0, _ => exact i9_8_1.1 | 1, _ => exact i9_8_1.2.1 | 2, _ => exact i9_8_1.2.2.1 | 3, _ => exact i9_8_1.2.2.2.1 | 4, _ => exact i9_8_1.2.2.2.2 | i + 5, hi => exact absurd hi (by omega))⟩
    refine ⟨(show PT_B0 154 (vL [g_b0u0, g_b0u1, g_b0u2, g_b0u3, g_b0u4]) _ from ⟨_, _, _, _, _, rfl, (by first | assumption | omega | exact q_rg_cpy (by assumption) (by assumption)), ⟨rfl, rfl, rfl, rfl, rfl⟩⟩), ?_⟩
    refine ⟨(show PT_B0_1 154 (va_cpy g_b0f1 b0f1 0 0 8) _ from ⟨_, rfl, rfl⟩), ?_⟩
    refine ⟨(show PT_B0_2 154 (va_cpy g_b0f2 b0f2 0 0 8) _ from ⟨_, rfl, rfl⟩), ?_⟩
    refine ⟨(show PT_B0_3 154 (va_cpy g_b0f3 b0f3 0 0 4) _ from ⟨_, rfl, (by first | assumption | omega | exact q_rg_cpy (by assumption) (by assumption)), rfl⟩), ?_⟩
    refine ⟨(show PT_B0_4 154 (va_cpy g_b0f4 b0f4 0 0 32) _ from ⟨_, rfl, rfl⟩), ?_⟩
    refine ⟨(show PT_B0_5 154 (va_cpy g_b0f5 b0f5 0 0 6) _ from ⟨_, rfl, rfl⟩), ?_⟩
    refine ⟨(show PT_B0_6 154 (va_cpy g_b0f6 b0f6 0 0 6) _ from ⟨_, rfl, rfl⟩), ?_⟩
    refine ⟨(show PT_B0_7 154 (va_cpy g_b0f7 b0f7 0 0 6) _ from ⟨_, rfl, rfl⟩), ?_⟩
    refine ⟨(show PX_B0 (U 8) _ from ⟨_, _, _, _, _, rfl, (by first | assumption | omega | exact q_rg_cpy (by assumption) (by assumption)), i9_8_1⟩), ?_⟩
    refine ⟨(show PX_B0_1 (F 9) _ from ⟨_, rfl, i9_9_0⟩), ?_⟩
    refine ⟨(show PX_B0_2 (F 10) _ from ⟨_, rfl, i9_10_0⟩), ?_⟩
    refine ⟨(show PX_B0_3 (F 11) _ from ⟨_, rfl, (by first | assumption | omega | exact q_rg_cpy (by assumption) (by assumption)), i9_11_1⟩), ?_⟩
    refine ⟨(show PX_B0_4 (F 12) _ from ⟨_, rfl, i9_12_0⟩), ?_⟩
    refine ⟨(show PX_B0_5 (F 13) _ from ⟨_, rfl, i9_13_0⟩), ?_⟩
    refine ⟨(show PX_B0_6 (F 14) _ from ⟨_, rfl, i9_14_0⟩), ?_⟩
    refine ⟨(show PX_B0_7 (F 15) _ from ⟨_, rfl, i9_15_0⟩), ?_⟩
    exact trivial

def sO_B1_154i : qS := spY CL_154 out_154 (fun av => av = [q2 169, q2 16]) (fun F U _ r F' U' => r = none ∧ CpBlk [8, 8, 4, 32, 6, 6, 6] 5 169 16 F U F' U')
set_option maxHeartbeats 4000000 in
set_option maxRecDepth 100000 in
theorem mO_B1_154i (l : Launch) : q_M l yX0_copy cX0_copy 2 none 1 68 sO_B1_154i := by
  refine q_M_mono (fun av w Q h9 => ?_) (q_M_fr (m_X0_copy l))
  obtain ⟨F, U, h9, rfl, hQ9⟩ := h9
  obtain ⟨_, e9_0, b1u0, b1u1, b1u2, b1u3, b1u4, rfl, i9_0_0, i9_0_1⟩ := h9 169 _ rfl
  obtain ⟨_, e9_1, b1f1, rfl, i9_1_0⟩ := h9 170 _ rfl
  obtain ⟨_, e9_2, b1f2, rfl, i9_2_0⟩ := h9 171 _ rfl
  obtain ⟨_, e9_3, b1f3, rfl, i9_3_0, i9_3_1⟩ := h9 172 _ rfl
  obtain ⟨_, e9_4, b1f4, rfl, i9_4_0⟩ := h9 173 _ rfl
  obtain ⟨_, e9_5, b1f5, rfl, i9_5_0⟩ := h9 174 _ rfl
  obtain ⟨_, e9_6, b1f6, rfl, i9_6_0⟩ := h9 175 _ rfl
  obtain ⟨_, e9_7, b1f7, rfl, i9_7_0⟩ := h9 176 _ rfl
  obtain ⟨_, e9_8, g_b1u0, g_b1u1, g_b1u2, g_b1u3, g_b1u4, rfl, i9_8_0, i9_8_1⟩ := h9 16 _ rfl
  obtain ⟨_, e9_9, g_b1f1, rfl, i9_9_0⟩ := h9 17 _ rfl
  obtain ⟨_, e9_10, g_b1f2, rfl, i9_10_0⟩ := h9 18 _ rfl
  obtain ⟨_, e9_11, g_b1f3, rfl, i9_11_0, i9_11_1⟩ := h9 19 _ rfl
  obtain ⟨_, e9_12, g_b1f4, rfl, i9_12_0⟩ := h9 20 _ rfl
  obtain ⟨_, e9_13, g_b1f5, rfl, i9_13_0⟩ := h9 21 _ rfl
  obtain ⟨_, e9_14, g_b1f6, rfl, i9_14_0⟩ := h9 22 _ rfl
  obtain ⟨_, e9_15, g_b1f7, rfl, i9_15_0⟩ := h9 23 _ rfl
  refine ⟨[169, 170, 171, 172, 173, 174, 175, 176, 16, 17, 18, 19, 20, 21, 22, 23], [q2 0, q2 8], (wBo 0 b1f1 b1f2 b1f3 b1f4 b1f5 b1f6 b1f7 b1u0 b1u1 b1u2 b1u3 b1u4 ++ wBo 8 g_b1f1 g_b1f2 g_b1f3 g_b1f4 g_b1f5 g_b1f6 g_b1f7 g_b1u0 g_b1u1 g_b1u2 g_b1u3 g_b1u4), rfl, ?_, rfl, ?_⟩
  · show [w[169]?, w[170]?, w[171]?, w[172]?, w[173]?, w[174]?, w[175]?, w[176]?, w[16]?, w[17]?, w[18]?, w[19]?, w[20]?, w[21]?, w[22]?, w[23]?] = _
    rw [e9_0, e9_1, e9_2, e9_3, e9_4, e9_5, e9_6, e9_7, e9_8, e9_9, e9_10, e9_11, e9_12, e9_13, e9_14, e9_15]
    rfl
  · refine ⟨b1f1, b1f2, b1f3, b1f4, b1f5, b1f6, b1f7, b1u0, b1u1, b1u2, b1u3, b1u4, g_b1f1, g_b1f2, g_b1f3, g_b1f4, g_b1f5, g_b1f6, g_b1f7, g_b1u0, g_b1u1, g_b1u2, g_b1u3, g_b1u4, rfl, rfl, fun hlen => ?_⟩
    refine hQ9 _ (fu (fu (fu (fu (fu (fu (fu F 170 (va_cpy g_b1f1 b1f1 0 0 8)) 171 (va_cpy g_b1f2 b1f2 0 0 8)) 172 (va_cpy g_b1f3 b1f3 0 0 4)) 173 (va_cpy g_b1f4 b1f4 0 0 32)) 174 (va_cpy g_b1f5 b1f5 0 0 6)) 175 (va_cpy g_b1f6 b1f6 0 0 6)) 176 (va_cpy g_b1f7 b1f7 0 0 6)) (fu U 169 (vL [g_b1u0, g_b1u1, g_b1u2, g_b1u3, g_b1u4])) _ (PW_bwC h9 rfl (fun i hi => CL_154_ne (fu_c (fun e => hi (by rw [e]; exact List.mem_of_getElem? (i := 7) rfl)) (fu_c (fun e => hi (by rw [e]; exact List.mem_of_getElem? (i := 6) rfl)) (fu_c (fun e => hi (by rw [e]; exact List.mem_of_getElem? (i := 5) rfl)) (fu_c (fun e => hi (by rw [e]; exact List.mem_of_getElem? (i := 4) rfl)) (fu_c (fun e => hi (by rw [e]; exact List.mem_of_getElem? (i := 3) rfl)) (fu_c (fun e => hi (by rw [e]; exact List.mem_of_getElem? (i := 2) rfl)) (fu_c (fun e => hi (by rw [e]; exact List.mem_of_getElem? (i := 1) rfl)) rfl))))))) (fu_c (fun e => hi (by rw [e]; exact List.mem_of_getElem? (i := 0) rfl)) rfl)) rfl ?_) (by rw [q_bw_len]) (bw_outo (ps := [169, 170, 171, 172, 173, 174, 175, 176, 16, 17, 18, 19, 20, 21, 22, 23]) (fun p hp => by unfold out_154; revert p; decide)) ⟨rfl, (fun p (h1 : ¬ (169 ≤ p ∧ p ≤ 169 + ([8, 8, 4, 32, 6, 6, 6] : List Nat).length)) => ⟨(fu_c (fun e9 => by simp only [List.length] at h1; omega) (fu_c (fun e9 => by simp only [List.length] at h1; omega) (fu_c (fun e9 => by simp only [List.length] at h1; omega) (fu_c (fun e9 => by simp only [List.length] at h1; omega) (fu_c (fun e9 => by simp only [List.length] at h1; omega) (fu_c (fun e9 => by simp only [List.length] at h1; omega) (fu_c (fun e9 => by simp only [List.length] at h1; omega) rfl))))))), (fu_c (fun e9 => by simp only [List.length] at h1; omega) rfl)⟩), (by intro j hj i hi; match j, hj with | 0, _ => exact (cpy_lt hi).trans (congrFun i9_9_0 i) | 1, _ => exact (cpy_lt hi).trans (congrFun i9_10_0 i) | 2, _ => exact (cpy_lt hi).trans (congrFun i9_11_1 i) | 3, _ => exact (cpy_lt hi).trans (congrFun i9_12_0 i) | 4, _ => exact (cpy_lt hi).trans (congrFun i9_13_0 i) | 5, _ => exact (cpy_lt hi).trans (congrFun i9_14_0 i) | 6, _ => exact (cpy_lt hi).trans (congrFun i9_15_0 i) | j + 7, hj => exact absurd hj (by simp)), (by intro i hi; match i, hi with | 0, _ => exact i9_8_1.1 | 1, _ => exact i9_8_1.2.1 | 2, _ => exact i9_8_1.2.2.1 | 3, _ => exact i9_8_1.2.2.2.1 | 4, _ => exact i9_8_1.2.2.2.2 | i + 5, hi => exact absurd hi (by omega))⟩
    refine ⟨(show PT_B1 154 (vL [g_b1u0, g_b1u1, g_b1u2, g_b1u3, g_b1u4]) _ from ⟨_, _, _, _, _, rfl, (by first | assumption | omega | exact q_rg_cpy (by assumption) (by assumption)), ⟨rfl, rfl, rfl, rfl, rfl⟩⟩), ?_⟩
    refine ⟨(show PT_B1_1 154 (va_cpy g_b1f1 b1f1 0 0 8) _ from ⟨_, rfl, rfl⟩), ?_⟩
    refine ⟨(show PT_B1_2 154 (va_cpy g_b1f2 b1f2 0 0 8) _ from ⟨_, rfl, rfl⟩), ?_⟩
    refine ⟨(show PT_B1_3 154 (va_cpy g_b1f3 b1f3 0 0 4) _ from ⟨_, rfl, (by first | assumption | omega | exact q_rg_cpy (by assumption) (by assumption)), rfl⟩), ?_⟩
    refine ⟨(show PT_B1_4 154 (va_cpy g_b1f4 b1f4 0 0 32) _ from ⟨_, rfl, rfl⟩), ?_⟩
    refine ⟨(show PT_B1_5 154 (va_cpy g_b1f5 b1f5 0 0 6) _ from ⟨_, rfl, rfl⟩), ?_⟩
    refine ⟨(show PT_B1_6 154 (va_cpy g_b1f6 b1f6 0 0 6) _ from ⟨_, rfl, rfl⟩), ?_⟩
    refine ⟨(show PT_B1_7 154 (va_cpy g_b1f7 b1f7 0 0 6) _ from ⟨_, rfl, rfl⟩), ?_⟩
    refine ⟨(show PX_B1 (U 16) _ from ⟨_, _, _, _, _, rfl, (by first | assumption | omega | exact q_rg_cpy (by assumption) (by assumption)), i9_8_1⟩), ?_⟩
    refine ⟨(show PX_B1_1 (F 17) _ from ⟨_, rfl, i9_9_0⟩), ?_⟩
    refine ⟨(show PX_B1_2 (F 18) _ from ⟨_, rfl, i9_10_0⟩), ?_⟩
    refine ⟨(show PX_B1_3 (F 19) _ from ⟨_, rfl, (by first | assumption | omega | exact q_rg_cpy (by assumption) (by assumption)), i9_11_1⟩), ?_⟩
    refine ⟨(show PX_B1_4 (F 20) _ from ⟨_, rfl, i9_12_0⟩), ?_⟩
    refine ⟨(show PX_B1_5 (F 21) _ from ⟨_, rfl, i9_13_0⟩), ?_⟩
    refine ⟨(show PX_B1_6 (F 22) _ from ⟨_, rfl, i9_14_0⟩), ?_⟩
    refine ⟨(show PX_B1_7 (F 23) _ from ⟨_, rfl, i9_15_0⟩), ?_⟩
    exact trivial

def sO_B_154i : qS := spY CL_154 out_154 (fun av => av = [q2 161, q2 8] ∨ av = [q2 169, q2 16]) (fun F U av r F' U' => r = none ∧ ∃ p s : Nat, av = [q2 p, q2 s] ∧ CpBlk [8, 8, 4, 32, 6, 6, 6] 5 p s F U F' U')
theorem mO_B_154i (l : Launch) : q_M l yX0_copy cX0_copy 2 none 1 68 sO_B_154i := by
  intro dC dI k g av w Q sz hs oka okw
  obtain ⟨F, U, h1, h2 | h2, h3⟩ := hs
  · exact mO_B0_154i l dC dI k g av w Q sz ⟨F, U, h1, h2, fun r F' U' w' a b c d => h3 r F' U' w' a b c ⟨d.1, _, _, h2, d.2⟩⟩ oka okw
  · exact mO_B1_154i l dC dI k g av w Q sz ⟨F, U, h1, h2, fun r F' U' w' a b c d => h3 r F' U' w' a b c ⟨d.1, _, _, h2, d.2⟩⟩ oka okw

def sO_Y0_154i : qS := spY CL_154 out_154 (fun av => av = [q2 177, q2 24]) (fun F U _ r F' U' => r = none ∧ CpBlk [40, 40, 40, 40] 1 177 24 F U F' U')
set_option maxHeartbeats 4000000 in
set_option maxRecDepth 100000 in
theorem mO_Y0_154i (l : Launch) : q_M l yX10_copy cX10_copy 2 none 1 68 sO_Y0_154i := by
  refine q_M_mono (fun av w Q h9 => ?_) (q_M_fr (m_X10_copy l))
  obtain ⟨F, U, h9, rfl, hQ9⟩ := h9
  obtain ⟨_, e9_0, y0d, rfl, i9_0_0, i9_0_1⟩ := h9 177 _ rfl
  obtain ⟨_, e9_1, y0k1, rfl, i9_1_0⟩ := h9 178 _ rfl
  obtain ⟨_, e9_2, y0k2, rfl, i9_2_0⟩ := h9 179 _ rfl
  obtain ⟨_, e9_3, y0k3, rfl, i9_3_0⟩ := h9 180 _ rfl
  obtain ⟨_, e9_4, y0k4, rfl, i9_4_0⟩ := h9 181 _ rfl
  obtain ⟨_, e9_5, g_y0d, rfl, i9_5_0, i9_5_1⟩ := h9 24 _ rfl
  obtain ⟨_, e9_6, g_y0k1, rfl, i9_6_0⟩ := h9 25 _ rfl
  obtain ⟨_, e9_7, g_y0k2, rfl, i9_7_0⟩ := h9 26 _ rfl
  obtain ⟨_, e9_8, g_y0k3, rfl, i9_8_0⟩ := h9 27 _ rfl
  obtain ⟨_, e9_9, g_y0k4, rfl, i9_9_0⟩ := h9 28 _ rfl
  refine ⟨[177, 178, 179, 180, 181, 24, 25, 26, 27, 28], [q2 0, q2 5], (wYo 0 y0k1 y0k2 y0k3 y0k4 y0d ++ wYo 5 g_y0k1 g_y0k2 g_y0k3 g_y0k4 g_y0d), rfl, ?_, rfl, ?_⟩
  · show [w[177]?, w[178]?, w[179]?, w[180]?, w[181]?, w[24]?, w[25]?, w[26]?, w[27]?, w[28]?] = _
    rw [e9_0, e9_1, e9_2, e9_3, e9_4, e9_5, e9_6, e9_7, e9_8, e9_9]
    rfl
  · refine ⟨y0k1, y0k2, y0k3, y0k4, y0d, g_y0k1, g_y0k2, g_y0k3, g_y0k4, g_y0d, rfl, rfl, fun hlen => ?_⟩
    refine hQ9 _ (fu (fu (fu (fu F 178 (va_cpy g_y0k1 y0k1 0 0 40)) 179 (va_cpy g_y0k2 y0k2 0 0 40)) 180 (va_cpy g_y0k3 y0k3 0 0 40)) 181 (va_cpy g_y0k4 y0k4 0 0 40)) (fu U 177 (vL [g_y0d])) _ (PW_bwC h9 rfl (fun i hi => CL_154_ne (fu_c (fun e => hi (by rw [e]; exact List.mem_of_getElem? (i := 4) rfl)) (fu_c (fun e => hi (by rw [e]; exact List.mem_of_getElem? (i := 3) rfl)) (fu_c (fun e => hi (by rw [e]; exact List.mem_of_getElem? (i := 2) rfl)) (fu_c (fun e => hi (by rw [e]; exact List.mem_of_getElem? (i := 1) rfl)) rfl)))) (fu_c (fun e => hi (by rw [e]; exact List.mem_of_getElem? (i := 0) rfl)) rfl)) rfl ?_) (by rw [q_bw_len]) (bw_outo (ps := [177, 178, 179, 180, 181, 24, 25, 26, 27, 28]) (fun p hp => by unfold out_154; revert p; decide)) ⟨rfl, (fun p (h1 : ¬ (177 ≤ p ∧ p ≤ 177 + ([40, 40, 40, 40] : List Nat).length)) => ⟨(fu_c (fun e9 => by simp only [List.length] at h1; omega) (fu_c (fun e9 => by simp only [List.length] at h1; omega) (fu_c (fun e9 => by simp only [List.length] at h1; omega) (fu_c (fun e9 => by simp only [List.length] at h1; omega) rfl)))), (fu_c (fun e9 => by simp only [List.length] at h1; omega) rfl)⟩), (by intro j hj i hi; match j, hj with | 0, _ => exact (cpy_lt hi).trans (congrFun i9_6_0 i) | 1, _ => exact (cpy_lt hi).trans (congrFun i9_7_0 i) | 2, _ => exact (cpy_lt hi).trans (congrFun i9_8_0 i) | 3, _ => exact (cpy_lt hi).trans (congrFun i9_9_0 i) | j + 4, hj => exact absurd hj (by simp)), (by intro i hi; match i, hi with | 0, _ => exact i9_5_1 | i + 1, hi => exact absurd hi (by omega))⟩
    refine ⟨(show PT_Y0 154 (vL [g_y0d]) _ from ⟨_, rfl, (by first | assumption | omega | exact q_rg_cpy (by assumption) (by assumption)), rfl⟩), ?_⟩
    refine ⟨(show PT_Y0_1 154 (va_cpy g_y0k1 y0k1 0 0 40) _ from ⟨_, rfl, rfl⟩), ?_⟩
    refine ⟨(show PT_Y0_2 154 (va_cpy g_y0k2 y0k2 0 0 40) _ from ⟨_, rfl, rfl⟩), ?_⟩
    refine ⟨(show PT_Y0_3 154 (va_cpy g_y0k3 y0k3 0 0 40) _ from ⟨_, rfl, rfl⟩), ?_⟩
    refine ⟨(show PT_Y0_4 154 (va_cpy g_y0k4 y0k4 0 0 40) _ from ⟨_, rfl, rfl⟩), ?_⟩
    refine ⟨(show PX_Y0 (U 24) _ from ⟨_, rfl, (by first | assumption | omega | exact q_rg_cpy (by assumption) (by assumption)), i9_5_1⟩), ?_⟩
    refine ⟨(show PX_Y0_1 (F 25) _ from ⟨_, rfl, i9_6_0⟩), ?_⟩
    refine ⟨(show PX_Y0_2 (F 26) _ from ⟨_, rfl, i9_7_0⟩), ?_⟩
    refine ⟨(show PX_Y0_3 (F 27) _ from ⟨_, rfl, i9_8_0⟩), ?_⟩
    refine ⟨(show PX_Y0_4 (F 28) _ from ⟨_, rfl, i9_9_0⟩), ?_⟩
    exact trivial

def sO_Y1_154i : qS := spY CL_154 out_154 (fun av => av = [q2 182, q2 29]) (fun F U _ r F' U' => r = none ∧ CpBlk [40, 40, 40, 40] 1 182 29 F U F' U')
set_option maxHeartbeats 4000000 in
set_option maxRecDepth 100000 in
theorem mO_Y1_154i (l : Launch) : q_M l yX10_copy cX10_copy 2 none 1 68 sO_Y1_154i := by
  refine q_M_mono (fun av w Q h9 => ?_) (q_M_fr (m_X10_copy l))
  obtain ⟨F, U, h9, rfl, hQ9⟩ := h9
  obtain ⟨_, e9_0, y1d, rfl, i9_0_0, i9_0_1⟩ := h9 182 _ rfl
  obtain ⟨_, e9_1, y1k1, rfl, i9_1_0⟩ := h9 183 _ rfl
  obtain ⟨_, e9_2, y1k2, rfl, i9_2_0⟩ := h9 184 _ rfl
  obtain ⟨_, e9_3, y1k3, rfl, i9_3_0⟩ := h9 185 _ rfl
  obtain ⟨_, e9_4, y1k4, rfl, i9_4_0⟩ := h9 186 _ rfl
  obtain ⟨_, e9_5, g_y1d, rfl, i9_5_0, i9_5_1⟩ := h9 29 _ rfl
  obtain ⟨_, e9_6, g_y1k1, rfl, i9_6_0⟩ := h9 30 _ rfl
  obtain ⟨_, e9_7, g_y1k2, rfl, i9_7_0⟩ := h9 31 _ rfl
  obtain ⟨_, e9_8, g_y1k3, rfl, i9_8_0⟩ := h9 32 _ rfl
  obtain ⟨_, e9_9, g_y1k4, rfl, i9_9_0⟩ := h9 33 _ rfl
  refine ⟨[182, 183, 184, 185, 186, 29, 30, 31, 32, 33], [q2 0, q2 5], (wYo 0 y1k1 y1k2 y1k3 y1k4 y1d ++ wYo 5 g_y1k1 g_y1k2 g_y1k3 g_y1k4 g_y1d), rfl, ?_, rfl, ?_⟩
  · show [w[182]?, w[183]?, w[184]?, w[185]?, w[186]?, w[29]?, w[30]?, w[31]?, w[32]?, w[33]?] = _
    rw [e9_0, e9_1, e9_2, e9_3, e9_4, e9_5, e9_6, e9_7, e9_8, e9_9]
    rfl
  · refine ⟨y1k1, y1k2, y1k3, y1k4, y1d, g_y1k1, g_y1k2, g_y1k3, g_y1k4, g_y1d, rfl, rfl, fun hlen => ?_⟩
    refine hQ9 _ (fu (fu (fu (fu F 183 (va_cpy g_y1k1 y1k1 0 0 40)) 184 (va_cpy g_y1k2 y1k2 0 0 40)) 185 (va_cpy g_y1k3 y1k3 0 0 40)) 186 (va_cpy g_y1k4 y1k4 0 0 40)) (fu U 182 (vL [g_y1d])) _ (PW_bwC h9 rfl (fun i hi => CL_154_ne (fu_c (fun e => hi (by rw [e]; exact List.mem_of_getElem? (i := 4) rfl)) (fu_c (fun e => hi (by rw [e]; exact List.mem_of_getElem? (i := 3) rfl)) (fu_c (fun e => hi (by rw [e]; exact List.mem_of_getElem? (i := 2) rfl)) (fu_c (fun e => hi (by rw [e]; exact List.mem_of_getElem? (i := 1) rfl)) rfl)))) (fu_c (fun e => hi (by rw [e]; exact List.mem_of_getElem? (i := 0) rfl)) rfl)) rfl ?_) (by rw [q_bw_len]) (bw_outo (ps := [182, 183, 184, 185, 186, 29, 30, 31, 32, 33]) (fun p hp => by unfold out_154; revert p; decide)) ⟨rfl, (fun p (h1 : ¬ (182 ≤ p ∧ p ≤ 182 + ([40, 40, 40, 40] : List Nat).length)) => ⟨(fu_c (fun e9 => by simp only [List.length] at h1; omega) (fu_c (fun e9 => by simp only [List.length] at h1; omega) (fu_c (fun e9 => by simp only [List.length] at h1; omega) (fu_c (fun e9 => by simp only [List.length] at h1; omega) rfl)))), (fu_c (fun e9 => by simp only [List.length] at h1; omega) rfl)⟩), (by intro j hj i hi; match j, hj with | 0, _ => exact (cpy_lt hi).trans (congrFun i9_6_0 i) | 1, _ => exact (cpy_lt hi).trans (congrFun i9_7_0 i) | 2, _ => exact (cpy_lt hi).trans (congrFun i9_8_0 i) | 3, _ => exact (cpy_lt hi).trans (congrFun i9_9_0 i) | j + 4, hj => exact absurd hj (by simp)), (by intro i hi; match i, hi with | 0, _ => exact i9_5_1 | i + 1, hi => exact absurd hi (by omega))⟩
    refine ⟨(show PT_Y1 154 (vL [g_y1d]) _ from ⟨_, rfl, (by first | assumption | omega | exact q_rg_cpy (by assumption) (by assumption)), rfl⟩), ?_⟩
    refine ⟨(show PT_Y1_1 154 (va_cpy g_y1k1 y1k1 0 0 40) _ from ⟨_, rfl, rfl⟩), ?_⟩
    refine ⟨(show PT_Y1_2 154 (va_cpy g_y1k2 y1k2 0 0 40) _ from ⟨_, rfl, rfl⟩), ?_⟩
    refine ⟨(show PT_Y1_3 154 (va_cpy g_y1k3 y1k3 0 0 40) _ from ⟨_, rfl, rfl⟩), ?_⟩
    refine ⟨(show PT_Y1_4 154 (va_cpy g_y1k4 y1k4 0 0 40) _ from ⟨_, rfl, rfl⟩), ?_⟩
    refine ⟨(show PX_Y1 (U 29) _ from ⟨_, rfl, (by first | assumption | omega | exact q_rg_cpy (by assumption) (by assumption)), i9_5_1⟩), ?_⟩
    refine ⟨(show PX_Y1_1 (F 30) _ from ⟨_, rfl, i9_6_0⟩), ?_⟩
    refine ⟨(show PX_Y1_2 (F 31) _ from ⟨_, rfl, i9_7_0⟩), ?_⟩
    refine ⟨(show PX_Y1_3 (F 32) _ from ⟨_, rfl, i9_8_0⟩), ?_⟩
    refine ⟨(show PX_Y1_4 (F 33) _ from ⟨_, rfl, i9_9_0⟩), ?_⟩
    exact trivial

def sO_Y_154i : qS := spY CL_154 out_154 (fun av => av = [q2 177, q2 24] ∨ av = [q2 182, q2 29]) (fun F U av r F' U' => r = none ∧ ∃ p s : Nat, av = [q2 p, q2 s] ∧ CpBlk [40, 40, 40, 40] 1 p s F U F' U')
theorem mO_Y_154i (l : Launch) : q_M l yX10_copy cX10_copy 2 none 1 68 sO_Y_154i := by
  intro dC dI k g av w Q sz hs oka okw
  obtain ⟨F, U, h1, h2 | h2, h3⟩ := hs
  · exact mO_Y0_154i l dC dI k g av w Q sz ⟨F, U, h1, h2, fun r F' U' w' a b c d => h3 r F' U' w' a b c ⟨d.1, _, _, h2, d.2⟩⟩ oka okw
  · exact mO_Y1_154i l dC dI k g av w Q sz ⟨F, U, h1, h2, fun r F' U' w' a b c d => h3 r F' U' w' a b c ⟨d.1, _, _, h2, d.2⟩⟩ oka okw

def sO_L0_154i : qS := spY CL_154 out_154 (fun av => av = [q2 187, q2 34]) (fun F U _ r F' U' => r = none ∧ CpBlk [8] 1 187 34 F U F' U')
set_option maxHeartbeats 4000000 in
set_option maxRecDepth 100000 in
theorem mO_L0_154i (l : Launch) : q_M l yX3_copy cX3_copy 2 none 1 68 sO_L0_154i := by
  refine q_M_mono (fun av w Q h9 => ?_) (q_M_fr (m_X3_copy l))
  obtain ⟨F, U, h9, rfl, hQ9⟩ := h9
  obtain ⟨_, e9_0, l0o, rfl, i9_0_0⟩ := h9 187 _ rfl
  obtain ⟨_, e9_1, l0g, rfl, i9_1_0⟩ := h9 188 _ rfl
  obtain ⟨_, e9_2, g_l0o, rfl, i9_2_0⟩ := h9 34 _ rfl
  obtain ⟨_, e9_3, g_l0g, rfl, i9_3_0⟩ := h9 35 _ rfl
  refine ⟨[187, 188, 34, 35], [q2 0, q2 2], (wLo 0 l0g l0o ++ wLo 2 g_l0g g_l0o), rfl, ?_, rfl, ?_⟩
  · show [w[187]?, w[188]?, w[34]?, w[35]?] = _
    rw [e9_0, e9_1, e9_2, e9_3]
    rfl
  · refine ⟨l0g, l0o, g_l0g, g_l0o, rfl, rfl, fun hlen => ?_⟩
    refine hQ9 _ (fu F 188 (va_cpy g_l0g l0g 0 0 8)) (fu U 187 (vL [g_l0o])) _ (PW_bwC h9 rfl (fun i hi => CL_154_ne (fu_c (fun e => hi (by rw [e]; exact List.mem_of_getElem? (i := 1) rfl)) rfl) (fu_c (fun e => hi (by rw [e]; exact List.mem_of_getElem? (i := 0) rfl)) rfl)) rfl ?_) (by rw [q_bw_len]) (bw_outo (ps := [187, 188, 34, 35]) (fun p hp => by unfold out_154; revert p; decide)) ⟨rfl, (fun p (h1 : ¬ (187 ≤ p ∧ p ≤ 187 + ([8] : List Nat).length)) => ⟨(fu_c (fun e9 => by simp only [List.length] at h1; omega) rfl), (fu_c (fun e9 => by simp only [List.length] at h1; omega) rfl)⟩), (by intro j hj i hi; match j, hj with | 0, _ => exact (cpy_lt hi).trans (congrFun i9_3_0 i) | j + 1, hj => exact absurd hj (by simp)), (by intro i hi; match i, hi with | 0, _ => exact i9_2_0 | i + 1, hi => exact absurd hi (by omega))⟩
    refine ⟨(show PT_L0 154 (vL [g_l0o]) _ from ⟨_, rfl, rfl⟩), ?_⟩
    refine ⟨(show PT_L0_1 154 (va_cpy g_l0g l0g 0 0 8) _ from ⟨_, rfl, rfl⟩), ?_⟩
    refine ⟨(show PX_L0 (U 34) _ from ⟨_, rfl, i9_2_0⟩), ?_⟩
    refine ⟨(show PX_L0_1 (F 35) _ from ⟨_, rfl, i9_3_0⟩), ?_⟩
    exact trivial

def sO_L1_154i : qS := spY CL_154 out_154 (fun av => av = [q2 189, q2 36]) (fun F U _ r F' U' => r = none ∧ CpBlk [8] 1 189 36 F U F' U')
set_option maxHeartbeats 4000000 in
set_option maxRecDepth 100000 in
theorem mO_L1_154i (l : Launch) : q_M l yX3_copy cX3_copy 2 none 1 68 sO_L1_154i := by
  refine q_M_mono (fun av w Q h9 => ?_) (q_M_fr (m_X3_copy l))
  obtain ⟨F, U, h9, rfl, hQ9⟩ := h9
  obtain ⟨_, e9_0, l1o, rfl, i9_0_0⟩ := h9 189 _ rfl
  obtain ⟨_, e9_1, l1g, rfl, i9_1_0⟩ := h9 190 _ rfl
  obtain ⟨_, e9_2, g_l1o, rfl, i9_2_0⟩ := h9 36 _ rfl
  obtain ⟨_, e9_3, g_l1g, rfl, i9_3_0⟩ := h9 37 _ rfl
  refine ⟨[189, 190, 36, 37], [q2 0, q2 2], (wLo 0 l1g l1o ++ wLo 2 g_l1g g_l1o), rfl, ?_, rfl, ?_⟩
  · show [w[189]?, w[190]?, w[36]?, w[37]?] = _
    rw [e9_0, e9_1, e9_2, e9_3]
    rfl
  · refine ⟨l1g, l1o, g_l1g, g_l1o, rfl, rfl, fun hlen => ?_⟩
    refine hQ9 _ (fu F 190 (va_cpy g_l1g l1g 0 0 8)) (fu U 189 (vL [g_l1o])) _ (PW_bwC h9 rfl (fun i hi => CL_154_ne (fu_c (fun e => hi (by rw [e]; exact List.mem_of_getElem? (i := 1) rfl)) rfl) (fu_c (fun e => hi (by rw [e]; exact List.mem_of_getElem? (i := 0) rfl)) rfl)) rfl ?_) (by rw [q_bw_len]) (bw_outo (ps := [189, 190, 36, 37]) (fun p hp => by unfold out_154; revert p; decide)) ⟨rfl, (fun p (h1 : ¬ (189 ≤ p ∧ p ≤ 189 + ([8] : List Nat).length)) => ⟨(fu_c (fun e9 => by simp only [List.length] at h1; omega) rfl), (fu_c (fun e9 => by simp only [List.length] at h1; omega) rfl)⟩), (by intro j hj i hi; match j, hj with | 0, _ => exact (cpy_lt hi).trans (congrFun i9_3_0 i) | j + 1, hj => exact absurd hj (by simp)), (by intro i hi; match i, hi with | 0, _ => exact i9_2_0 | i + 1, hi => exact absurd hi (by omega))⟩
    refine ⟨(show PT_L1 154 (vL [g_l1o]) _ from ⟨_, rfl, rfl⟩), ?_⟩
    refine ⟨(show PT_L1_1 154 (va_cpy g_l1g l1g 0 0 8) _ from ⟨_, rfl, rfl⟩), ?_⟩
    refine ⟨(show PX_L1 (U 36) _ from ⟨_, rfl, i9_2_0⟩), ?_⟩
    refine ⟨(show PX_L1_1 (F 37) _ from ⟨_, rfl, i9_3_0⟩), ?_⟩
    exact trivial

def sO_L_154i : qS := spY CL_154 out_154 (fun av => av = [q2 187, q2 34] ∨ av = [q2 189, q2 36]) (fun F U av r F' U' => r = none ∧ ∃ p s : Nat, av = [q2 p, q2 s] ∧ CpBlk [8] 1 p s F U F' U')
theorem mO_L_154i (l : Launch) : q_M l yX3_copy cX3_copy 2 none 1 68 sO_L_154i := by
  intro dC dI k g av w Q sz hs oka okw
  obtain ⟨F, U, h1, h2 | h2, h3⟩ := hs
  · exact mO_L0_154i l dC dI k g av w Q sz ⟨F, U, h1, h2, fun r F' U' w' a b c d => h3 r F' U' w' a b c ⟨d.1, _, _, h2, d.2⟩⟩ oka okw
  · exact mO_L1_154i l dC dI k g av w Q sz ⟨F, U, h1, h2, fun r F' U' w' a b c d => h3 r F' U' w' a b c ⟨d.1, _, _, h2, d.2⟩⟩ oka okw

def sO_S0_154i : qS := spY CL_154 out_154 (fun av => av = [q2 191, q2 38]) (fun F U _ r F' U' => r = none ∧ CpBlk [10, 10] 1 191 38 F U F' U')
set_option maxHeartbeats 4000000 in
set_option maxRecDepth 100000 in
theorem mO_S0_154i (l : Launch) : q_M l yX7_copy cX7_copy 2 none 1 68 sO_S0_154i := by
  refine q_M_mono (fun av w Q h9 => ?_) (q_M_fr (m_X7_copy l))
  obtain ⟨F, U, h9, rfl, hQ9⟩ := h9
  obtain ⟨_, e9_0, s0c, rfl, i9_0_0, i9_0_1⟩ := h9 191 _ rfl
  obtain ⟨_, e9_1, s0p, rfl, i9_1_0⟩ := h9 192 _ rfl
  obtain ⟨_, e9_2, s0t, rfl, i9_2_0⟩ := h9 193 _ rfl
  obtain ⟨_, e9_3, g_s0c, rfl, i9_3_0, i9_3_1⟩ := h9 38 _ rfl
  obtain ⟨_, e9_4, g_s0p, rfl, i9_4_0⟩ := h9 39 _ rfl
  obtain ⟨_, e9_5, g_s0t, rfl, i9_5_0⟩ := h9 40 _ rfl
  refine ⟨[191, 192, 193, 38, 39, 40], [q2 0, q2 3], (wSo 0 s0p s0t s0c ++ wSo 3 g_s0p g_s0t g_s0c), rfl, ?_, rfl, ?_⟩
  · show [w[191]?, w[192]?, w[193]?, w[38]?, w[39]?, w[40]?] = _
    rw [e9_0, e9_1, e9_2, e9_3, e9_4, e9_5]
    rfl
  · refine ⟨s0p, s0t, s0c, g_s0p, g_s0t, g_s0c, rfl, rfl, fun hlen => ?_⟩
    refine hQ9 _ (fu (fu F 192 (va_cpy g_s0p s0p 0 0 10)) 193 (va_cpy g_s0t s0t 0 0 10)) (fu U 191 (vL [g_s0c])) _ (PW_bwC h9 rfl (fun i hi => CL_154_ne (fu_c (fun e => hi (by rw [e]; exact List.mem_of_getElem? (i := 2) rfl)) (fu_c (fun e => hi (by rw [e]; exact List.mem_of_getElem? (i := 1) rfl)) rfl)) (fu_c (fun e => hi (by rw [e]; exact List.mem_of_getElem? (i := 0) rfl)) rfl)) rfl ?_) (by rw [q_bw_len]) (bw_outo (ps := [191, 192, 193, 38, 39, 40]) (fun p hp => by unfold out_154; revert p; decide)) ⟨rfl, (fun p (h1 : ¬ (191 ≤ p ∧ p ≤ 191 + ([10, 10] : List Nat).length)) => ⟨(fu_c (fun e9 => by simp only [List.length] at h1; omega) (fu_c (fun e9 => by simp only [List.length] at h1; omega) rfl)), (fu_c (fun e9 => by simp only [List.length] at h1; omega) rfl)⟩), (by intro j hj i hi; match j, hj with | 0, _ => exact (cpy_lt hi).trans (congrFun i9_4_0 i) | 1, _ => exact (cpy_lt hi).trans (congrFun i9_5_0 i) | j + 2, hj => exact absurd hj (by simp)), (by intro i hi; match i, hi with | 0, _ => exact i9_3_1 | i + 1, hi => exact absurd hi (by omega))⟩
    refine ⟨(show PT_S0 154 (vL [g_s0c]) _ from ⟨_, rfl, (by first | assumption | omega | exact q_rg_cpy (by assumption) (by assumption)), rfl⟩), ?_⟩
    refine ⟨(show PT_S0_1 154 (va_cpy g_s0p s0p 0 0 10) _ from ⟨_, rfl, rfl⟩), ?_⟩
    refine ⟨(show PT_S0_2 154 (va_cpy g_s0t s0t 0 0 10) _ from ⟨_, rfl, rfl⟩), ?_⟩
    refine ⟨(show PX_S0 (U 38) _ from ⟨_, rfl, (by first | assumption | omega | exact q_rg_cpy (by assumption) (by assumption)), i9_3_1⟩), ?_⟩
    refine ⟨(show PX_S0_1 (F 39) _ from ⟨_, rfl, i9_4_0⟩), ?_⟩
    refine ⟨(show PX_S0_2 (F 40) _ from ⟨_, rfl, i9_5_0⟩), ?_⟩
    exact trivial

def sO_S1_154i : qS := spY CL_154 out_154 (fun av => av = [q2 194, q2 41]) (fun F U _ r F' U' => r = none ∧ CpBlk [10, 10] 1 194 41 F U F' U')
set_option maxHeartbeats 4000000 in
set_option maxRecDepth 100000 in
theorem mO_S1_154i (l : Launch) : q_M l yX7_copy cX7_copy 2 none 1 68 sO_S1_154i := by
  refine q_M_mono (fun av w Q h9 => ?_) (q_M_fr (m_X7_copy l))
  obtain ⟨F, U, h9, rfl, hQ9⟩ := h9
  obtain ⟨_, e9_0, s1c, rfl, i9_0_0, i9_0_1⟩ := h9 194 _ rfl
  obtain ⟨_, e9_1, s1p, rfl, i9_1_0⟩ := h9 195 _ rfl
  obtain ⟨_, e9_2, s1t, rfl, i9_2_0⟩ := h9 196 _ rfl
  obtain ⟨_, e9_3, g_s1c, rfl, i9_3_0, i9_3_1⟩ := h9 41 _ rfl
  obtain ⟨_, e9_4, g_s1p, rfl, i9_4_0⟩ := h9 42 _ rfl
  obtain ⟨_, e9_5, g_s1t, rfl, i9_5_0⟩ := h9 43 _ rfl
  refine ⟨[194, 195, 196, 41, 42, 43], [q2 0, q2 3], (wSo 0 s1p s1t s1c ++ wSo 3 g_s1p g_s1t g_s1c), rfl, ?_, rfl, ?_⟩
  · show [w[194]?, w[195]?, w[196]?, w[41]?, w[42]?, w[43]?] = _
    rw [e9_0, e9_1, e9_2, e9_3, e9_4, e9_5]
    rfl
  · refine ⟨s1p, s1t, s1c, g_s1p, g_s1t, g_s1c, rfl, rfl, fun hlen => ?_⟩
    refine hQ9 _ (fu (fu F 195 (va_cpy g_s1p s1p 0 0 10)) 196 (va_cpy g_s1t s1t 0 0 10)) (fu U 194 (vL [g_s1c])) _ (PW_bwC h9 rfl (fun i hi => CL_154_ne (fu_c (fun e => hi (by rw [e]; exact List.mem_of_getElem? (i := 2) rfl)) (fu_c (fun e => hi (by rw [e]; exact List.mem_of_getElem? (i := 1) rfl)) rfl)) (fu_c (fun e => hi (by rw [e]; exact List.mem_of_getElem? (i := 0) rfl)) rfl)) rfl ?_) (by rw [q_bw_len]) (bw_outo (ps := [194, 195, 196, 41, 42, 43]) (fun p hp => by unfold out_154; revert p; decide)) ⟨rfl, (fun p (h1 : ¬ (194 ≤ p ∧ p ≤ 194 + ([10, 10] : List Nat).length)) => ⟨(fu_c (fun e9 => by simp only [List.length] at h1; omega) (fu_c (fun e9 => by simp only [List.length] at h1; omega) rfl)), (fu_c (fun e9 => by simp only [List.length] at h1; omega) rfl)⟩), (by intro j hj i hi; match j, hj with | 0, _ => exact (cpy_lt hi).trans (congrFun i9_4_0 i) | 1, _ => exact (cpy_lt hi).trans (congrFun i9_5_0 i) | j + 2, hj => exact absurd hj (by simp)), (by intro i hi; match i, hi with | 0, _ => exact i9_3_1 | i + 1, hi => exact absurd hi (by omega))⟩
    refine ⟨(show PT_S1 154 (vL [g_s1c]) _ from ⟨_, rfl, (by first | assumption | omega | exact q_rg_cpy (by assumption) (by assumption)), rfl⟩), ?_⟩
    refine ⟨(show PT_S1_1 154 (va_cpy g_s1p s1p 0 0 10) _ from ⟨_, rfl, rfl⟩), ?_⟩
    refine ⟨(show PT_S1_2 154 (va_cpy g_s1t s1t 0 0 10) _ from ⟨_, rfl, rfl⟩), ?_⟩
    refine ⟨(show PX_S1 (U 41) _ from ⟨_, rfl, (by first | assumption | omega | exact q_rg_cpy (by assumption) (by assumption)), i9_3_1⟩), ?_⟩
    refine ⟨(show PX_S1_1 (F 42) _ from ⟨_, rfl, i9_4_0⟩), ?_⟩
    refine ⟨(show PX_S1_2 (F 43) _ from ⟨_, rfl, i9_5_0⟩), ?_⟩
    exact trivial

def sO_S_154i : qS := spY CL_154 out_154 (fun av => av = [q2 191, q2 38] ∨ av = [q2 194, q2 41]) (fun F U av r F' U' => r = none ∧ ∃ p s : Nat, av = [q2 p, q2 s] ∧ CpBlk [10, 10] 1 p s F U F' U')
theorem mO_S_154i (l : Launch) : q_M l yX7_copy cX7_copy 2 none 1 68 sO_S_154i := by
  intro dC dI k g av w Q sz hs oka okw
  obtain ⟨F, U, h1, h2 | h2, h3⟩ := hs
  · exact mO_S0_154i l dC dI k g av w Q sz ⟨F, U, h1, h2, fun r F' U' w' a b c d => h3 r F' U' w' a b c ⟨d.1, _, _, h2, d.2⟩⟩ oka okw
  · exact mO_S1_154i l dC dI k g av w Q sz ⟨F, U, h1, h2, fun r F' U' w' a b c d => h3 r F' U' w' a b c ⟨d.1, _, _, h2, d.2⟩⟩ oka okw
