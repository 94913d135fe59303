def sO_B0_197t : qS := spY CL_197 out_197 (fun av => av = [q2 8, q2 204]) (fun F U _ r F' U' => r = none ∧ CpBlk [8, 8, 4, 32, 6, 6, 6] 5 8 204 F U F' U')
set_option maxHeartbeats 4000000 in
set_option maxRecDepth 100000 in
theorem mO_B0_197t (l : Launch) : q_M l yX0_copy cX0_copy 2 none 1 68 sO_B0_197t := by
  refine q_M_mono (fun av w Q h9 => ?_) (q_M_fr (m_X0_copy l))
  obtain ⟨F, U, h9, rfl, hQ9⟩ := h9
  obtain ⟨_, e9_0, b0u0, b0u1, b0u2, b0u3, b0u4, rfl, i9_0_0, i9_0_1⟩ := h9 8 _ rfl
  obtain ⟨_, e9_1, b0f1, rfl, i9_1_0⟩ := h9 9 _ rfl
  obtain ⟨_, e9_2, b0f2, rfl, i9_2_0⟩ := h9 10 _ rfl
  obtain ⟨_, e9_3, b0f3, rfl, i9_3_0, i9_3_1⟩ := h9 11 _ rfl
  obtain ⟨_, e9_4, b0f4, rfl, i9_4_0⟩ := h9 12 _ rfl
  obtain ⟨_, e9_5, b0f5, rfl, i9_5_0⟩ := h9 13 _ rfl
  obtain ⟨_, e9_6, b0f6, rfl, i9_6_0⟩ := h9 14 _ rfl
  obtain ⟨_, e9_7, b0f7, rfl, i9_7_0⟩ := h9 15 _ rfl
  obtain ⟨_, e9_8, g_b0u0, g_b0u1, g_b0u2, g_b0u3, g_b0u4, rfl, i9_8_0, i9_8_1⟩ := h9 204 _ rfl
  obtain ⟨_, e9_9, g_b0f1, rfl, i9_9_0⟩ := h9 205 _ rfl
  obtain ⟨_, e9_10, g_b0f2, rfl, i9_10_0⟩ := h9 206 _ rfl
  obtain ⟨_, e9_11, g_b0f3, rfl, i9_11_0, i9_11_1⟩ := h9 207 _ rfl
  obtain ⟨_, e9_12, g_b0f4, rfl, i9_12_0⟩ := h9 208 _ rfl
  obtain ⟨_, e9_13, g_b0f5, rfl, i9_13_0⟩ := h9 209 _ rfl
  obtain ⟨_, e9_14, g_b0f6, rfl, i9_14_0⟩ := h9 210 _ rfl
  obtain ⟨_, e9_15, g_b0f7, rfl, i9_15_0⟩ := h9 211 _ rfl
  refine ⟨[8, 9, 10, 11, 12, 13, 14, 15, 204, 205, 206, 207, 208, 209, 210, 211], [q2 0, q2 8], (wBo 0 b0f1 b0f2 b0f3 b0f4 b0f5 b0f6 b0f7 b0u0 b0u1 b0u2 b0u3 b0u4 ++ wBo 8 g_b0f1 g_b0f2 g_b0f3 g_b0f4 g_b0f5 g_b0f6 g_b0f7 g_b0u0 g_b0u1 g_b0u2 g_b0u3 g_b0u4), rfl, ?_, rfl, ?_⟩
  · show [w[8]?, w[9]?, w[10]?, w[11]?, w[12]?, w[13]?, w[14]?, w[15]?, w[204]?, w[205]?, w[206]?, w[207]?, w[208]?, w[209]?, w[210]?, w[211]?] = _
    rw [e9_0, e9_1, e9_2, e9_3, e9_4, e9_5, e9_6, e9_7, e9_8, e9_9, e9_10, e9_11, e9_12, e9_13, e9_14, e9_15]
    rfl
  · refine ⟨b0f1, b0f2, b0f3, b0f4, b0f5, b0f6, b0f7, b0u0, b0u1, b0u2, b0u3, b0u4, g_b0f1, g_b0f2, g_b0f3, g_b0f4, g_b0f5, g_b0f6, g_b0f7, g_b0u0, g_b0u1, g_b0u2, g_b0u3, g_b0u4, rfl, rfl, fun hlen => ?_⟩
    refine hQ9 _ (fu (fu (fu (fu (fu (fu (fu F 9 (va_cpy g_b0f1 b0f1 0 0 8)) 10 (va_cpy g_b0f2 b0f2 0 0 8)) 11 (va_cpy g_b0f3 b0f3 0 0 4)) 12 (va_cpy g_b0f4 b0f4 0 0 32)) 13 (va_cpy g_b0f5 b0f5 0 0 6)) 14 (va_cpy g_b0f6 b0f6 0 0 6)) 15 (va_cpy g_b0f7 b0f7 0 0 6)) (fu U 8 (vL [g_b0u0, g_b0u1, g_b0u2, g_b0u3, g_b0u4])) _ (PW_bwC h9 rfl (fun i hi => CL_197_ne (fu_c (fun e => hi (by rw [e]; exact List.mem_of_getElem? (i := 7) rfl)) (fu_c (fun e => hi (by rw [e]; exact List.mem_of_getElem? (i := 6) rfl)) (fu_c (fun e => hi (by rw [e]; exact List.mem_of_getElem? (i := 5) rfl)) (fu_c (fun e => hi (by rw [e]; exact List.mem_of_getElem? (i := 4) rfl)) (fu_c (fun e => hi (by rw [e]; exact List.mem_of_getElem? (i := 3) rfl)) (fu_c (fun e => hi (by rw [e]; exact List.mem_of_getElem? (i := 2) rfl)) (fu_c (fun e => hi (by rw [e]; exact List.mem_of_getElem? (i := 1) rfl)) rfl))))))) (fu_c (fun e => hi (by rw [e]; exact List.mem_of_getElem? (i := 0) rfl)) rfl)) rfl ?_) (by rw [q_bw_len]) (bw_outo (ps := [8, 9, 10, 11, 12, 13, 14, 15, 204, 205, 206, 207, 208, 209, 210, 211]) (fun p hp => by unfold out_197; revert p; decide)) ⟨rfl, (fun p (h1 : ¬ (8 ≤ p ∧ p ≤ 8 + ([8, 8, 4, 32, 6, 6, 6] : List Nat).length)) => ⟨(fu_c (fun e9 => by simp only [List.length] at h1; omega) (fu_c (fun e9 => by simp only [List.length] at h1; omega) (fu_c (fun e9 => by simp only [List.length] at h1; omega) (fu_c (fun e9 => by simp only [List.length] at h1; omega) (fu_c (fun e9 => by simp only [List.length] at h1; omega) (fu_c (fun e9 => by simp only [List.length] at h1; omega) (fu_c (fun e9 => by simp only [List.length] at h1; omega) rfl))))))), (fu_c (fun e9 => by simp only [List.length] at h1; omega) rfl)⟩), (by intro j hj i hi; match j, hj with | 0, _ => exact (cpy_lt hi).trans (congrFun i9_9_0 i) | 1, _ => exact (cpy_lt hi).trans (congrFun i9_10_0 i) | 2, _ => exact (cpy_lt hi).trans (congrFun i9_11_1 i) | 3, _ => exact (cpy_lt hi).trans (congrFun i9_12_0 i) | 4, _ => exact (cpy_lt hi).trans (congrFun i9_13_0 i) | 5, _ => exact (cpy_lt hi).trans (congrFun i9_14_0 i) | 6, _ => exact (cpy_lt hi).trans (congrFun i9_15_0 i) | j + 7, hj => exact absurd hj (by simp)), (by intro i hi; match i, hi with | 0, _ => exact i9_8_1.1 | 1, _ => exact i9_8_1.2.1 | 2, _ => exact i9_8_1.2.2.1 | 3, _ => exact i9_8_1.2.2.2.1 | 4, _ => exact i9_8_1.2.2.2.2 | i + 5, hi => exact absurd hi (by omega))⟩
    refine ⟨(show PX_B0 (vL [g_b0u0, g_b0u1, g_b0u2, g_b0u3, g_b0u4]) _ from ⟨_, _, _, _, _, rfl, (by first | assumption | omega | exact q_rg_cpy (by assumption) (by assumption)), ⟨rfl, rfl, rfl, rfl, rfl⟩⟩), ?_⟩
    refine ⟨(show PX_B0_1 (va_cpy g_b0f1 b0f1 0 0 8) _ from ⟨_, rfl, rfl⟩), ?_⟩
    refine ⟨(show PX_B0_2 (va_cpy g_b0f2 b0f2 0 0 8) _ from ⟨_, rfl, rfl⟩), ?_⟩
    refine ⟨(show PX_B0_3 (va_cpy g_b0f3 b0f3 0 0 4) _ from ⟨_, rfl, (by first | assumption | omega | exact q_rg_cpy (by assumption) (by assumption)), rfl⟩), ?_⟩
    refine ⟨(show PX_B0_4 (va_cpy g_b0f4 b0f4 0 0 32) _ from ⟨_, rfl, rfl⟩), ?_⟩
    refine ⟨(show PX_B0_5 (va_cpy g_b0f5 b0f5 0 0 6) _ from ⟨_, rfl, rfl⟩), ?_⟩
    refine ⟨(show PX_B0_6 (va_cpy g_b0f6 b0f6 0 0 6) _ from ⟨_, rfl, rfl⟩), ?_⟩
    refine ⟨(show PX_B0_7 (va_cpy g_b0f7 b0f7 0 0 6) _ from ⟨_, rfl, rfl⟩), ?_⟩
    refine ⟨(show PT_B0 197 (U 204) _ from ⟨_, _, _, _, _, rfl, (by first | assumption | omega | exact q_rg_cpy (by assumption) (by assumption)), i9_8_1⟩), ?_⟩
    refine ⟨(show PT_B0_1 197 (F 205) _ from ⟨_, rfl, i9_9_0⟩), ?_⟩
    refine ⟨(show PT_B0_2 197 (F 206) _ from ⟨_, rfl, i9_10_0⟩), ?_⟩
    refine ⟨(show PT_B0_3 197 (F 207) _ from ⟨_, rfl, (by first | assumption | omega | exact q_rg_cpy (by assumption) (by assumption)), i9_11_1⟩), ?_⟩
    refine ⟨(show PT_B0_4 197 (F 208) _ from ⟨_, rfl, i9_12_0⟩), ?_⟩
    refine ⟨(show PT_B0_5 197 (F 209) _ from ⟨_, rfl, i9_13_0⟩), ?_⟩
    refine ⟨(show PT_B0_6 197 (F 210) _ from ⟨_, rfl, i9_14_0⟩), ?_⟩
    refine ⟨(show PT_B0_7 197 (F 211) _ from ⟨_, rfl, i9_15_0⟩), ?_⟩
    exact trivial

def sO_B1_197t : qS := spY CL_197 out_197 (fun av => av = [q2 16, q2 212]) (fun F U _ r F' U' => r = none ∧ CpBlk [8, 8, 4, 32, 6, 6, 6] 5 16 212 F U F' U')
set_option maxHeartbeats 4000000 in
set_option maxRecDepth 100000 in
theorem mO_B1_197t (l : Launch) : q_M l yX0_copy cX0_copy 2 none 1 68 sO_B1_197t := by
  refine q_M_mono (fun av w Q h9 => ?_) (q_M_fr (m_X0_copy l))
  obtain ⟨F, U, h9, rfl, hQ9⟩ := h9
  obtain ⟨_, e9_0, b1u0, b1u1, b1u2, b1u3, b1u4, rfl, i9_0_0, i9_0_1⟩ := h9 16 _ rfl
  obtain ⟨_, e9_1, b1f1, rfl, i9_1_0⟩ := h9 17 _ rfl
  obtain ⟨_, e9_2, b1f2, rfl, i9_2_0⟩ := h9 18 _ rfl
  obtain ⟨_, e9_3, b1f3, rfl, i9_3_0, i9_3_1⟩ := h9 19 _ rfl
  obtain ⟨_, e9_4, b1f4, rfl, i9_4_0⟩ := h9 20 _ rfl
  obtain ⟨_, e9_5, b1f5, rfl, i9_5_0⟩ := h9 21 _ rfl
  obtain ⟨_, e9_6, b1f6, rfl, i9_6_0⟩ := h9 22 _ rfl
  obtain ⟨_, e9_7, b1f7, rfl, i9_7_0⟩ := h9 23 _ rfl
  obtain ⟨_, e9_8, g_b1u0, g_b1u1, g_b1u2, g_b1u3, g_b1u4, rfl, i9_8_0, i9_8_1⟩ := h9 212 _ rfl
  obtain ⟨_, e9_9, g_b1f1, rfl, i9_9_0⟩ := h9 213 _ rfl
  obtain ⟨_, e9_10, g_b1f2, rfl, i9_10_0⟩ := h9 214 _ rfl
  obtain ⟨_, e9_11, g_b1f3, rfl, i9_11_0, i9_11_1⟩ := h9 215 _ rfl
  obtain ⟨_, e9_12, g_b1f4, rfl, i9_12_0⟩ := h9 216 _ rfl
  obtain ⟨_, e9_13, g_b1f5, rfl, i9_13_0⟩ := h9 217 _ rfl
  obtain ⟨_, e9_14, g_b1f6, rfl, i9_14_0⟩ := h9 218 _ rfl
  obtain ⟨_, e9_15, g_b1f7, rfl, i9_15_0⟩ := h9 219 _ rfl
  refine ⟨[16, 17, 18, 19, 20, 21, 22, 23, 212, 213, 214, 215, 216, 217, 218, 219], [q2 0, q2 8], (wBo 0 b1f1 b1f2 b1f3 b1f4 b1f5 b1f6 b1f7 b1u0 b1u1 b1u2 b1u3 b1u4 ++ wBo 8 g_b1f1 g_b1f2 g_b1f3 g_b1f4 g_b1f5 g_b1f6 g_b1f7 g_b1u0 g_b1u1 g_b1u2 g_b1u3 g_b1u4), rfl, ?_, rfl, ?_⟩
  · show [w[16]?, w[17]?, w[18]?, w[19]?, w[20]?, w[21]?, w[22]?, w[23]?, w[212]?, w[213]?, w[214]?, w[215]?, w[216]?, w[217]?, w[218]?, w[219]?] = _
    rw [e9_0, e9_1, e9_2, e9_3, e9_4, e9_5, e9_6, e9_7, e9_8, e9_9, e9_10, e9_11, e9_12, e9_13, e9_14, e9_15]
    rfl
  · refine ⟨b1f1, b1f2, b1f3, b1f4, b1f5, b1f6, b1f7, b1u0, b1u1, b1u2, b1u3, b1u4, g_b1f1, g_b1f2, g_b1f3, g_b1f4, g_b1f5, g_b1f6, g_b1f7, g_b1u0, g_b1u1, g_b1u2, g_b1u3, g_b1u4, rfl, rfl, fun hlen => ?_⟩
    refine hQ9 _ (fu (fu (fu (fu (fu (fu (fu F 17 (va_cpy g_b1f1 b1f1 0 0 8)) 18 (va_cpy g_b1f2 b1f2 0 0 8)) 19 (va_cpy g_b1f3 b1f3 0 0 4)) 20 (va_cpy g_b1f4 b1f4 0 0 32)) 21 (va_cpy g_b1f5 b1f5 0 0 6)) 22 (va_cpy g_b1f6 b1f6 0 0 6)) 23 (va_cpy g_b1f7 b1f7 0 0 6)) (fu U 16 (vL [g_b1u0, g_b1u1, g_b1u2, g_b1u3, g_b1u4])) _ (PW_bwC h9 rfl (fun i hi => CL_197_ne (fu_c (fun e => hi (by rw [e]; exact List.mem_of_getElem? (i := 7) rfl)) (fu_c (fun e => hi (by rw [e]; exact List.mem_of_getElem? (i := 6) rfl)) (fu_c (fun e => hi (by rw [e]; exact List.mem_of_getElem? (i := 5) rfl)) (fu_c (fun e => hi (by rw [e]; exact List.mem_of_getElem? (i := 4) rfl)) (fu_c (fun e => hi (by rw [e]; exact List.mem_of_getElem? (i := 3) rfl)) (fu_c (fun e => hi (by rw [e]; exact List.mem_of_getElem? (i := 2) rfl)) (fu_c (fun e => hi (by rw [e]; exact List.mem_of_getElem? (i := 1) rfl)) rfl))))))) (fu_c (fun e => hi (by rw [e]; exact List.mem_of_getElem? (i := 0) rfl)) rfl)) rfl ?_) (by rw [q_bw_len]) (bw_outo (ps := [16, 17, 18, 19, 20, 21, 22, 23, 212, 213, 214, 215, 216, 217, 218, 219]) (fun p hp => by unfold out_197; revert p; decide)) ⟨rfl, (fun p (h1 : ¬ (16 ≤ p ∧ p ≤ 16 + ([8, 8, 4, 32, 6, 6, 6] : List Nat).length)) => ⟨(fu_c (fun e9 => by simp only [List.length] at h1; omega) (fu_c (fun e9 => by simp only [List.length] at h1; omega) (fu_c (fun e9 => by simp only [List.length] at h1; omega) (fu_c (fun e9 => by simp only [List.length] at h1; omega) (fu_c (fun e9 => by simp only [List.length] at h1; omega) (fu_c (fun e9 => by simp only [List.length] at h1; omega) (fu_c (fun e9 => by simp only [List.length] at h1; omega) rfl))))))), (fu_c (fun e9 => by simp only [List.length] at h1; omega) rfl)⟩), (by intro j hj i hi; match j, hj with | 0, _ => exact (cpy_lt hi).trans (congrFun i9_9_0 i) | 1, _ => exact (cpy_lt hi).trans (congrFun i9_10_0 i) | 2, _ => exact (cpy_lt hi).trans (congrFun i9_11_1 i) | 3, _ => exact (cpy_lt hi).trans (congrFun i9_12_0 i) | 4, _ => exact (cpy_lt hi).trans (congrFun i9_13_0 i) | 5, _ => exact (cpy_lt hi).trans (congrFun i9_14_0 i) | 6, _ => exact (cpy_lt hi).trans (congrFun i9_15_0 i) | j + 7, hj => exact absurd hj (by simp)), (by intro i hi; match i, hi with | 0, _ => exact i9_8_1.1 | 1, _ => exact i9_8_1.2.1 | 2, _ => exact i9_8_1.2.2.1 | 3, _ => exact i9_8_1.2.2.2.1 | 4, _ => exact i9_8_1.2.2.2.2 | i + 5, hi => exact absurd hi (by omega))⟩
    refine ⟨(show PX_B1 (vL [g_b1u0, g_b1u1, g_b1u2, g_b1u3, g_b1u4]) _ from ⟨_, _, _, _, _, rfl, (by first | assumption | omega | exact q_rg_cpy (by assumption) (by assumption)), ⟨rfl, rfl, rfl, rfl, rfl⟩⟩), ?_⟩
    refine ⟨(show PX_B1_1 (va_cpy g_b1f1 b1f1 0 0 8) _ from ⟨_, rfl, rfl⟩), ?_⟩
    refine ⟨(show PX_B1_2 (va_cpy g_b1f2 b1f2 0 0 8) _ from ⟨_, rfl, rfl⟩), ?_⟩
    refine ⟨(show PX_B1_3 (va_cpy g_b1f3 b1f3 0 0 4) _ from ⟨_, rfl, (by first | assumption | omega | exact q_rg_cpy (by assumption) (by assumption)), rfl⟩), ?_⟩
    refine ⟨(show PX_B1_4 (va_cpy g_b1f4 b1f4 0 0 32) _ from ⟨_, rfl, rfl⟩), ?_⟩
    refine ⟨(show PX_B1_5 (va_cpy g_b1f5 b1f5 0 0 6) _ from ⟨_, rfl, rfl⟩), ?_⟩
    refine ⟨(show PX_B1_6 (va_cpy g_b1f6 b1f6 0 0 6) _ from ⟨_, rfl, rfl⟩), ?_⟩
    refine ⟨(show PX_B1_7 (va_cpy g_b1f7 b1f7 0 0 6) _ from ⟨_, rfl, rfl⟩), ?_⟩
    refine ⟨(show PT_B1 197 (U 212) _ from ⟨_, _, _, _, _, rfl, (by first | assumption | omega | exact q_rg_cpy (by assumption) (by assumption)), i9_8_1⟩), ?_⟩
    refine ⟨(show PT_B1_1 197 (F 213) _ from ⟨_, rfl, i9_9_0⟩), ?_⟩
    refine ⟨(show PT_B1_2 197 (F 214) _ from ⟨_, rfl, i9_10_0⟩), ?_⟩
    refine ⟨(show PT_B1_3 197 (F 215) _ from ⟨_, rfl, (by first | assumption | omega | exact q_rg_cpy (by assumption) (by assumption)), i9_11_1⟩), ?_⟩
    refine ⟨(show PT_B1_4 197 (F 216) _ from ⟨_, rfl, i9_12_0⟩), ?_⟩
    refine ⟨(show PT_B1_5 197 (F 217) _ from ⟨_, rfl, i9_13_0⟩), ?_⟩
    refine ⟨(show PT_B1_6 197 (F 218) _ from ⟨_, rfl, i9_14_0⟩), ?_⟩
    refine ⟨(show PT_B1_7 197 (F 219) _ from ⟨_, rfl, i9_15_0⟩), ?_⟩
    exact trivial

def sO_B_197t : qS := spY CL_197 out_197 (fun av => av = [q2 8, q2 204] ∨ av = [q2 16, q2 212]) (fun F U av r F' U' => r = none ∧ ∃ p s : Nat, av = [q2 p, q2 s] ∧ CpBlk [8, 8, 4, 32, 6, 6, 6] 5 p s F U F' U')
theorem mO_B_197t (l : Launch) : q_M l yX0_copy cX0_copy 2 none 1 68 sO_B_197t := by
  intro dC dI k g av w Q sz hs oka okw
  obtain ⟨F, U, h1, h2 | h2, h3⟩ := hs
  · exact mO_B0_197t l dC dI k g av w Q sz ⟨F, U, h1, h2, fun r F' U' w' a b c d => h3 r F' U' w' a b c ⟨d.1, _, _, h2, d.2⟩⟩ oka okw
  · exact mO_B1_197t l dC dI k g av w Q sz ⟨F, U, h1, h2, fun r F' U' w' a b c d => h3 r F' U' w' a b c ⟨d.1, _, _, h2, d.2⟩⟩ oka okw

def sO_Y0_197t : qS := spY CL_197 out_197 (fun av => av = [q2 24, q2 220]) (fun F U _ r F' U' => r = none ∧ CpBlk [40, 40, 40, 40] 1 24 220 F U F' U')
set_option maxHeartbeats 4000000 in
set_option maxRecDepth 100000 in
theorem mO_Y0_197t (l : Launch) : q_M l yX10_copy cX10_copy 2 none 1 68 sO_Y0_197t := by
  refine q_M_mono (fun av w Q h9 => ?_) (q_M_fr (m_X10_copy l))
  obtain ⟨F, U, h9, rfl, hQ9⟩ := h9
  obtain ⟨_, e9_0, y0d, rfl, i9_0_0, i9_0_1⟩ := h9 24 _ rfl
  obtain ⟨_, e9_1, y0k1, rfl, i9_1_0⟩ := h9 25 _ rfl
  obtain ⟨_, e9_2, y0k2, rfl, i9_2_0⟩ := h9 26 _ rfl
  obtain ⟨_, e9_3, y0k3, rfl, i9_3_0⟩ := h9 27 _ rfl
  obtain ⟨_, e9_4, y0k4, rfl, i9_4_0⟩ := h9 28 _ rfl
  obtain ⟨_, e9_5, g_y0d, rfl, i9_5_0, i9_5_1⟩ := h9 220 _ rfl
  obtain ⟨_, e9_6, g_y0k1, rfl, i9_6_0⟩ := h9 221 _ rfl
  obtain ⟨_, e9_7, g_y0k2, rfl, i9_7_0⟩ := h9 222 _ rfl
  obtain ⟨_, e9_8, g_y0k3, rfl, i9_8_0⟩ := h9 223 _ rfl
  obtain ⟨_, e9_9, g_y0k4, rfl, i9_9_0⟩ := h9 224 _ rfl
  refine ⟨[24, 25, 26, 27, 28, 220, 221, 222, 223, 224], [q2 0, q2 5], (wYo 0 y0k1 y0k2 y0k3 y0k4 y0d ++ wYo 5 g_y0k1 g_y0k2 g_y0k3 g_y0k4 g_y0d), rfl, ?_, rfl, ?_⟩
  · show [w[24]?, w[25]?, w[26]?, w[27]?, w[28]?, w[220]?, w[221]?, w[222]?, w[223]?, w[224]?] = _
    rw [e9_0, e9_1, e9_2, e9_3, e9_4, e9_5, e9_6, e9_7, e9_8, e9_9]
    rfl
  · refine ⟨y0k1, y0k2, y0k3, y0k4, y0d, g_y0k1, g_y0k2, g_y0k3, g_y0k4, g_y0d, rfl, rfl, fun hlen => ?_⟩
    refine hQ9 _ (fu (fu (fu (fu F 25 (va_cpy g_y0k1 y0k1 0 0 40)) 26 (va_cpy g_y0k2 y0k2 0 0 40)) 27 (va_cpy g_y0k3 y0k3 0 0 40)) 28 (va_cpy g_y0k4 y0k4 0 0 40)) (fu U 24 (vL [g_y0d])) _ (PW_bwC h9 rfl (fun i hi => CL_197_ne (fu_c (fun e => hi (by rw [e]; exact List.mem_of_getElem? (i := 4) rfl)) (fu_c (fun e => hi (by rw [e]; exact List.mem_of_getElem? (i := 3) rfl)) (fu_c (fun e => hi (by rw [e]; exact List.mem_of_getElem? (i := 2) rfl)) (fu_c (fun e => hi (by rw [e]; exact List.mem_of_getElem? (i := 1) rfl)) rfl)))) (fu_c (fun e => hi (by rw [e]; exact List.mem_of_getElem? (i := 0) rfl)) rfl)) rfl ?_) (by rw [q_bw_len]) (bw_outo (ps := [24, 25, 26, 27, 28, 220, 221, 222, 223, 224]) (fun p hp => by unfold out_197; revert p; decide)) ⟨rfl, (fun p (h1 : ¬ (24 ≤ p ∧ p ≤ 24 + ([40, 40, 40, 40] : List Nat).length)) => ⟨(fu_c (fun e9 => by simp only [List.length] at h1; omega) (fu_c (fun e9 => by simp only [List.length] at h1; omega) (fu_c (fun e9 => by simp only [List.length] at h1; omega) (fu_c (fun e9 => by simp only [List.length] at h1; omega) rfl)))), (fu_c (fun e9 => by simp only [List.length] at h1; omega) rfl)⟩), (by intro j hj i hi; match j, hj with | 0, _ => exact (cpy_lt hi).trans (congrFun i9_6_0 i) | 1, _ => exact (cpy_lt hi).trans (congrFun i9_7_0 i) | 2, _ => exact (cpy_lt hi).trans (congrFun i9_8_0 i) | 3, _ => exact (cpy_lt hi).trans (congrFun i9_9_0 i) | j + 4, hj => exact absurd hj (by simp)), (by intro i hi; match i, hi with | 0, _ => exact i9_5_1 | i + 1, hi => exact absurd hi (by omega))⟩
    refine ⟨(show PX_Y0 (vL [g_y0d]) _ from ⟨_, rfl, (by first | assumption | omega | exact q_rg_cpy (by assumption) (by assumption)), rfl⟩), ?_⟩
    refine ⟨(show PX_Y0_1 (va_cpy g_y0k1 y0k1 0 0 40) _ from ⟨_, rfl, rfl⟩), ?_⟩
    refine ⟨(show PX_Y0_2 (va_cpy g_y0k2 y0k2 0 0 40) _ from ⟨_, rfl, rfl⟩), ?_⟩
    refine ⟨(show PX_Y0_3 (va_cpy g_y0k3 y0k3 0 0 40) _ from ⟨_, rfl, rfl⟩), ?_⟩
    refine ⟨(show PX_Y0_4 (va_cpy g_y0k4 y0k4 0 0 40) _ from ⟨_, rfl, rfl⟩), ?_⟩
    refine ⟨(show PT_Y0 197 (U 220) _ from ⟨_, rfl, (by first | assumption | omega | exact q_rg_cpy (by assumption) (by assumption)), i9_5_1⟩), ?_⟩
    refine ⟨(show PT_Y0_1 197 (F 221) _ from ⟨_, rfl, i9_6_0⟩), ?_⟩
    refine ⟨(show PT_Y0_2 197 (F 222) _ from ⟨_, rfl, i9_7_0⟩), ?_⟩
    refine ⟨(show PT_Y0_3 197 (F 223) _ from ⟨_, rfl, i9_8_0⟩), ?_⟩
    refine ⟨(show PT_Y0_4 197 (F 224) _ from ⟨_, rfl, i9_9_0⟩), ?_⟩
    exact trivial

def sO_Y1_197t : qS := spY CL_197 out_197 (fun av => av = [q2 29, q2 225]) (fun F U _ r F' U' => r = none ∧ CpBlk [40, 40, 40, 40] 1 29 225 F U F' U')
set_option maxHeartbeats 4000000 in
set_option maxRecDepth 100000 in
theorem mO_Y1_197t (l : Launch) : q_M l yX10_copy cX10_copy 2 none 1 68 sO_Y1_197t := by
  refine q_M_mono (fun av w Q h9 => ?_) (q_M_fr (m_X10_copy l))
  obtain ⟨F, U, h9, rfl, hQ9⟩ := h9
  obtain ⟨_, e9_0, y1d, rfl, i9_0_0, i9_0_1⟩ := h9 29 _ rfl
  obtain ⟨_, e9_1, y1k1, rfl, i9_1_0⟩ := h9 30 _ rfl
  obtain ⟨_, e9_2, y1k2, rfl, i9_2_0⟩ := h9 31 _ rfl
  obtain ⟨_, e9_3, y1k3, rfl, i9_3_0⟩ := h9 32 _ rfl
  obtain ⟨_, e9_4, y1k4, rfl, i9_4_0⟩ := h9 33 _ rfl
  obtain ⟨_, e9_5, g_y1d, rfl, i9_5_0, i9_5_1⟩ := h9 225 _ rfl
  obtain ⟨_, e9_6, g_y1k1, rfl, i9_6_0⟩ := h9 226 _ rfl
  obtain ⟨_, e9_7, g_y1k2, rfl, i9_7_0⟩ := h9 227 _ rfl
  obtain ⟨_, e9_8, g_y1k3, rfl, i9_8_0⟩ := h9 228 _ rfl
  obtain ⟨_, e9_9, g_y1k4, rfl, i9_9_0⟩ := h9 229 _ rfl
  refine ⟨[29, 30, 31, 32, 33, 225, 226, 227, 228, 229], [q2 0, q2 5], (wYo 0 y1k1 y1k2 y1k3 y1k4 y1d ++ wYo 5 g_y1k1 g_y1k2 g_y1k3 g_y1k4 g_y1d), rfl, ?_, rfl, ?_⟩
  · show [w[29]?, w[30]?, w[31]?, w[32]?, w[33]?, w[225]?, w[226]?, w[227]?, w[228]?, w[229]?] = _
    rw [e9_0, e9_1, e9_2, e9_3, e9_4, e9_5, e9_6, e9_7, e9_8, e9_9]
    rfl
  · refine ⟨y1k1, y1k2, y1k3, y1k4, y1d, g_y1k1, g_y1k2, g_y1k3, g_y1k4, g_y1d, rfl, rfl, fun hlen => ?_⟩
    refine hQ9 _ (fu (fu (fu (fu F 30 (va_cpy g_y1k1 y1k1 0 0 40)) 31 (va_cpy g_y1k2 y1k2 0 0 40)) 32 (va_cpy g_y1k3 y1k3 0 0 40)) 33 (va_cpy g_y1k4 y1k4 0 0 40)) (fu U 29 (vL [g_y1d])) _ (PW_bwC h9 rfl (fun i hi => CL_197_ne (fu_c (fun e => hi (by rw [e]; exact List.mem_of_getElem? (i := 4) rfl)) (fu_c (fun e => hi (by rw [e]; exact List.mem_of_getElem? (i := 3) rfl)) (fu_c (fun e => hi (by rw [e]; exact List.mem_of_getElem? (i := 2) rfl)) (fu_c (fun e => hi (by rw [e]; exact List.mem_of_getElem? (i := 1) rfl)) rfl)))) (fu_c (fun e => hi (by rw [e]; exact List.mem_of_getElem? (i := 0) rfl)) rfl)) rfl ?_) (by rw [q_bw_len]) (bw_outo (ps := [29, 30, 31, 32, 33, 225, 226, 227, 228, 229]) (fun p hp => by unfold out_197; revert p; decide)) ⟨rfl, (fun p (h1 : ¬ (29 ≤ p ∧ p ≤ 29 + ([40, 40, 40, 40] : List Nat).length)) => ⟨(fu_c (fun e9 => by simp only [List.length] at h1; omega) (fu_c (fun e9 => by simp only [List.length] at h1; omega) (fu_c (fun e9 => by simp only [List.length] at h1; omega) (fu_c (fun e9 => by simp only [List.length] at h1; omega) rfl)))), (fu_c (fun e9 => by simp only [List.length] at h1; omega) rfl)⟩), (by intro j hj i hi; match j, hj with | 0, _ => exact (cpy_lt hi).trans (congrFun i9_6_0 i) | 1, _ => exact (cpy_lt hi).trans (congrFun i9_7_0 i) | 2, _ => exact (cpy_lt hi).trans (congrFun i9_8_0 i) | 3, _ => exact (cpy_lt hi).trans (congrFun i9_9_0 i) | j + 4, hj => exact absurd hj (by simp)), (by intro i hi; match i, hi with | 0, _ => exact i9_5_1 | i + 1, hi => exact absurd hi (by omega))⟩
    refine ⟨(show PX_Y1 (vL [g_y1d]) _ from ⟨_, rfl, (by first | assumption | omega | exact q_rg_cpy (by assumption) (by assumption)), rfl⟩), ?_⟩
    refine ⟨(show PX_Y1_1 (va_cpy g_y1k1 y1k1 0 0 40) _ from ⟨_, rfl, rfl⟩), ?_⟩
    refine ⟨(show PX_Y1_2 (va_cpy g_y1k2 y1k2 0 0 40) _ from ⟨_, rfl, rfl⟩), ?_⟩
    refine ⟨(show PX_Y1_3 (va_cpy g_y1k3 y1k3 0 0 40) _ from ⟨_, rfl, rfl⟩), ?_⟩
    refine ⟨(show PX_Y1_4 (va_cpy g_y1k4 y1k4 0 0 40) _ from ⟨_, rfl, rfl⟩), ?_⟩
    refine ⟨(show PT_Y1 197 (U 225) _ from ⟨_, rfl, (by first | assumption | omega | exact q_rg_cpy (by assumption) (by assumption)), i9_5_1⟩), ?_⟩
    refine ⟨(show PT_Y1_1 197 (F 226) _ from ⟨_, rfl, i9_6_0⟩), ?_⟩
    refine ⟨(show PT_Y1_2 197 (F 227) _ from ⟨_, rfl, i9_7_0⟩), ?_⟩
    refine ⟨(show PT_Y1_3 197 (F 228) _ from ⟨_, rfl, i9_8_0⟩), ?_⟩
    refine ⟨(show PT_Y1_4 197 (F 229) _ from ⟨_, rfl, i9_9_0⟩), ?_⟩
    exact trivial

def sO_Y_197t : qS := spY CL_197 out_197 (fun av => av = [q2 24, q2 220] ∨ av = [q2 29, q2 225]) (fun F U av r F' U' => r = none ∧ ∃ p s : Nat, av = [q2 p, q2 s] ∧ CpBlk [40, 40, 40, 40] 1 p s F U F' U')
theorem mO_Y_197t (l : Launch) : q_M l yX10_copy cX10_copy 2 none 1 68 sO_Y_197t := by
  intro dC dI k g av w Q sz hs oka okw
  obtain ⟨F, U, h1, h2 | h2, h3⟩ := hs
  · exact mO_Y0_197t l dC dI k g av w Q sz ⟨F, U, h1, h2, fun r F' U' w' a b c d => h3 r F' U' w' a b c ⟨d.1, _, _, h2, d.2⟩⟩ oka okw
  · exact mO_Y1_197t l dC dI k g av w Q sz ⟨F, U, h1, h2, fun r F' U' w' a b c d => h3 r F' U' w' a b c ⟨d.1, _, _, h2, d.2⟩⟩ oka okw

def sO_L0_197t : qS := spY CL_197 out_197 (fun av => av = [q2 34, q2 230]) (fun F U _ r F' U' => r = none ∧ CpBlk [8] 1 34 230 F U F' U')
set_option maxHeartbeats 4000000 in
set_option maxRecDepth 100000 in
theorem mO_L0_197t (l : Launch) : q_M l yX3_copy cX3_copy 2 none 1 68 sO_L0_197t := by
  refine q_M_mono (fun av w Q h9 => ?_) (q_M_fr (m_X3_copy l))
  obtain ⟨F, U, h9, rfl, hQ9⟩ := h9
  obtain ⟨_, e9_0, l0o, rfl, i9_0_0⟩ := h9 34 _ rfl
  obtain ⟨_, e9_1, l0g, rfl, i9_1_0⟩ := h9 35 _ rfl
  obtain ⟨_, e9_2, g_l0o, rfl, i9_2_0⟩ := h9 230 _ rfl
  obtain ⟨_, e9_3, g_l0g, rfl, i9_3_0⟩ := h9 231 _ rfl
  refine ⟨[34, 35, 230, 231], [q2 0, q2 2], (wLo 0 l0g l0o ++ wLo 2 g_l0g g_l0o), rfl, ?_, rfl, ?_⟩
  · show [w[34]?, w[35]?, w[230]?, w[231]?] = _
    rw [e9_0, e9_1, e9_2, e9_3]
    rfl
  · refine ⟨l0g, l0o, g_l0g, g_l0o, rfl, rfl, fun hlen => ?_⟩
    refine hQ9 _ (fu F 35 (va_cpy g_l0g l0g 0 0 8)) (fu U 34 (vL [g_l0o])) _ (PW_bwC h9 rfl (fun i hi => CL_197_ne (fu_c (fun e => hi (by rw [e]; exact List.mem_of_getElem? (i := 1) rfl)) rfl) (fu_c (fun e => hi (by rw [e]; exact List.mem_of_getElem? (i := 0) rfl)) rfl)) rfl ?_) (by rw [q_bw_len]) (bw_outo (ps := [34, 35, 230, 231]) (fun p hp => by unfold out_197; revert p; decide)) ⟨rfl, (fun p (h1 : ¬ (34 ≤ p ∧ p ≤ 34 + ([8] : List Nat).length)) => ⟨(fu_c (fun e9 => by simp only [List.length] at h1; omega) rfl), (fu_c (fun e9 => by simp only [List.length] at h1; omega) rfl)⟩), (by intro j hj i hi; match j, hj with | 0, _ => exact (cpy_lt hi).trans (congrFun i9_3_0 i) | j + 1, hj => exact absurd hj (by simp)), (by intro i hi; match i, hi with | 0, _ => exact i9_2_0 | i + 1, hi => exact absurd hi (by omega))⟩
    refine ⟨(show PX_L0 (vL [g_l0o]) _ from ⟨_, rfl, rfl⟩), ?_⟩
    refine ⟨(show PX_L0_1 (va_cpy g_l0g l0g 0 0 8) _ from ⟨_, rfl, rfl⟩), ?_⟩
    refine ⟨(show PT_L0 197 (U 230) _ from ⟨_, rfl, i9_2_0⟩), ?_⟩
    refine ⟨(show PT_L0_1 197 (F 231) _ from ⟨_, rfl, i9_3_0⟩), ?_⟩
    exact trivial

def sO_L1_197t : qS := spY CL_197 out_197 (fun av => av = [q2 36, q2 232]) (fun F U _ r F' U' => r = none ∧ CpBlk [8] 1 36 232 F U F' U')
set_option maxHeartbeats 4000000 in
set_option maxRecDepth 100000 in
theorem mO_L1_197t (l : Launch) : q_M l yX3_copy cX3_copy 2 none 1 68 sO_L1_197t := by
  refine q_M_mono (fun av w Q h9 => ?_) (q_M_fr (m_X3_copy l))
  obtain ⟨F, U, h9, rfl, hQ9⟩ := h9
  obtain ⟨_, e9_0, l1o, rfl, i9_0_0⟩ := h9 36 _ rfl
  obtain ⟨_, e9_1, l1g, rfl, i9_1_0⟩ := h9 37 _ rfl
  obtain ⟨_, e9_2, g_l1o, rfl, i9_2_0⟩ := h9 232 _ rfl
  obtain ⟨_, e9_3, g_l1g, rfl, i9_3_0⟩ := h9 233 _ rfl
  refine ⟨[36, 37, 232, 233], [q2 0, q2 2], (wLo 0 l1g l1o ++ wLo 2 g_l1g g_l1o), rfl, ?_, rfl, ?_⟩
  · show [w[36]?, w[37]?, w[232]?, w[233]?] = _
    rw [e9_0, e9_1, e9_2, e9_3]
    rfl
  · refine ⟨l1g, l1o, g_l1g, g_l1o, rfl, rfl, fun hlen => ?_⟩
    refine hQ9 _ (fu F 37 (va_cpy g_l1g l1g 0 0 8)) (fu U 36 (vL [g_l1o])) _ (PW_bwC h9 rfl (fun i hi => CL_197_ne (fu_c (fun e => hi (by rw [e]; exact List.mem_of_getElem? (i := 1) rfl)) rfl) (fu_c (fun e => hi (by rw [e]; exact List.mem_of_getElem? (i := 0) rfl)) rfl)) rfl ?_) (by rw [q_bw_len]) (bw_outo (ps := [36, 37, 232, 233]) (fun p hp => by unfold out_197; revert p; decide)) ⟨rfl, (fun p (h1 : ¬ (36 ≤ p ∧ p ≤ 36 + ([8] : List Nat).length)) => ⟨(fu_c (fun e9 => by simp only [List.length] at h1; omega) rfl), (fu_c (fun e9 => by simp only [List.length] at h1; omega) rfl)⟩), (by intro j hj i hi; match j, hj with | 0, _ => exact (cpy_lt hi).trans (congrFun i9_3_0 i) | j + 1, hj => exact absurd hj (by simp)), (by intro i hi; match i, hi with | 0, _ => exact i9_2_0 | i + 1, hi => exact absurd hi (by omega))⟩
    refine ⟨(show PX_L1 (vL [g_l1o]) _ from ⟨_, rfl, rfl⟩), ?_⟩
    refine ⟨(show PX_L1_1 (va_cpy g_l1g l1g 0 0 8) _ from ⟨_, rfl, rfl⟩), ?_⟩
    refine ⟨(show PT_L1 197 (U 232) _ from ⟨_, rfl, i9_2_0⟩), ?_⟩
    refine ⟨(show PT_L1_1 197 (F 233) _ from ⟨_, rfl, i9_3_0⟩), ?_⟩
    exact trivial

def sO_L_197t : qS := spY CL_197 out_197 (fun av => av = [q2 34, q2 230] ∨ av = [q2 36, q2 232]) (fun F U av r F' U' => r = none ∧ ∃ p s : Nat, av = [q2 p, q2 s] ∧ CpBlk [8] 1 p s F U F' U')
theorem mO_L_197t (l : Launch) : q_M l yX3_copy cX3_copy 2 none 1 68 sO_L_197t := by
  intro dC dI k g av w Q sz hs oka okw
  obtain ⟨F, U, h1, h2 | h2, h3⟩ := hs
  · exact mO_L0_197t l dC dI k g av w Q sz ⟨F, U, h1, h2, fun r F' U' w' a b c d => h3 r F' U' w' a b c ⟨d.1, _, _, h2, d.2⟩⟩ oka okw
  · exact mO_L1_197t l dC dI k g av w Q sz ⟨F, U, h1, h2, fun r F' U' w' a b c d => h3 r F' U' w' a b c ⟨d.1, _, _, h2, d.2⟩⟩ oka okw

def sO_S0_197t : qS := spY CL_197 out_197 (fun av => av = [q2 38, q2 234]) (fun F U _ r F' U' => r = none ∧ CpBlk [10, 10] 1 38 234 F U F' U')
set_option maxHeartbeats 4000000 in
set_option maxRecDepth 100000 in
theorem mO_S0_197t (l : Launch) : q_M l yX7_copy cX7_copy 2 none 1 68 sO_S0_197t := by
  refine q_M_mono (fun av w Q h9 => ?_) (q_M_fr (m_X7_copy l))
  obtain ⟨F, U, h9, rfl, hQ9⟩ := h9
  obtain ⟨_, e9_0, s0c, rfl, i9_0_0, i9_0_1⟩ := h9 38 _ rfl
  obtain ⟨_, e9_1, s0p, rfl, i9_1_0⟩ := h9 39 _ rfl
  obtain ⟨_, e9_2, s0t, rfl, i9_2_0⟩ := h9 40 _ rfl
  obtain ⟨_, e9_3, g_s0c, rfl, i9_3_0, i9_3_1⟩ := h9 234 _ rfl
  obtain ⟨_, e9_4, g_s0p, rfl, i9_4_0⟩ := h9 235 _ rfl
  obtain ⟨_, e9_5, g_s0t, rfl, i9_5_0⟩ := h9 236 _ rfl
  refine ⟨[38, 39, 40, 234, 235, 236], [q2 0, q2 3], (wSo 0 s0p s0t s0c ++ wSo 3 g_s0p g_s0t g_s0c), rfl, ?_, rfl, ?_⟩
  · show [w[38]?, w[39]?, w[40]?, w[234]?, w[235]?, w[236]?] = _
    rw [e9_0, e9_1, e9_2, e9_3, e9_4, e9_5]
    rfl
  · refine ⟨s0p, s0t, s0c, g_s0p, g_s0t, g_s0c, rfl, rfl, fun hlen => ?_⟩
    refine hQ9 _ (fu (fu F 39 (va_cpy g_s0p s0p 0 0 10)) 40 (va_cpy g_s0t s0t 0 0 10)) (fu U 38 (vL [g_s0c])) _ (PW_bwC h9 rfl (fun i hi => CL_197_ne (fu_c (fun e => hi (by rw [e]; exact List.mem_of_getElem? (i := 2) rfl)) (fu_c (fun e => hi (by rw [e]; exact List.mem_of_getElem? (i := 1) rfl)) rfl)) (fu_c (fun e => hi (by rw [e]; exact List.mem_of_getElem? (i := 0) rfl)) rfl)) rfl ?_) (by rw [q_bw_len]) (bw_outo (ps := [38, 39, 40, 234, 235, 236]) (fun p hp => by unfold out_197; revert p; decide)) ⟨rfl, (fun p (h1 : ¬ (38 ≤ p ∧ p ≤ 38 + ([10, 10] : List Nat).length)) => ⟨(fu_c (fun e9 => by simp only [List.length] at h1; omega) (fu_c (fun e9 => by simp only [List.length] at h1; omega) rfl)), (fu_c (fun e9 => by simp only [List.length] at h1; omega) rfl)⟩), (by intro j hj i hi; match j, hj with | 0, _ => exact (cpy_lt hi).trans (congrFun i9_4_0 i) | 1, _ => exact (cpy_lt hi).trans (congrFun i9_5_0 i) | j + 2, hj => exact absurd hj (by simp)), (by intro i hi; match i, hi with | 0, _ => exact i9_3_1 | i + 1, hi => exact absurd hi (by omega))⟩
    refine ⟨(show PX_S0 (vL [g_s0c]) _ from ⟨_, rfl, (by first | assumption | omega | exact q_rg_cpy (by assumption) (by assumption)), rfl⟩), ?_⟩
    refine ⟨(show PX_S0_1 (va_cpy g_s0p s0p 0 0 10) _ from ⟨_, rfl, rfl⟩), ?_⟩
    refine ⟨(show PX_S0_2 (va_cpy g_s0t s0t 0 0 10) _ from ⟨_, rfl, rfl⟩), ?_⟩
    refine ⟨(show PT_S0 197 (U 234) _ from ⟨_, rfl, (by first | assumption | omega | exact q_rg_cpy (by assumption) (by assumption)), i9_3_1⟩), ?_⟩
    refine ⟨(show PT_S0_1 197 (F 235) _ from ⟨_, rfl, i9_4_0⟩), ?_⟩
    refine ⟨(show PT_S0_2 197 (F 236) _ from ⟨_, rfl, i9_5_0⟩), ?_⟩
    exact trivial

def sO_S1_197t : qS := spY CL_197 out_197 (fun av => av = [q2 41, q2 237]) (fun F U _ r F' U' => r = none ∧ CpBlk [10, 10] 1 41 237 F U F' U')
set_option maxHeartbeats 4000000 in
set_option maxRecDepth 100000 in
theorem mO_S1_197t (l : Launch) : q_M l yX7_copy cX7_copy 2 none 1 68 sO_S1_197t := by
  refine q_M_mono (fun av w Q h9 => ?_) (q_M_fr (m_X7_copy l))
  obtain ⟨F, U, h9, rfl, hQ9⟩ := h9
  obtain ⟨_, e9_0, s1c, rfl, i9_0_0, i9_0_1⟩ := h9 41 _ rfl
  obtain ⟨_, e9_1, s1p, rfl, i9_1_0⟩ := h9 42 _ rfl
  obtain ⟨_, e9_2, s1t, rfl, i9_2_0⟩ := h9 43 _ rfl
  obtain ⟨_, e9_3, g_s1c, rfl, i9_3_0, i9_3_1⟩ := h9 237 _ rfl
  obtain ⟨_, e9_4, g_s1p, rfl, i9_4_0⟩ := h9 238 _ rfl
  obtain ⟨_, e9_5, g_s1t, rfl, i9_5_0⟩ := h9 239 _ rfl
  refine ⟨[41, 42, 43, 237, 238, 239], [q2 0, q2 3], (wSo 0 s1p s1t s1c ++ wSo 3 g_s1p g_s1t g_s1c), rfl, ?_, rfl, ?_⟩
  · show [w[41]?, w[42]?, w[43]?, w[237]?, w[238]?, w[239]?] = _
    rw [e9_0, e9_1, e9_2, e9_3, e9_4, e9_5]
    rfl
  · refine ⟨s1p, s1t, s1c, g_s1p, g_s1t, g_s1c, rfl, rfl, fun hlen => ?_⟩
    refine hQ9 _ (fu (fu F 42 (va_cpy g_s1p s1p 0 0 10)) 43 (va_cpy g_s1t s1t 0 0 10)) (fu U 41 (vL [g_s1c])) _ (PW_bwC h9 rfl (fun i hi => CL_197_ne (fu_c (fun e => hi (by rw [e]; exact List.mem_of_getElem? (i := 2) rfl)) (fu_c (fun e => hi (by rw [e]; exact List.mem_of_getElem? (i := 1) rfl)) rfl)) (fu_c (fun e => hi (by rw [e]; exact List.mem_of_getElem? (i := 0) rfl)) rfl)) rfl ?_) (by rw [q_bw_len]) (bw_outo (ps := [41, 42, 43, 237, 238, 239]) (fun p hp => by unfold out_197; revert p; decide)) ⟨rfl, (fun p (h1 : ¬ (41 ≤ p ∧ p ≤ 41 + ([10, 10] : List Nat).length)) => ⟨(fu_c (fun e9 => by simp only [List.length] at h1; omega) (fu_c (fun e9 => by simp only [List.length] at h1; omega) rfl)), (fu_c (fun e9 => by simp only [List.length] at h1; omega) rfl)⟩), (by intro j hj i hi; match j, hj with | 0, _ => exact (cpy_lt hi).trans (congrFun i9_4_0 i) | 1, _ => exact (cpy_lt hi).trans (congrFun i9_5_0 i) | j + 2, hj => exact absurd hj (by simp)), (by intro i hi; match i, hi with | 0, _ => exact i9_3_1 | i + 1, hi => exact absurd hi (by omega))⟩
    refine ⟨(show PX_S1 (vL [g_s1c]) _ from ⟨_, rfl, (by first | assumption | omega | exact q_rg_cpy (by assumption) (by assumption)), rfl⟩), ?_⟩
    refine ⟨(show PX_S1_1 (va_cpy g_s1p s1p 0 0 10) _ from ⟨_, rfl, rfl⟩), ?_⟩
    refine ⟨(show PX_S1_2 (va_cpy g_s1t s1t 0 0 10) _ from ⟨_, rfl, rfl⟩), ?_⟩
    refine ⟨(show PT_S1 197 (U 237) _ from ⟨_, rfl, (by first | assumption | omega | exact q_rg_cpy (by assumption) (by assumption)), i9_3_1⟩), ?_⟩
    refine ⟨(show PT_S1_1 197 (F 238) _ from ⟨_, rfl, i9_4_0⟩), ?_⟩
    refine ⟨(show PT_S1_2 197 (F 239) _ from ⟨_, rfl, i9_5_0⟩), ?_⟩
    exact trivial

def sO_S_197t : qS := spY CL_197 out_197 (fun av => av = [q2 38, q2 234] ∨ av = [q2 41, q2 237]) (fun F U av r F' U' => r = none ∧ ∃ p s : Nat, av = [q2 p, q2 s] ∧ CpBlk [10, 10] 1 p s F U F' U')
theorem mO_S_197t (l : Launch) : q_M l yX7_copy cX7_copy 2 none 1 68 sO_S_197t := by
  intro dC dI k g av w Q sz hs oka okw
  obtain ⟨F, U, h1, h2 | h2, h3⟩ := hs
  · exact mO_S0_197t l dC dI k g av w Q sz ⟨F, U, h1, h2, fun r F' U' w' a b c d => h3 r F' U' w' a b c ⟨d.1, _, _, h2, d.2⟩⟩ oka okw
  · exact mO_S1_197t l dC dI k g av w Q sz ⟨F, U, h1, h2, fun r F' U' w' a b c d => h3 r F' U' w' a b c ⟨d.1, _, _, h2, d.2⟩⟩ oka okw
