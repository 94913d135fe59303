def sO_B0_197i (ln : Int) (siz kp : Nat → Int) (u : Int) : qS := spO (CL_197 ln siz kp u) out_197 (fun r => r = none) (fun av => av = [q2 204, q2 8])
set_option maxHeartbeats 2000000 in
set_option maxRecDepth 100000 in
theorem mO_B0_197i (l : Launch) (ln : Int) (siz kp : Nat → Int) (u : Int) : q_M l yX0_copy cX0_copy 2 none 1 68 (sO_B0_197i ln siz kp u) := by
  refine q_M_mono (fun av w Q h9 => ?_) (q_M_fr (m_X0_copy l))
  obtain ⟨h9, rfl, hQ9⟩ := h9
  obtain ⟨_, e9_0, b0u0, b0u1, b0u2, b0u3, b0u4, rfl, i9_0_0⟩ := h9 204 _ rfl
  obtain ⟨_, e9_1, b0f1, rfl⟩ := h9 205 _ rfl
  obtain ⟨_, e9_2, b0f2, rfl⟩ := h9 206 _ rfl
  obtain ⟨_, e9_3, b0f3, rfl, i9_3_0⟩ := h9 207 _ rfl
  obtain ⟨_, e9_4, b0f4, rfl⟩ := h9 208 _ rfl
  obtain ⟨_, e9_5, b0f5, rfl⟩ := h9 209 _ rfl
  obtain ⟨_, e9_6, b0f6, rfl⟩ := h9 210 _ rfl
  obtain ⟨_, e9_7, b0f7, rfl⟩ := h9 211 _ rfl
  obtain ⟨_, e9_8, g_b0u0, g_b0u1, g_b0u2, g_b0u3, g_b0u4, rfl, i9_8_0⟩ := h9 8 _ rfl
  obtain ⟨_, e9_9, g_b0f1, rfl⟩ := h9 9 _ rfl
  obtain ⟨_, e9_10, g_b0f2, rfl⟩ := h9 10 _ rfl
  obtain ⟨_, e9_11, g_b0f3, rfl, i9_11_0⟩ := h9 11 _ rfl
  obtain ⟨_, e9_12, g_b0f4, rfl⟩ := h9 12 _ rfl
  obtain ⟨_, e9_13, g_b0f5, rfl⟩ := h9 13 _ rfl
  obtain ⟨_, e9_14, g_b0f6, rfl⟩ := h9 14 _ rfl
  obtain ⟨_, e9_15, g_b0f7, rfl⟩ := h9 15 _ rfl
  refine ⟨[204, 205, 206, 207, 208, 209, 210, 211, 8, 9, 10, 11, 12, 13, 14, 15], [q2 0, q2 8], (wBo 0 b0f1 b0f2 b0f3 b0f4 b0f5 b0f6 b0f7 b0u0 b0u1 b0u2 b0u3 b0u4 ++ wBo 8 g_b0f1 g_b0f2 g_b0f3 g_b0f4 g_b0f5 g_b0f6 g_b0f7 g_b0u0 g_b0u1 g_b0u2 g_b0u3 g_b0u4), rfl, ?_, rfl, ?_⟩
  · show [w[204]?, w[205]?, w[206]?, w[207]?, w[208]?, w[209]?, w[210]?, w[211]?, w[8]?, w[9]?, w[10]?, w[11]?, w[12]?, w[13]?, w[14]?, w[15]?] = _
    rw [e9_0, e9_1, e9_2, e9_3, e9_4, e9_5, e9_6, e9_7, e9_8, e9_9, e9_10, e9_11, e9_12, e9_13, e9_14, e9_15]
    rfl
  · refine ⟨b0f1, b0f2, b0f3, b0f4, b0f5, b0f6, b0f7, b0u0, b0u1, b0u2, b0u3, b0u4, g_b0f1, g_b0f2, g_b0f3, g_b0f4, g_b0f5, g_b0f6, g_b0f7, g_b0u0, g_b0u1, g_b0u2, g_b0u3, g_b0u4, rfl, rfl, fun hlen => ?_⟩
    refine hQ9 _ _ (PW_bw h9 rfl ?_) (by rw [q_bw_len]) (bw_outo (ps := [204, 205, 206, 207, 208, 209, 210, 211, 8, 9, 10, 11, 12, 13, 14, 15]) (fun p hp => by unfold out_197; revert p; decide)) rfl
    refine ⟨(show PT_B0 197 _ from ⟨_, _, _, _, _, rfl, (by first | assumption | omega | exact q_rg_cpy (by assumption) (by assumption))⟩), ?_⟩
    refine ⟨(show PT_B0_1 197 _ from ⟨_, rfl⟩), ?_⟩
    refine ⟨(show PT_B0_2 197 _ from ⟨_, rfl⟩), ?_⟩
    refine ⟨(show PT_B0_3 197 _ from ⟨_, rfl, (by first | assumption | omega | exact q_rg_cpy (by assumption) (by assumption))⟩), ?_⟩
    refine ⟨(show PT_B0_4 197 _ from ⟨_, rfl⟩), ?_⟩
    refine ⟨(show PT_B0_5 197 _ from ⟨_, rfl⟩), ?_⟩
    refine ⟨(show PT_B0_6 197 _ from ⟨_, rfl⟩), ?_⟩
    refine ⟨(show PT_B0_7 197 _ from ⟨_, rfl⟩), ?_⟩
    refine ⟨(show PX_B0 _ from ⟨_, _, _, _, _, rfl, (by first | assumption | omega | exact q_rg_cpy (by assumption) (by assumption))⟩), ?_⟩
    refine ⟨(show PX_B0_1 _ from ⟨_, rfl⟩), ?_⟩
    refine ⟨(show PX_B0_2 _ from ⟨_, rfl⟩), ?_⟩
    refine ⟨(show PX_B0_3 _ from ⟨_, rfl, (by first | assumption | omega | exact q_rg_cpy (by assumption) (by assumption))⟩), ?_⟩
    refine ⟨(show PX_B0_4 _ from ⟨_, rfl⟩), ?_⟩
    refine ⟨(show PX_B0_5 _ from ⟨_, rfl⟩), ?_⟩
    refine ⟨(show PX_B0_6 _ from ⟨_, rfl⟩), ?_⟩
    refine ⟨(show PX_B0_7 _ from ⟨_, rfl⟩), ?_⟩
    exact trivial

def sO_B1_197i (ln : Int) (siz kp : Nat → Int) (u : Int) : qS := spO (CL_197 ln siz kp u) out_197 (fun r => r = none) (fun av => av = [q2 212, q2 16])
set_option maxHeartbeats 2000000 in
set_option maxRecDepth 100000 in
theorem mO_B1_197i (l : Launch) (ln : Int) (siz kp : Nat → Int) (u : Int) : q_M l yX0_copy cX0_copy 2 none 1 68 (sO_B1_197i ln siz kp u) := by
  refine q_M_mono (fun av w Q h9 => ?_) (q_M_fr (m_X0_copy l))
  obtain ⟨h9, rfl, hQ9⟩ := h9
  obtain ⟨_, e9_0, b1u0, b1u1, b1u2, b1u3, b1u4, rfl, i9_0_0⟩ := h9 212 _ rfl
  obtain ⟨_, e9_1, b1f1, rfl⟩ := h9 213 _ rfl
  obtain ⟨_, e9_2, b1f2, rfl⟩ := h9 214 _ rfl
  obtain ⟨_, e9_3, b1f3, rfl, i9_3_0⟩ := h9 215 _ rfl
  obtain ⟨_, e9_4, b1f4, rfl⟩ := h9 216 _ rfl
  obtain ⟨_, e9_5, b1f5, rfl⟩ := h9 217 _ rfl
  obtain ⟨_, e9_6, b1f6, rfl⟩ := h9 218 _ rfl
  obtain ⟨_, e9_7, b1f7, rfl⟩ := h9 219 _ rfl
  obtain ⟨_, e9_8, g_b1u0, g_b1u1, g_b1u2, g_b1u3, g_b1u4, rfl, i9_8_0⟩ := h9 16 _ rfl
  obtain ⟨_, e9_9, g_b1f1, rfl⟩ := h9 17 _ rfl
  obtain ⟨_, e9_10, g_b1f2, rfl⟩ := h9 18 _ rfl
  obtain ⟨_, e9_11, g_b1f3, rfl, i9_11_0⟩ := h9 19 _ rfl
  obtain ⟨_, e9_12, g_b1f4, rfl⟩ := h9 20 _ rfl
  obtain ⟨_, e9_13, g_b1f5, rfl⟩ := h9 21 _ rfl
  obtain ⟨_, e9_14, g_b1f6, rfl⟩ := h9 22 _ rfl
  obtain ⟨_, e9_15, g_b1f7, rfl⟩ := h9 23 _ rfl
  refine ⟨[212, 213, 214, 215, 216, 217, 218, 219, 16, 17, 18, 19, 20, 21, 22, 23], [q2 0, q2 8], (wBo 0 b1f1 b1f2 b1f3 b1f4 b1f5 b1f6 b1f7 b1u0 b1u1 b1u2 b1u3 b1u4 ++ wBo 8 g_b1f1 g_b1f2 g_b1f3 g_b1f4 g_b1f5 g_b1f6 g_b1f7 g_b1u0 g_b1u1 g_b1u2 g_b1u3 g_b1u4), rfl, ?_, rfl, ?_⟩
  · show [w[212]?, w[213]?, w[214]?, w[215]?, w[216]?, w[217]?, w[218]?, w[219]?, w[16]?, w[17]?, w[18]?, w[19]?, w[20]?, w[21]?, w[22]?, w[23]?] = _
    rw [e9_0, e9_1, e9_2, e9_3, e9_4, e9_5, e9_6, e9_7, e9_8, e9_9, e9_10, e9_11, e9_12, e9_13, e9_14, e9_15]
    rfl
  · refine ⟨b1f1, b1f2, b1f3, b1f4, b1f5, b1f6, b1f7, b1u0, b1u1, b1u2, b1u3, b1u4, g_b1f1, g_b1f2, g_b1f3, g_b1f4, g_b1f5, g_b1f6, g_b1f7, g_b1u0, g_b1u1, g_b1u2, g_b1u3, g_b1u4, rfl, rfl, fun hlen => ?_⟩
    refine hQ9 _ _ (PW_bw h9 rfl ?_) (by rw [q_bw_len]) (bw_outo (ps := [212, 213, 214, 215, 216, 217, 218, 219, 16, 17, 18, 19, 20, 21, 22, 23]) (fun p hp => by unfold out_197; revert p; decide)) rfl
    refine ⟨(show PT_B1 197 _ from ⟨_, _, _, _, _, rfl, (by first | assumption | omega | exact q_rg_cpy (by assumption) (by assumption))⟩), ?_⟩
    refine ⟨(show PT_B1_1 197 _ from ⟨_, rfl⟩), ?_⟩
    refine ⟨(show PT_B1_2 197 _ from ⟨_, rfl⟩), ?_⟩
    refine ⟨(show PT_B1_3 197 _ from ⟨_, rfl, (by first | assumption | omega | exact q_rg_cpy (by assumption) (by assumption))⟩), ?_⟩
    refine ⟨(show PT_B1_4 197 _ from ⟨_, rfl⟩), ?_⟩
    refine ⟨(show PT_B1_5 197 _ from ⟨_, rfl⟩), ?_⟩
    refine ⟨(show PT_B1_6 197 _ from ⟨_, rfl⟩), ?_⟩
    refine ⟨(show PT_B1_7 197 _ from ⟨_, rfl⟩), ?_⟩
    refine ⟨(show PX_B1 _ from ⟨_, _, _, _, _, rfl, (by first | assumption | omega | exact q_rg_cpy (by assumption) (by assumption))⟩), ?_⟩
    refine ⟨(show PX_B1_1 _ from ⟨_, rfl⟩), ?_⟩
    refine ⟨(show PX_B1_2 _ from ⟨_, rfl⟩), ?_⟩
    refine ⟨(show PX_B1_3 _ from ⟨_, rfl, (by first | assumption | omega | exact q_rg_cpy (by assumption) (by assumption))⟩), ?_⟩
    refine ⟨(show PX_B1_4 _ from ⟨_, rfl⟩), ?_⟩
    refine ⟨(show PX_B1_5 _ from ⟨_, rfl⟩), ?_⟩
    refine ⟨(show PX_B1_6 _ from ⟨_, rfl⟩), ?_⟩
    refine ⟨(show PX_B1_7 _ from ⟨_, rfl⟩), ?_⟩
    exact trivial

def sO_B_197i (ln : Int) (siz kp : Nat → Int) (u : Int) : qS := spO (CL_197 ln siz kp u) out_197 (fun r => r = none) (fun av => av = [q2 204, q2 8] ∨ av = [q2 212, q2 16])
theorem mO_B_197i (l : Launch) (ln : Int) (siz kp : Nat → Int) (u : Int) : q_M l yX0_copy cX0_copy 2 none 1 68 (sO_B_197i ln siz kp u) := by
  intro dC dI k g av w Q sz hs oka okw
  obtain ⟨h1, h2 | h2, h3⟩ := hs
  · exact mO_B0_197i l ln siz kp u dC dI k g av w Q sz ⟨h1, h2, h3⟩ oka okw
  · exact mO_B1_197i l ln siz kp u dC dI k g av w Q sz ⟨h1, h2, h3⟩ oka okw

def sO_Y0_197i (ln : Int) (siz kp : Nat → Int) (u : Int) : qS := spO (CL_197 ln siz kp u) out_197 (fun r => r = none) (fun av => av = [q2 220, q2 24])
set_option maxHeartbeats 2000000 in
set_option maxRecDepth 100000 in
theorem mO_Y0_197i (l : Launch) (ln : Int) (siz kp : Nat → Int) (u : Int) : q_M l yX10_copy cX10_copy 2 none 1 68 (sO_Y0_197i ln siz kp u) := by
  refine q_M_mono (fun av w Q h9 => ?_) (q_M_fr (m_X10_copy l))
  obtain ⟨h9, rfl, hQ9⟩ := h9
  obtain ⟨_, e9_0, y0d, rfl, i9_0_0⟩ := h9 220 _ rfl
  obtain ⟨_, e9_1, y0k1, rfl⟩ := h9 221 _ rfl
  obtain ⟨_, e9_2, y0k2, rfl⟩ := h9 222 _ rfl
  obtain ⟨_, e9_3, y0k3, rfl⟩ := h9 223 _ rfl
  obtain ⟨_, e9_4, y0k4, rfl⟩ := h9 224 _ rfl
  obtain ⟨_, e9_5, g_y0d, rfl, i9_5_0⟩ := h9 24 _ rfl
  obtain ⟨_, e9_6, g_y0k1, rfl⟩ := h9 25 _ rfl
  obtain ⟨_, e9_7, g_y0k2, rfl⟩ := h9 26 _ rfl
  obtain ⟨_, e9_8, g_y0k3, rfl⟩ := h9 27 _ rfl
  obtain ⟨_, e9_9, g_y0k4, rfl⟩ := h9 28 _ rfl
  refine ⟨[220, 221, 222, 223, 224, 24, 25, 26, 27, 28], [q2 0, q2 5], (wYo 0 y0k1 y0k2 y0k3 y0k4 y0d ++ wYo 5 g_y0k1 g_y0k2 g_y0k3 g_y0k4 g_y0d), rfl, ?_, rfl, ?_⟩
  · show [w[220]?, w[221]?, w[222]?, w[223]?, w[224]?, w[24]?, w[25]?, w[26]?, w[27]?, w[28]?] = _
    rw [e9_0, e9_1, e9_2, e9_3, e9_4, e9_5, e9_6, e9_7, e9_8, e9_9]
    rfl
  · refine ⟨y0k1, y0k2, y0k3, y0k4, y0d, g_y0k1, g_y0k2, g_y0k3, g_y0k4, g_y0d, rfl, rfl, fun hlen => ?_⟩
    refine hQ9 _ _ (PW_bw h9 rfl ?_) (by rw [q_bw_len]) (bw_outo (ps := [220, 221, 222, 223, 224, 24, 25, 26, 27, 28]) (fun p hp => by unfold out_197; revert p; decide)) rfl
    refine ⟨(show PT_Y0 197 _ from ⟨_, rfl, (by first | assumption | omega | exact q_rg_cpy (by assumption) (by assumption))⟩), ?_⟩
    refine ⟨(show PT_Y0_1 197 _ from ⟨_, rfl⟩), ?_⟩
    refine ⟨(show PT_Y0_2 197 _ from ⟨_, rfl⟩), ?_⟩
    refine ⟨(show PT_Y0_3 197 _ from ⟨_, rfl⟩), ?_⟩
    refine ⟨(show PT_Y0_4 197 _ from ⟨_, rfl⟩), ?_⟩
    refine ⟨(show PX_Y0 _ from ⟨_, rfl, (by first | assumption | omega | exact q_rg_cpy (by assumption) (by assumption))⟩), ?_⟩
    refine ⟨(show PX_Y0_1 _ from ⟨_, rfl⟩), ?_⟩
    refine ⟨(show PX_Y0_2 _ from ⟨_, rfl⟩), ?_⟩
    refine ⟨(show PX_Y0_3 _ from ⟨_, rfl⟩), ?_⟩
    refine ⟨(show PX_Y0_4 _ from ⟨_, rfl⟩), ?_⟩
    exact trivial

def sO_Y1_197i (ln : Int) (siz kp : Nat → Int) (u : Int) : qS := spO (CL_197 ln siz kp u) out_197 (fun r => r = none) (fun av => av = [q2 225, q2 29])
set_option maxHeartbeats 2000000 in
set_option maxRecDepth 100000 in
theorem mO_Y1_197i (l : Launch) (ln : Int) (siz kp : Nat → Int) (u : Int) : q_M l yX10_copy cX10_copy 2 none 1 68 (sO_Y1_197i ln siz kp u) := by
  refine q_M_mono (fun av w Q h9 => ?_) (q_M_fr (m_X10_copy l))
  obtain ⟨h9, rfl, hQ9⟩ := h9
  obtain ⟨_, e9_0, y1d, rfl, i9_0_0⟩ := h9 225 _ rfl
  obtain ⟨_, e9_1, y1k1, rfl⟩ := h9 226 _ rfl
  obtain ⟨_, e9_2, y1k2, rfl⟩ := h9 227 _ rfl
  obtain ⟨_, e9_3, y1k3, rfl⟩ := h9 228 _ rfl
  obtain ⟨_, e9_4, y1k4, rfl⟩ := h9 229 _ rfl
  obtain ⟨_, e9_5, g_y1d, rfl, i9_5_0⟩ := h9 29 _ rfl
  obtain ⟨_, e9_6, g_y1k1, rfl⟩ := h9 30 _ rfl
  obtain ⟨_, e9_7, g_y1k2, rfl⟩ := h9 31 _ rfl
  obtain ⟨_, e9_8, g_y1k3, rfl⟩ := h9 32 _ rfl
  obtain ⟨_, e9_9, g_y1k4, rfl⟩ := h9 33 _ rfl
  refine ⟨[225, 226, 227, 228, 229, 29, 30, 31, 32, 33], [q2 0, q2 5], (wYo 0 y1k1 y1k2 y1k3 y1k4 y1d ++ wYo 5 g_y1k1 g_y1k2 g_y1k3 g_y1k4 g_y1d), rfl, ?_, rfl, ?_⟩
  · show [w[225]?, w[226]?, w[227]?, w[228]?, w[229]?, w[29]?, w[30]?, w[31]?, w[32]?, w[33]?] = _
    rw [e9_0, e9_1, e9_2, e9_3, e9_4, e9_5, e9_6, e9_7, e9_8, e9_9]
    rfl
  · refine ⟨y1k1, y1k2, y1k3, y1k4, y1d, g_y1k1, g_y1k2, g_y1k3, g_y1k4, g_y1d, rfl, rfl, fun hlen => ?_⟩
    refine hQ9 _ _ (PW_bw h9 rfl ?_) (by rw [q_bw_len]) (bw_outo (ps := [225, 226, 227, 228, 229, 29, 30, 31, 32, 33]) (fun p hp => by unfold out_197; revert p; decide)) rfl
    refine ⟨(show PT_Y1 197 _ from ⟨_, rfl, (by first | assumption | omega | exact q_rg_cpy (by assumption) (by assumption))⟩), ?_⟩
    refine ⟨(show PT_Y1_1 197 _ from ⟨_, rfl⟩), ?_⟩
    refine ⟨(show PT_Y1_2 197 _ from ⟨_, rfl⟩), ?_⟩
    refine ⟨(show PT_Y1_3 197 _ from ⟨_, rfl⟩), ?_⟩
    refine ⟨(show PT_Y1_4 197 _ from ⟨_, rfl⟩), ?_⟩
    refine ⟨(show PX_Y1 _ from ⟨_, rfl, (by first | assumption | omega | exact q_rg_cpy (by assumption) (by assumption))⟩), ?_⟩
    refine ⟨(show PX_Y1_1 _ from ⟨_, rfl⟩), ?_⟩
    refine ⟨(show PX_Y1_2 _ from ⟨_, rfl⟩), ?_⟩
    refine ⟨(show PX_Y1_3 _ from ⟨_, rfl⟩), ?_⟩
    refine ⟨(show PX_Y1_4 _ from ⟨_, rfl⟩), ?_⟩
    exact trivial

def sO_Y_197i (ln : Int) (siz kp : Nat → Int) (u : Int) : qS := spO (CL_197 ln siz kp u) out_197 (fun r => r = none) (fun av => av = [q2 220, q2 24] ∨ av = [q2 225, q2 29])
theorem mO_Y_197i (l : Launch) (ln : Int) (siz kp : Nat → Int) (u : Int) : q_M l yX10_copy cX10_copy 2 none 1 68 (sO_Y_197i ln siz kp u) := by
  intro dC dI k g av w Q sz hs oka okw
  obtain ⟨h1, h2 | h2, h3⟩ := hs
  · exact mO_Y0_197i l ln siz kp u dC dI k g av w Q sz ⟨h1, h2, h3⟩ oka okw
  · exact mO_Y1_197i l ln siz kp u dC dI k g av w Q sz ⟨h1, h2, h3⟩ oka okw

def sO_L0_197i (ln : Int) (siz kp : Nat → Int) (u : Int) : qS := spO (CL_197 ln siz kp u) out_197 (fun r => r = none) (fun av => av = [q2 230, q2 34])
set_option maxHeartbeats 2000000 in
set_option maxRecDepth 100000 in
theorem mO_L0_197i (l : Launch) (ln : Int) (siz kp : Nat → Int) (u : Int) : q_M l yX3_copy cX3_copy 2 none 1 68 (sO_L0_197i ln siz kp u) := by
  refine q_M_mono (fun av w Q h9 => ?_) (q_M_fr (m_X3_copy l))
  obtain ⟨h9, rfl, hQ9⟩ := h9
  obtain ⟨_, e9_0, l0o, rfl⟩ := h9 230 _ rfl
  obtain ⟨_, e9_1, l0g, rfl⟩ := h9 231 _ rfl
  obtain ⟨_, e9_2, g_l0o, rfl⟩ := h9 34 _ rfl
  obtain ⟨_, e9_3, g_l0g, rfl⟩ := h9 35 _ rfl
  refine ⟨[230, 231, 34, 35], [q2 0, q2 2], (wLo 0 l0g l0o ++ wLo 2 g_l0g g_l0o), rfl, ?_, rfl, ?_⟩
  · show [w[230]?, w[231]?, w[34]?, w[35]?] = _
    rw [e9_0, e9_1, e9_2, e9_3]
    rfl
  · refine ⟨l0g, l0o, g_l0g, g_l0o, rfl, rfl, fun hlen => ?_⟩
    refine hQ9 _ _ (PW_bw h9 rfl ?_) (by rw [q_bw_len]) (bw_outo (ps := [230, 231, 34, 35]) (fun p hp => by unfold out_197; revert p; decide)) rfl
    refine ⟨(show PT_L0 197 _ from ⟨_, rfl⟩), ?_⟩
    refine ⟨(show PT_L0_1 197 _ from ⟨_, rfl⟩), ?_⟩
    refine ⟨(show PX_L0 _ from ⟨_, rfl⟩), ?_⟩
    refine ⟨(show PX_L0_1 _ from ⟨_, rfl⟩), ?_⟩
    exact trivial

def sO_L1_197i (ln : Int) (siz kp : Nat → Int) (u : Int) : qS := spO (CL_197 ln siz kp u) out_197 (fun r => r = none) (fun av => av = [q2 232, q2 36])
set_option maxHeartbeats 2000000 in
set_option maxRecDepth 100000 in
theorem mO_L1_197i (l : Launch) (ln : Int) (siz kp : Nat → Int) (u : Int) : q_M l yX3_copy cX3_copy 2 none 1 68 (sO_L1_197i ln siz kp u) := by
  refine q_M_mono (fun av w Q h9 => ?_) (q_M_fr (m_X3_copy l))
  obtain ⟨h9, rfl, hQ9⟩ := h9
  obtain ⟨_, e9_0, l1o, rfl⟩ := h9 232 _ rfl
  obtain ⟨_, e9_1, l1g, rfl⟩ := h9 233 _ rfl
  obtain ⟨_, e9_2, g_l1o, rfl⟩ := h9 36 _ rfl
  obtain ⟨_, e9_3, g_l1g, rfl⟩ := h9 37 _ rfl
  refine ⟨[232, 233, 36, 37], [q2 0, q2 2], (wLo 0 l1g l1o ++ wLo 2 g_l1g g_l1o), rfl, ?_, rfl, ?_⟩
  · show [w[232]?, w[233]?, w[36]?, w[37]?] = _
    rw [e9_0, e9_1, e9_2, e9_3]
    rfl
  · refine ⟨l1g, l1o, g_l1g, g_l1o, rfl, rfl, fun hlen => ?_⟩
    refine hQ9 _ _ (PW_bw h9 rfl ?_) (by rw [q_bw_len]) (bw_outo (ps := [232, 233, 36, 37]) (fun p hp => by unfold out_197; revert p; decide)) rfl
    refine ⟨(show PT_L1 197 _ from ⟨_, rfl⟩), ?_⟩
    refine ⟨(show PT_L1_1 197 _ from ⟨_, rfl⟩), ?_⟩
    refine ⟨(show PX_L1 _ from ⟨_, rfl⟩), ?_⟩
    refine ⟨(show PX_L1_1 _ from ⟨_, rfl⟩), ?_⟩
    exact trivial

def sO_L_197i (ln : Int) (siz kp : Nat → Int) (u : Int) : qS := spO (CL_197 ln siz kp u) out_197 (fun r => r = none) (fun av => av = [q2 230, q2 34] ∨ av = [q2 232, q2 36])
theorem mO_L_197i (l : Launch) (ln : Int) (siz kp : Nat → Int) (u : Int) : q_M l yX3_copy cX3_copy 2 none 1 68 (sO_L_197i ln siz kp u) := by
  intro dC dI k g av w Q sz hs oka okw
  obtain ⟨h1, h2 | h2, h3⟩ := hs
  · exact mO_L0_197i l ln siz kp u dC dI k g av w Q sz ⟨h1, h2, h3⟩ oka okw
  · exact mO_L1_197i l ln siz kp u dC dI k g av w Q sz ⟨h1, h2, h3⟩ oka okw

def sO_S0_197i (ln : Int) (siz kp : Nat → Int) (u : Int) : qS := spO (CL_197 ln siz kp u) out_197 (fun r => r = none) (fun av => av = [q2 234, q2 38])
set_option maxHeartbeats 2000000 in
set_option maxRecDepth 100000 in
theorem mO_S0_197i (l : Launch) (ln : Int) (siz kp : Nat → Int) (u : Int) : q_M l yX7_copy cX7_copy 2 none 1 68 (sO_S0_197i ln siz kp u) := by
  refine q_M_mono (fun av w Q h9 => ?_) (q_M_fr (m_X7_copy l))
  obtain ⟨h9, rfl, hQ9⟩ := h9
  obtain ⟨_, e9_0, s0c, rfl, i9_0_0⟩ := h9 234 _ rfl
  obtain ⟨_, e9_1, s0p, rfl⟩ := h9 235 _ rfl
  obtain ⟨_, e9_2, s0t, rfl⟩ := h9 236 _ rfl
  obtain ⟨_, e9_3, g_s0c, rfl, i9_3_0⟩ := h9 38 _ rfl
  obtain ⟨_, e9_4, g_s0p, rfl⟩ := h9 39 _ rfl
  obtain ⟨_, e9_5, g_s0t, rfl⟩ := h9 40 _ rfl
  refine ⟨[234, 235, 236, 38, 39, 40], [q2 0, q2 3], (wSo 0 s0p s0t s0c ++ wSo 3 g_s0p g_s0t g_s0c), rfl, ?_, rfl, ?_⟩
  · show [w[234]?, w[235]?, w[236]?, w[38]?, w[39]?, w[40]?] = _
    rw [e9_0, e9_1, e9_2, e9_3, e9_4, e9_5]
    rfl
  · refine ⟨s0p, s0t, s0c, g_s0p, g_s0t, g_s0c, rfl, rfl, fun hlen => ?_⟩
    refine hQ9 _ _ (PW_bw h9 rfl ?_) (by rw [q_bw_len]) (bw_outo (ps := [234, 235, 236, 38, 39, 40]) (fun p hp => by unfold out_197; revert p; decide)) rfl
    refine ⟨(show PT_S0 197 _ from ⟨_, rfl, (by first | assumption | omega | exact q_rg_cpy (by assumption) (by assumption))⟩), ?_⟩
    refine ⟨(show PT_S0_1 197 _ from ⟨_, rfl⟩), ?_⟩
    refine ⟨(show PT_S0_2 197 _ from ⟨_, rfl⟩), ?_⟩
    refine ⟨(show PX_S0 _ from ⟨_, rfl, (by first | assumption | omega | exact q_rg_cpy (by assumption) (by assumption))⟩), ?_⟩
    refine ⟨(show PX_S0_1 _ from ⟨_, rfl⟩), ?_⟩
    refine ⟨(show PX_S0_2 _ from ⟨_, rfl⟩), ?_⟩
    exact trivial

def sO_S1_197i (ln : Int) (siz kp : Nat → Int) (u : Int) : qS := spO (CL_197 ln siz kp u) out_197 (fun r => r = none) (fun av => av = [q2 237, q2 41])
set_option maxHeartbeats 2000000 in
set_option maxRecDepth 100000 in
theorem mO_S1_197i (l : Launch) (ln : Int) (siz kp : Nat → Int) (u : Int) : q_M l yX7_copy cX7_copy 2 none 1 68 (sO_S1_197i ln siz kp u) := by
  refine q_M_mono (fun av w Q h9 => ?_) (q_M_fr (m_X7_copy l))
  obtain ⟨h9, rfl, hQ9⟩ := h9
  obtain ⟨_, e9_0, s1c, rfl, i9_0_0⟩ := h9 237 _ rfl
  obtain ⟨_, e9_1, s1p, rfl⟩ := h9 238 _ rfl
  obtain ⟨_, e9_2, s1t, rfl⟩ := h9 239 _ rfl
  obtain ⟨_, e9_3, g_s1c, rfl, i9_3_0⟩ := h9 41 _ rfl
  obtain ⟨_, e9_4, g_s1p, rfl⟩ := h9 42 _ rfl
  obtain ⟨_, e9_5, g_s1t, rfl⟩ := h9 43 _ rfl
  refine ⟨[237, 238, 239, 41, 42, 43], [q2 0, q2 3], (wSo 0 s1p s1t s1c ++ wSo 3 g_s1p g_s1t g_s1c), rfl, ?_, rfl, ?_⟩
  · show [w[237]?, w[238]?, w[239]?, w[41]?, w[42]?, w[43]?] = _
    rw [e9_0, e9_1, e9_2, e9_3, e9_4, e9_5]
    rfl
  · refine ⟨s1p, s1t, s1c, g_s1p, g_s1t, g_s1c, rfl, rfl, fun hlen => ?_⟩
    refine hQ9 _ _ (PW_bw h9 rfl ?_) (by rw [q_bw_len]) (bw_outo (ps := [237, 238, 239, 41, 42, 43]) (fun p hp => by unfold out_197; revert p; decide)) rfl
    refine ⟨(show PT_S1 197 _ from ⟨_, rfl, (by first | assumption | omega | exact q_rg_cpy (by assumption) (by assumption))⟩), ?_⟩
    refine ⟨(show PT_S1_1 197 _ from ⟨_, rfl⟩), ?_⟩
    refine ⟨(show PT_S1_2 197 _ from ⟨_, rfl⟩), ?_⟩
    refine ⟨(show PX_S1 _ from ⟨_, rfl, (by first | assumption | omega | exact q_rg_cpy (by assumption) (by assumption))⟩), ?_⟩
    refine ⟨(show PX_S1_1 _ from ⟨_, rfl⟩), ?_⟩
    refine ⟨(show PX_S1_2 _ from ⟨_, rfl⟩), ?_⟩
    exact trivial

def sO_S_197i (ln : Int) (siz kp : Nat → Int) (u : Int) : qS := spO (CL_197 ln siz kp u) out_197 (fun r => r = none) (fun av => av = [q2 234, q2 38] ∨ av = [q2 237, q2 41])
theorem mO_S_197i (l : Launch) (ln : Int) (siz kp : Nat → Int) (u : Int) : q_M l yX7_copy cX7_copy 2 none 1 68 (sO_S_197i ln siz kp u) := by
  intro dC dI k g av w Q sz hs oka okw
  obtain ⟨h1, h2 | h2, h3⟩ := hs
  · exact mO_S0_197i l ln siz kp u dC dI k g av w Q sz ⟨h1, h2, h3⟩ oka okw
  · exact mO_S1_197i l ln siz kp u dC dI k g av w Q sz ⟨h1, h2, h3⟩ oka okw
