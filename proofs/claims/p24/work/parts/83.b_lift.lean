/-! ===== placeFor, read, copies of a text's block: what is known behind them ===== -/
def PlQ (a b z : Int) (mn : Nat → Int) : Prop := z = -1 ∧ ¬ PlO a b mn ∨ (PlO a b mn ∧ z = kTx a b mn) ∧ 0 ≤ z ∧ z ≤ 1
/-- the block at place p holds what D says -/
def CBp (F U : Nat → Nat → Int) (p : Nat) (D : Nat → Int) : Prop := CB (F (p + 1)) (F (p + 2)) (F (p + 3)) (F (p + 4)) (F (p + 5)) (F (p + 6)) (F (p + 7)) (U p 0) (U p 1) (U p 2) (U p 3) (U p 4) D
def CYp (F U : Nat → Nat → Int) (p : Nat) (D : Nat → Int) : Prop := CY (F (p + 1)) (F (p + 2)) (F (p + 3)) (F (p + 4)) (U p 0) D ∧ U p 0 ≤ 40
def CLp (F U : Nat → Nat → Int) (p : Nat) (D : Nat → Int) : Prop := CL (F (p + 1)) (U p 0) D
def CSp (F U : Nat → Nat → Int) (p : Nat) (D : Nat → Int) : Prop := CS (F (p + 1)) (F (p + 2)) (U p 0) D ∧ U p 0 ≤ 10
def rdX (F U F' U' : Nat → Nat → Int) (a b : Int) : Prop := (∀ p : Nat, ¬ (p = 45 ∨ (48 ≤ p ∧ p ≤ 65)) → F' p = F p ∧ U' p = U p) ∧ ∃ (D : Nat → Int) (fp fd : Int), RdO (tc (F 2)) b a (U' 45 1) (U' 45 2) D ∧ CsI (U' 45 1) a D fp fd (F' 49) (F' 50) (F' 51) (F' 52) (F' 53) (F' 54) (F' 55) (U' 48 0) (U' 48 1) (U' 48 2) (U' 48 3) (U' 48 4) (U' 45 7) (U' 45 8) (F' 57) (F' 58) (F' 59) (F' 60) (U' 56 0) (F' 62) (U' 61 0) (F' 64) (F' 65) (U' 63 0) ∧ (0 ≤ U' 56 0 ∧ U' 56 0 ≤ 40) ∧ (0 ≤ U' 63 0 ∧ U' 63 0 ≤ 10)
theorem cpy_lt {f g : Nat → Int} {n i : Nat} (h : i < n) : va_cpy f g 0 0 n i = f i := by
  unfold va_cpy
  rw [if_pos ⟨Nat.zero_le _, by omega⟩]
  congr 1
  omega
/-- the block at p (rows of ns elements, m numbers) is made as the one at s; all else stays -/
def CpBlk (ns : List Nat) (m p s : Nat) (F U F' U' : Nat → Nat → Int) : Prop := (∀ q : Nat, ¬ (p ≤ q ∧ q ≤ p + ns.length) → F' q = F q ∧ U' q = U q) ∧ (∀ j : Nat, j < ns.length → ∀ i : Nat, i < ns.getD j 0 → F' (p + 1 + j) i = F (s + 1 + j) i) ∧ (∀ i : Nat, i < m → U' p i = U s i)

def sX_placeFor : qS := spX (fun av => ∃ a b : Int, av = [q2 1, q1 a, q1 b]) (fun F U av r F' U' => (F' = F ∧ U' = U) ∧ ∃ a b z : Int, av = [q2 1, q1 a, q1 b] ∧ r = some (q1 z) ∧ PlQ a b z (F 3))
set_option maxHeartbeats 4000000 in
set_option maxRecDepth 100000 in
theorem mX_placeFor (l : Launch) : q_M l yX8_placeFor cX8_placeFor 3 (some .int) 1 22 sX_placeFor := by
  refine q_M_mono (fun av w Q h9 => ?_) (q_M_fr (m_F8_placeFor l))
  obtain ⟨F, U, h9, ⟨a, b, rfl⟩, hQ9⟩ := h9
  obtain ⟨_, e9_0, ln, fa, pl, rfl, i9_0_0, i9_0_1⟩ := h9 1 _ rfl
  obtain ⟨_, e9_1, tp, rfl, i9_1_0⟩ := h9 2 _ rfl
  obtain ⟨_, e9_2, ct, rfl, i9_2_0, i9_2_1⟩ := h9 3 _ rfl
  refine ⟨[1, 2, 3, 4, 5, 6, 7], [q2 0, q1 a, q1 b], (wT3 tp ct ln fa pl), rfl, ?_, rfl, ?_⟩
  · show [w[1]?, w[2]?, w[3]?] = _
    rw [e9_0, e9_1, e9_2]
    rfl
  · refine ⟨tp, ct, ln, fa, pl, a, b, rfl, rfl, (by first | assumption | omega), fun r hp hlen => ?_⟩
    refine hQ9 _ F U _ (PW_bwC h9 rfl (fun i hi => LC_ne rfl rfl) rfl ?_) (by rw [q_bw_len]) (bw_out rfl) ⟨⟨rfl, rfl⟩, a, b, r, rfl, rfl, (by rw [← i9_2_1]; exact hp)⟩
    refine ⟨(show PX_T (U 1) _ from ⟨_, _, _, rfl, (by first | assumption | omega | exact q_rg_cpy (by assumption) (by assumption)), i9_0_1⟩), ?_⟩
    refine ⟨(show PX_Ttp (F 2) _ from ⟨_, rfl, i9_1_0⟩), ?_⟩
    refine ⟨(show PX_Tct (F 3) _ from ⟨_, rfl, (by first | assumption | omega | exact q_rg_cpy (by assumption) (by assumption)), i9_2_1⟩), ?_⟩
    exact trivial

def sX_read : qS := spX (fun av => ∃ a b : Int, av = [q2 45, q1 a, q2 2, q1 b] ∧ (0 ≤ b ∧ b ≤ 600) ∧ (0 ≤ a ∧ a ≤ 3)) (fun F U av r F' U' => r = none ∧ ∃ a b : Int, av = [q2 45, q1 a, q2 2, q1 b] ∧ rdX F U F' U' a b)
set_option maxHeartbeats 4000000 in
set_option maxRecDepth 100000 in
theorem mX_read (l : Launch) : q_M l yX6_read cX6_read 5 none 8 174 sX_read := by
  refine q_M_mono (fun av w Q h9 => ?_) (q_M_fr (m_F6_read l))
  obtain ⟨F, U, h9, ⟨a, b, rfl, hb, ha⟩, hQ9⟩ := h9
  obtain ⟨_, e9_0, rt, rln, rfa, rpl, rst, rnx, rtk, rnm, rnp, rnd, rfl, i9_0_0, i9_0_1, hrt⟩ := h9 45 _ rfl
  obtain ⟨_, e9_1, tp, rfl, i9_1_0⟩ := h9 2 _ rfl
  obtain ⟨_, e9_2, rv, rfl⟩ := h9 46 _ rfl
  obtain ⟨_, e9_3, rbu0, rbu1, rbu2, rbu3, rbu4, rfl, i9_3_0, i9_3_1⟩ := h9 48 _ rfl
  obtain ⟨_, e9_4, rbf1, rfl, i9_4_0⟩ := h9 49 _ rfl
  obtain ⟨_, e9_5, rbf2, rfl, i9_5_0⟩ := h9 50 _ rfl
  obtain ⟨_, e9_6, rbf3, rfl, i9_6_0, i9_6_1⟩ := h9 51 _ rfl
  obtain ⟨_, e9_7, rbf4, rfl, i9_7_0⟩ := h9 52 _ rfl
  obtain ⟨_, e9_8, rbf5, rfl, i9_8_0⟩ := h9 53 _ rfl
  obtain ⟨_, e9_9, rbf6, rfl, i9_9_0⟩ := h9 54 _ rfl
  obtain ⟨_, e9_10, rbf7, rfl, i9_10_0⟩ := h9 55 _ rfl
  obtain ⟨_, e9_11, ryd, rfl, i9_11_0, i9_11_1⟩ := h9 56 _ rfl
  obtain ⟨_, e9_12, ryk1, rfl, i9_12_0⟩ := h9 57 _ rfl
  obtain ⟨_, e9_13, ryk2, rfl, i9_13_0⟩ := h9 58 _ rfl
  obtain ⟨_, e9_14, ryk3, rfl, i9_14_0⟩ := h9 59 _ rfl
  obtain ⟨_, e9_15, ryk4, rfl, i9_15_0⟩ := h9 60 _ rfl
  obtain ⟨_, e9_16, rlo, rfl, i9_16_0⟩ := h9 61 _ rfl
  obtain ⟨_, e9_17, rlg, rfl, i9_17_0⟩ := h9 62 _ rfl
  obtain ⟨_, e9_18, rsc, rfl, i9_18_0, i9_18_1⟩ := h9 63 _ rfl
  obtain ⟨_, e9_19, rsp, rfl, i9_19_0⟩ := h9 64 _ rfl
  obtain ⟨_, e9_20, rsq, rfl, i9_20_0⟩ := h9 65 _ rfl
  rcases hrt with rfl | rfl
  · refine ⟨[45, 2, 46, 48, 49, 50, 51, 52, 53, 54, 55, 56, 57, 58, 59, 60, 61, 62, 63, 64, 65, 2], [q2 0, q1 a, q2 1, q1 b], [.inr (6, [q2 3, q2 11, q2 16, q2 18, q2 2, q2 21, q1 rln, q1 rfa, q1 rpl, q1 rst, q1 rnx, q1 rtk, q1 rnm, q1 rnp, q1 rnd]), .inl (1, 600, .inl tp), .inl (0, 3, .inl rv), .inr (0, [q2 4, q2 5, q2 6, q2 7, q2 8, q2 9, q2 10, q1 rbu0, q1 rbu1, q1 rbu2, q1 rbu3, q1 rbu4]), .inl (0, 8, .inl rbf1), .inl (0, 8, .inl rbf2), .inl (0, 4, .inl rbf3), .inl (0, 32, .inl rbf4), .inl (0, 6, .inl rbf5), .inl (0, 6, .inl rbf6), .inl (0, 6, .inl rbf7), .inr (10, [q2 12, q2 13, q2 14, q2 15, q1 ryd]), .inl (0, 40, .inl ryk1), .inl (0, 40, .inl ryk2), .inl (0, 40, .inl ryk3), .inl (0, 40, .inl ryk4), .inr (3, [q2 17, q1 rlo]), .inl (0, 8, .inl rlg), .inr (7, [q2 19, q2 20, q1 rsc]), .inl (0, 10, .inl rsp), .inl (0, 10, .inl rsq)], rfl, ?_, rfl, ?_⟩
    · show [w[45]?, w[2]?, w[46]?, w[48]?, w[49]?, w[50]?, w[51]?, w[52]?, w[53]?, w[54]?, w[55]?, w[56]?, w[57]?, w[58]?, w[59]?, w[60]?, w[61]?, w[62]?, w[63]?, w[64]?, w[65]?] = _
      rw [e9_0, e9_1, e9_2, e9_3, e9_4, e9_5, e9_6, e9_7, e9_8, e9_9, e9_10, e9_11, e9_12, e9_13, e9_14, e9_15, e9_16, e9_17, e9_18, e9_19, e9_20]
      rfl
    · refine ⟨rln, rfa, rpl, rst, rnx, rtk, rnm, rnp, rnd, tp, rv, rbf1, rbf2, rbf3, rbf4, rbf5, rbf6, rbf7, rbu0, rbu1, rbu2, rbu3, rbu4, ryk1, ryk2, ryk3, ryk4, ryd, rlg, rlo, rsp, rsq, rsc, a, b, rfl, rfl, (by first | assumption | omega), (by first | assumption | omega), (by first | assumption | omega), (by first | assumption | omega), fun x_rln x_rst x_rnx x_rtk x_rnm x_rfa x_rpl x_rv x_rbf1 x_rbf2 x_rbf3 x_rbf4 x_rbf5 x_rbf6 x_rbf7 x_rbu0 x_rbu1 x_rbu2 x_rbu3 x_rbu4 x_rnp x_rnd x_ryk1 x_ryk2 x_ryk3 x_ryk4 x_ryd x_rlg x_rlo x_rsp x_rsq x_rsc hp hlen => ?_⟩
      obtain ⟨⟨⟨⟨b0, b1, b2, b3, b4, b5, b6⟩, hYD, hSC⟩, hST⟩, D, fp, fd, hR, hC⟩ := hp
      refine hQ9 _ (fu (fu (fu (fu (fu (fu (fu (fu (fu (fu (fu (fu (fu (fu F 49 x_rbf1) 50 x_rbf2) 51 x_rbf3) 52 x_rbf4) 53 x_rbf5) 54 x_rbf6) 55 x_rbf7) 57 x_ryk1) 58 x_ryk2) 59 x_ryk3) 60 x_ryk4) 62 x_rlg) 64 x_rsp) 65 x_rsq) (fu (fu (fu (fu (fu U 45 (vL [x_rln, x_rfa, x_rpl, x_rst, x_rnx, x_rtk, x_rnm, x_rnp, x_rnd])) 48 (vL [x_rbu0, x_rbu1, x_rbu2, x_rbu3, x_rbu4])) 56 (vL [x_ryd])) 61 (vL [x_rlo])) 63 (vL [x_rsc])) _ (PW_bwC h9 rfl (fun i hi => LC_ne (fu_c (fun e => hi (by rw [e]; exact List.mem_of_getElem? (i := 20) rfl)) (fu_c (fun e => hi (by rw [e]; exact List.mem_of_getElem? (i := 19) rfl)) (fu_c (fun e => hi (by rw [e]; exact List.mem_of_getElem? (i := 17) rfl)) (fu_c (fun e => hi (by rw [e]; exact List.mem_of_getElem? (i := 15) rfl)) (fu_c (fun e => hi (by rw [e]; exact List.mem_of_getElem? (i := 14) rfl)) (fu_c (fun e => hi (by rw [e]; exact List.mem_of_getElem? (i := 13) rfl)) (fu_c (fun e => hi (by rw [e]; exact List.mem_of_getElem? (i := 12) rfl)) (fu_c (fun e => hi (by rw [e]; exact List.mem_of_getElem? (i := 10) rfl)) (fu_c (fun e => hi (by rw [e]; exact List.mem_of_getElem? (i := 9) rfl)) (fu_c (fun e => hi (by rw [e]; exact List.mem_of_getElem? (i := 8) rfl)) (fu_c (fun e => hi (by rw [e]; exact List.mem_of_getElem? (i := 7) rfl)) (fu_c (fun e => hi (by rw [e]; exact List.mem_of_getElem? (i := 6) rfl)) (fu_c (fun e => hi (by rw [e]; exact List.mem_of_getElem? (i := 5) rfl)) (fu_c (fun e => hi (by rw [e]; exact List.mem_of_getElem? (i := 4) rfl)) rfl)))))))))))))) (fu_c (fun e => hi (by rw [e]; exact List.mem_of_getElem? (i := 18) rfl)) (fu_c (fun e => hi (by rw [e]; exact List.mem_of_getElem? (i := 16) rfl)) (fu_c (fun e => hi (by rw [e]; exact List.mem_of_getElem? (i := 11) rfl)) (fu_c (fun e => hi (by rw [e]; exact List.mem_of_getElem? (i := 3) rfl)) (fu_c (fun e => hi (by rw [e]; exact List.mem_of_getElem? (i := 0) rfl)) rfl)))))) rfl ?_) (by rw [q_bw_len]) (bw_out rfl) ⟨rfl, a, b, rfl, ⟨(fun p h1 => ⟨(fu_c (fun e9 => by omega) (fu_c (fun e9 => by omega) (fu_c (fun e9 => by omega) (fu_c (fun e9 => by omega) (fu_c (fun e9 => by omega) (fu_c (fun e9 => by omega) (fu_c (fun e9 => by omega) (fu_c (fun e9 => by omega) (fu_c (fun e9 => by omega) (fu_c (fun e9 => by omega) (fu_c (fun e9 => by omega) (fu_c (fun e9 => by omega) (fu_c (fun e9 => by omega) (fu_c (fun e9 => by omega) rfl)))))))))))))), (fu_c (fun e9 => by omega) (fu_c (fun e9 => by omega) (fu_c (fun e9 => by omega) (fu_c (fun e9 => by omega) (fu_c (fun e9 => by omega) rfl)))))⟩), D, fp, fd, (by rw [← i9_1_0]; exact hR), hC, hYD, hSC⟩⟩
      refine ⟨(show PX_RD ((vL [x_rln, x_rfa, x_rpl, x_rst, x_rnx, x_rtk, x_rnm, x_rnp, x_rnd])) _ from ⟨_, _, _, _, _, _, _, _, _, _, rfl, hST, ⟨rfl, rfl, rfl, rfl, rfl, rfl, rfl, rfl, rfl⟩, (Or.inl rfl)⟩), ?_⟩
      refine ⟨(show PX_Ttp (F 2) _ from ⟨_, rfl, i9_1_0⟩), ?_⟩
      refine ⟨(show PX_RV _ from ⟨_, rfl⟩), ?_⟩
      refine ⟨(show PX_RB ((vL [x_rbu0, x_rbu1, x_rbu2, x_rbu3, x_rbu4])) _ from ⟨_, _, _, _, _, rfl, ⟨b0, b1, b2, b3, b4, b5⟩, ⟨rfl, rfl, rfl, rfl, rfl⟩⟩), ?_⟩
      refine ⟨(show PX_RB_1 (x_rbf1) _ from ⟨_, rfl, rfl⟩), ?_⟩
      refine ⟨(show PX_RB_2 (x_rbf2) _ from ⟨_, rfl, rfl⟩), ?_⟩
      refine ⟨(show PX_RB_3 (x_rbf3) _ from ⟨_, rfl, b6, rfl⟩), ?_⟩
      refine ⟨(show PX_RB_4 (x_rbf4) _ from ⟨_, rfl, rfl⟩), ?_⟩
      refine ⟨(show PX_RB_5 (x_rbf5) _ from ⟨_, rfl, rfl⟩), ?_⟩
      refine ⟨(show PX_RB_6 (x_rbf6) _ from ⟨_, rfl, rfl⟩), ?_⟩
      refine ⟨(show PX_RB_7 (x_rbf7) _ from ⟨_, rfl, rfl⟩), ?_⟩
      refine ⟨(show PX_RY ((vL [x_ryd])) _ from ⟨_, rfl, hYD, rfl⟩), ?_⟩
      refine ⟨(show PX_RY_1 (x_ryk1) _ from ⟨_, rfl, rfl⟩), ?_⟩
      refine ⟨(show PX_RY_2 (x_ryk2) _ from ⟨_, rfl, rfl⟩), ?_⟩
      refine ⟨(show PX_RY_3 (x_ryk3) _ from ⟨_, rfl, rfl⟩), ?_⟩
      refine ⟨(show PX_RY_4 (x_ryk4) _ from ⟨_, rfl, rfl⟩), ?_⟩
      refine ⟨(show PX_RL ((vL [x_rlo])) _ from ⟨_, rfl, rfl⟩), ?_⟩
      refine ⟨(show PX_RL_1 (x_rlg) _ from ⟨_, rfl, rfl⟩), ?_⟩
      refine ⟨(show PX_RS ((vL [x_rsc])) _ from ⟨_, rfl, hSC, rfl⟩), ?_⟩
      refine ⟨(show PX_RS_1 (x_rsp) _ from ⟨_, rfl, rfl⟩), ?_⟩
      refine ⟨(show PX_RS_2 (x_rsq) _ from ⟨_, rfl, rfl⟩), ?_⟩
      exact trivial
  · refine ⟨[45, 2, 46, 48, 49, 50, 51, 52, 53, 54, 55, 56, 57, 58, 59, 60, 61, 62, 63, 64, 65, 47], [q2 0, q1 a, q2 1, q1 b], [.inr (6, [q2 3, q2 11, q2 16, q2 18, q2 2, q2 21, q1 rln, q1 rfa, q1 rpl, q1 rst, q1 rnx, q1 rtk, q1 rnm, q1 rnp, q1 rnd]), .inl (1, 600, .inl tp), .inl (0, 3, .inl rv), .inr (0, [q2 4, q2 5, q2 6, q2 7, q2 8, q2 9, q2 10, q1 rbu0, q1 rbu1, q1 rbu2, q1 rbu3, q1 rbu4]), .inl (0, 8, .inl rbf1), .inl (0, 8, .inl rbf2), .inl (0, 4, .inl rbf3), .inl (0, 32, .inl rbf4), .inl (0, 6, .inl rbf5), .inl (0, 6, .inl rbf6), .inl (0, 6, .inl rbf7), .inr (10, [q2 12, q2 13, q2 14, q2 15, q1 ryd]), .inl (0, 40, .inl ryk1), .inl (0, 40, .inl ryk2), .inl (0, 40, .inl ryk3), .inl (0, 40, .inl ryk4), .inr (3, [q2 17, q1 rlo]), .inl (0, 8, .inl rlg), .inr (7, [q2 19, q2 20, q1 rsc]), .inl (0, 10, .inl rsp), .inl (0, 10, .inl rsq)], rfl, ?_, rfl, ?_⟩
    · show [w[45]?, w[2]?, w[46]?, w[48]?, w[49]?, w[50]?, w[51]?, w[52]?, w[53]?, w[54]?, w[55]?, w[56]?, w[57]?, w[58]?, w[59]?, w[60]?, w[61]?, w[62]?, w[63]?, w[64]?, w[65]?] = _
      rw [e9_0, e9_1, e9_2, e9_3, e9_4, e9_5, e9_6, e9_7, e9_8, e9_9, e9_10, e9_11, e9_12, e9_13, e9_14, e9_15, e9_16, e9_17, e9_18, e9_19, e9_20]
      rfl
    · refine ⟨rln, rfa, rpl, rst, rnx, rtk, rnm, rnp, rnd, tp, rv, rbf1, rbf2, rbf3, rbf4, rbf5, rbf6, rbf7, rbu0, rbu1, rbu2, rbu3, rbu4, ryk1, ryk2, ryk3, ryk4, ryd, rlg, rlo, rsp, rsq, rsc, a, b, rfl, rfl, (by first | assumption | omega), (by first | assumption | omega), (by first | assumption | omega), (by first | assumption | omega), fun x_rln x_rst x_rnx x_rtk x_rnm x_rfa x_rpl x_rv x_rbf1 x_rbf2 x_rbf3 x_rbf4 x_rbf5 x_rbf6 x_rbf7 x_rbu0 x_rbu1 x_rbu2 x_rbu3 x_rbu4 x_rnp x_rnd x_ryk1 x_ryk2 x_ryk3 x_ryk4 x_ryd x_rlg x_rlo x_rsp x_rsq x_rsc hp hlen => ?_⟩
      obtain ⟨⟨⟨⟨b0, b1, b2, b3, b4, b5, b6⟩, hYD, hSC⟩, hST⟩, D, fp, fd, hR, hC⟩ := hp
      refine hQ9 _ (fu (fu (fu (fu (fu (fu (fu (fu (fu (fu (fu (fu (fu (fu F 49 x_rbf1) 50 x_rbf2) 51 x_rbf3) 52 x_rbf4) 53 x_rbf5) 54 x_rbf6) 55 x_rbf7) 57 x_ryk1) 58 x_ryk2) 59 x_ryk3) 60 x_ryk4) 62 x_rlg) 64 x_rsp) 65 x_rsq) (fu (fu (fu (fu (fu U 45 (vL [x_rln, x_rfa, x_rpl, x_rst, x_rnx, x_rtk, x_rnm, x_rnp, x_rnd])) 48 (vL [x_rbu0, x_rbu1, x_rbu2, x_rbu3, x_rbu4])) 56 (vL [x_ryd])) 61 (vL [x_rlo])) 63 (vL [x_rsc])) _ (PW_bwC h9 rfl (fun i hi => LC_ne (fu_c (fun e => hi (by rw [e]; exact List.mem_of_getElem? (i := 20) rfl)) (fu_c (fun e => hi (by rw [e]; exact List.mem_of_getElem? (i := 19) rfl)) (fu_c (fun e => hi (by rw [e]; exact List.mem_of_getElem? (i := 17) rfl)) (fu_c (fun e => hi (by rw [e]; exact List.mem_of_getElem? (i := 15) rfl)) (fu_c (fun e => hi (by rw [e]; exact List.mem_of_getElem? (i := 14) rfl)) (fu_c (fun e => hi (by rw [e]; exact List.mem_of_getElem? (i := 13) rfl)) (fu_c (fun e => hi (by rw [e]; exact List.mem_of_getElem? (i := 12) rfl)) (fu_c (fun e => hi (by rw [e]; exact List.mem_of_getElem? (i := 10) rfl)) (fu_c (fun e => hi (by rw [e]; exact List.mem_of_getElem? (i := 9) rfl)) (fu_c (fun e => hi (by rw [e]; exact List.mem_of_getElem? (i := 8) rfl)) (fu_c (fun e => hi (by rw [e]; exact List.mem_of_getElem? (i := 7) rfl)) (fu_c (fun e => hi (by rw [e]; exact List.mem_of_getElem? (i := 6) rfl)) (fu_c (fun e => hi (by rw [e]; exact List.mem_of_getElem? (i := 5) rfl)) (fu_c (fun e => hi (by rw [e]; exact List.mem_of_getElem? (i := 4) rfl)) rfl)))))))))))))) (fu_c (fun e => hi (by rw [e]; exact List.mem_of_getElem? (i := 18) rfl)) (fu_c (fun e => hi (by rw [e]; exact List.mem_of_getElem? (i := 16) rfl)) (fu_c (fun e => hi (by rw [e]; exact List.mem_of_getElem? (i := 11) rfl)) (fu_c (fun e => hi (by rw [e]; exact List.mem_of_getElem? (i := 3) rfl)) (fu_c (fun e => hi (by rw [e]; exact List.mem_of_getElem? (i := 0) rfl)) rfl)))))) rfl ?_) (by rw [q_bw_len]) (bw_out rfl) ⟨rfl, a, b, rfl, ⟨(fun p h1 => ⟨(fu_c (fun e9 => by omega) (fu_c (fun e9 => by omega) (fu_c (fun e9 => by omega) (fu_c (fun e9 => by omega) (fu_c (fun e9 => by omega) (fu_c (fun e9 => by omega) (fu_c (fun e9 => by omega) (fu_c (fun e9 => by omega) (fu_c (fun e9 => by omega) (fu_c (fun e9 => by omega) (fu_c (fun e9 => by omega) (fu_c (fun e9 => by omega) (fu_c (fun e9 => by omega) (fu_c (fun e9 => by omega) rfl)))))))))))))), (fu_c (fun e9 => by omega) (fu_c (fun e9 => by omega) (fu_c (fun e9 => by omega) (fu_c (fun e9 => by omega) (fu_c (fun e9 => by omega) rfl)))))⟩), D, fp, fd, (by rw [← i9_1_0]; exact hR), hC, hYD, hSC⟩⟩
      refine ⟨(show PX_RD ((vL [x_rln, x_rfa, x_rpl, x_rst, x_rnx, x_rtk, x_rnm, x_rnp, x_rnd])) _ from ⟨_, _, _, _, _, _, _, _, _, _, rfl, hST, ⟨rfl, rfl, rfl, rfl, rfl, rfl, rfl, rfl, rfl⟩, (Or.inl rfl)⟩), ?_⟩
      refine ⟨(show PX_Ttp (F 2) _ from ⟨_, rfl, i9_1_0⟩), ?_⟩
      refine ⟨(show PX_RV _ from ⟨_, rfl⟩), ?_⟩
      refine ⟨(show PX_RB ((vL [x_rbu0, x_rbu1, x_rbu2, x_rbu3, x_rbu4])) _ from ⟨_, _, _, _, _, rfl, ⟨b0, b1, b2, b3, b4, b5⟩, ⟨rfl, rfl, rfl, rfl, rfl⟩⟩), ?_⟩
      refine ⟨(show PX_RB_1 (x_rbf1) _ from ⟨_, rfl, rfl⟩), ?_⟩
      refine ⟨(show PX_RB_2 (x_rbf2) _ from ⟨_, rfl, rfl⟩), ?_⟩
      refine ⟨(show PX_RB_3 (x_rbf3) _ from ⟨_, rfl, b6, rfl⟩), ?_⟩
      refine ⟨(show PX_RB_4 (x_rbf4) _ from ⟨_, rfl, rfl⟩), ?_⟩
      refine ⟨(show PX_RB_5 (x_rbf5) _ from ⟨_, rfl, rfl⟩), ?_⟩
      refine ⟨(show PX_RB_6 (x_rbf6) _ from ⟨_, rfl, rfl⟩), ?_⟩
      refine ⟨(show PX_RB_7 (x_rbf7) _ from ⟨_, rfl, rfl⟩), ?_⟩
      refine ⟨(show PX_RY ((vL [x_ryd])) _ from ⟨_, rfl, hYD, rfl⟩), ?_⟩
      refine ⟨(show PX_RY_1 (x_ryk1) _ from ⟨_, rfl, rfl⟩), ?_⟩
      refine ⟨(show PX_RY_2 (x_ryk2) _ from ⟨_, rfl, rfl⟩), ?_⟩
      refine ⟨(show PX_RY_3 (x_ryk3) _ from ⟨_, rfl, rfl⟩), ?_⟩
      refine ⟨(show PX_RY_4 (x_ryk4) _ from ⟨_, rfl, rfl⟩), ?_⟩
      refine ⟨(show PX_RL ((vL [x_rlo])) _ from ⟨_, rfl, rfl⟩), ?_⟩
      refine ⟨(show PX_RL_1 (x_rlg) _ from ⟨_, rfl, rfl⟩), ?_⟩
      refine ⟨(show PX_RS ((vL [x_rsc])) _ from ⟨_, rfl, hSC, rfl⟩), ?_⟩
      refine ⟨(show PX_RS_1 (x_rsp) _ from ⟨_, rfl, rfl⟩), ?_⟩
      refine ⟨(show PX_RS_2 (x_rsq) _ from ⟨_, rfl, rfl⟩), ?_⟩
      exact trivial

def sX_cpB0 : qS := spX (fun av => av = [q2 8, q2 48]) (fun F U _ r F' U' => r = none ∧ CpBlk [8, 8, 4, 32, 6, 6, 6] 5 8 48 F U F' U')
set_option maxHeartbeats 4000000 in
set_option maxRecDepth 100000 in
theorem mX_cpB0 (l : Launch) : q_M l yX0_copy cX0_copy 2 none 1 68 sX_cpB0 := by
  refine q_M_mono (fun av w Q h9 => ?_) (q_M_fr (m_X0_copy l))
  obtain ⟨F, U, h9, rfl, hQ9⟩ := h9
  obtain ⟨_, e9_0, b0u0, b0u1, b0u2, b0u3, b0u4, rfl, i9_0_0, i9_0_1⟩ := h9 8 _ rfl
  obtain ⟨_, e9_1, b0f1, rfl, i9_1_0⟩ := h9 9 _ rfl
  obtain ⟨_, e9_2, b0f2, rfl, i9_2_0⟩ := h9 10 _ rfl
  obtain ⟨_, e9_3, b0f3, rfl, i9_3_0, i9_3_1⟩ := h9 11 _ rfl
  obtain ⟨_, e9_4, b0f4, rfl, i9_4_0⟩ := h9 12 _ rfl
  obtain ⟨_, e9_5, b0f5, rfl, i9_5_0⟩ := h9 13 _ rfl
  obtain ⟨_, e9_6, b0f6, rfl, i9_6_0⟩ := h9 14 _ rfl
  obtain ⟨_, e9_7, b0f7, rfl, i9_7_0⟩ := h9 15 _ rfl
  obtain ⟨_, e9_8, rbu0, rbu1, rbu2, rbu3, rbu4, rfl, i9_8_0, i9_8_1⟩ := h9 48 _ rfl
  obtain ⟨_, e9_9, rbf1, rfl, i9_9_0⟩ := h9 49 _ rfl
  obtain ⟨_, e9_10, rbf2, rfl, i9_10_0⟩ := h9 50 _ rfl
  obtain ⟨_, e9_11, rbf3, rfl, i9_11_0, i9_11_1⟩ := h9 51 _ rfl
  obtain ⟨_, e9_12, rbf4, rfl, i9_12_0⟩ := h9 52 _ rfl
  obtain ⟨_, e9_13, rbf5, rfl, i9_13_0⟩ := h9 53 _ rfl
  obtain ⟨_, e9_14, rbf6, rfl, i9_14_0⟩ := h9 54 _ rfl
  obtain ⟨_, e9_15, rbf7, rfl, i9_15_0⟩ := h9 55 _ rfl
  refine ⟨[8, 9, 10, 11, 12, 13, 14, 15, 48, 49, 50, 51, 52, 53, 54, 55], [q2 0, q2 8], (wBo 0 b0f1 b0f2 b0f3 b0f4 b0f5 b0f6 b0f7 b0u0 b0u1 b0u2 b0u3 b0u4 ++ wBo 8 rbf1 rbf2 rbf3 rbf4 rbf5 rbf6 rbf7 rbu0 rbu1 rbu2 rbu3 rbu4), rfl, ?_, rfl, ?_⟩
  · show [w[8]?, w[9]?, w[10]?, w[11]?, w[12]?, w[13]?, w[14]?, w[15]?, w[48]?, w[49]?, w[50]?, w[51]?, w[52]?, w[53]?, w[54]?, w[55]?] = _
    rw [e9_0, e9_1, e9_2, e9_3, e9_4, e9_5, e9_6, e9_7, e9_8, e9_9, e9_10, e9_11, e9_12, e9_13, e9_14, e9_15]
    rfl
  · refine ⟨b0f1, b0f2, b0f3, b0f4, b0f5, b0f6, b0f7, b0u0, b0u1, b0u2, b0u3, b0u4, rbf1, rbf2, rbf3, rbf4, rbf5, rbf6, rbf7, rbu0, rbu1, rbu2, rbu3, rbu4, rfl, rfl, fun hlen => ?_⟩
    refine hQ9 _ (fu (fu (fu (fu (fu (fu (fu F 9 (va_cpy rbf1 b0f1 0 0 8)) 10 (va_cpy rbf2 b0f2 0 0 8)) 11 (va_cpy rbf3 b0f3 0 0 4)) 12 (va_cpy rbf4 b0f4 0 0 32)) 13 (va_cpy rbf5 b0f5 0 0 6)) 14 (va_cpy rbf6 b0f6 0 0 6)) 15 (va_cpy rbf7 b0f7 0 0 6)) (fu U 8 (vL [rbu0, rbu1, rbu2, rbu3, rbu4])) _ (PW_bwC h9 rfl (fun i hi => LC_ne (fu_c (fun e => hi (by rw [e]; exact List.mem_of_getElem? (i := 7) rfl)) (fu_c (fun e => hi (by rw [e]; exact List.mem_of_getElem? (i := 6) rfl)) (fu_c (fun e => hi (by rw [e]; exact List.mem_of_getElem? (i := 5) rfl)) (fu_c (fun e => hi (by rw [e]; exact List.mem_of_getElem? (i := 4) rfl)) (fu_c (fun e => hi (by rw [e]; exact List.mem_of_getElem? (i := 3) rfl)) (fu_c (fun e => hi (by rw [e]; exact List.mem_of_getElem? (i := 2) rfl)) (fu_c (fun e => hi (by rw [e]; exact List.mem_of_getElem? (i := 1) rfl)) rfl))))))) (fu_c (fun e => hi (by rw [e]; exact List.mem_of_getElem? (i := 0) rfl)) rfl)) rfl ?_) (by rw [q_bw_len]) (bw_out rfl) ⟨rfl, (fun p h1 => (by have h1 : ¬ (8 ≤ p ∧ p ≤ 8 + 7) := h1; exact ⟨(fu_c (fun e9 => by omega) (fu_c (fun e9 => by omega) (fu_c (fun e9 => by omega) (fu_c (fun e9 => by omega) (fu_c (fun e9 => by omega) (fu_c (fun e9 => by omega) (fu_c (fun e9 => by omega) rfl))))))), (fu_c (fun e9 => by omega) rfl)⟩)), (by intro j hj i hi; match j, hj with | 0, _ => exact (cpy_lt hi).trans (congrFun i9_9_0 i) | 1, _ => exact (cpy_lt hi).trans (congrFun i9_10_0 i) | 2, _ => exact (cpy_lt hi).trans (congrFun i9_11_1 i) | 3, _ => exact (cpy_lt hi).trans (congrFun i9_12_0 i) | 4, _ => exact (cpy_lt hi).trans (congrFun i9_13_0 i) | 5, _ => exact (cpy_lt hi).trans (congrFun i9_14_0 i) | 6, _ => exact (cpy_lt hi).trans (congrFun i9_15_0 i) | j + 7, hj => exact absurd hj (by simp)), (by intro i hi; match i, hi with | 0, _ => exact i9_8_1.1 | 1, _ => exact i9_8_1.2.1 | 2, _ => exact i9_8_1.2.2.1 | 3, _ => exact i9_8_1.2.2.2.1 | 4, _ => exact i9_8_1.2.2.2.2 | i + 5, hi => exact absurd hi (by omega))⟩
    refine ⟨(show PX_B0 ((vL [rbu0, rbu1, rbu2, rbu3, rbu4])) _ from ⟨_, _, _, _, _, rfl, (by first | assumption | omega | exact q_rg_cpy (by assumption) (by assumption)), ⟨rfl, rfl, rfl, rfl, rfl⟩⟩), ?_⟩
    refine ⟨(show PX_B0_1 ((va_cpy rbf1 b0f1 0 0 8)) _ from ⟨_, rfl, rfl⟩), ?_⟩
    refine ⟨(show PX_B0_2 ((va_cpy rbf2 b0f2 0 0 8)) _ from ⟨_, rfl, rfl⟩), ?_⟩
    refine ⟨(show PX_B0_3 ((va_cpy rbf3 b0f3 0 0 4)) _ from ⟨_, rfl, (by first | assumption | omega | exact q_rg_cpy (by assumption) (by assumption)), rfl⟩), ?_⟩
    refine ⟨(show PX_B0_4 ((va_cpy rbf4 b0f4 0 0 32)) _ from ⟨_, rfl, rfl⟩), ?_⟩
    refine ⟨(show PX_B0_5 ((va_cpy rbf5 b0f5 0 0 6)) _ from ⟨_, rfl, rfl⟩), ?_⟩
    refine ⟨(show PX_B0_6 ((va_cpy rbf6 b0f6 0 0 6)) _ from ⟨_, rfl, rfl⟩), ?_⟩
    refine ⟨(show PX_B0_7 ((va_cpy rbf7 b0f7 0 0 6)) _ from ⟨_, rfl, rfl⟩), ?_⟩
    refine ⟨(show PX_RB (U 48) _ from ⟨_, _, _, _, _, rfl, (by first | assumption | omega | exact q_rg_cpy (by assumption) (by assumption)), i9_8_1⟩), ?_⟩
    refine ⟨(show PX_RB_1 (F 49) _ from ⟨_, rfl, i9_9_0⟩), ?_⟩
    refine ⟨(show PX_RB_2 (F 50) _ from ⟨_, rfl, i9_10_0⟩), ?_⟩
    refine ⟨(show PX_RB_3 (F 51) _ from ⟨_, rfl, (by first | assumption | omega | exact q_rg_cpy (by assumption) (by assumption)), i9_11_1⟩), ?_⟩
    refine ⟨(show PX_RB_4 (F 52) _ from ⟨_, rfl, i9_12_0⟩), ?_⟩
    refine ⟨(show PX_RB_5 (F 53) _ from ⟨_, rfl, i9_13_0⟩), ?_⟩
    refine ⟨(show PX_RB_6 (F 54) _ from ⟨_, rfl, i9_14_0⟩), ?_⟩
    refine ⟨(show PX_RB_7 (F 55) _ from ⟨_, rfl, i9_15_0⟩), ?_⟩
    exact trivial

def sX_cpB1 : qS := spX (fun av => av = [q2 16, q2 48]) (fun F U _ r F' U' => r = none ∧ CpBlk [8, 8, 4, 32, 6, 6, 6] 5 16 48 F U F' U')
set_option maxHeartbeats 4000000 in
set_option maxRecDepth 100000 in
theorem mX_cpB1 (l : Launch) : q_M l yX0_copy cX0_copy 2 none 1 68 sX_cpB1 := by
  refine q_M_mono (fun av w Q h9 => ?_) (q_M_fr (m_X0_copy l))
  obtain ⟨F, U, h9, rfl, hQ9⟩ := h9
  obtain ⟨_, e9_0, b1u0, b1u1, b1u2, b1u3, b1u4, rfl, i9_0_0, i9_0_1⟩ := h9 16 _ rfl
  obtain ⟨_, e9_1, b1f1, rfl, i9_1_0⟩ := h9 17 _ rfl
  obtain ⟨_, e9_2, b1f2, rfl, i9_2_0⟩ := h9 18 _ rfl
  obtain ⟨_, e9_3, b1f3, rfl, i9_3_0, i9_3_1⟩ := h9 19 _ rfl
  obtain ⟨_, e9_4, b1f4, rfl, i9_4_0⟩ := h9 20 _ rfl
  obtain ⟨_, e9_5, b1f5, rfl, i9_5_0⟩ := h9 21 _ rfl
  obtain ⟨_, e9_6, b1f6, rfl, i9_6_0⟩ := h9 22 _ rfl
  obtain ⟨_, e9_7, b1f7, rfl, i9_7_0⟩ := h9 23 _ rfl
  obtain ⟨_, e9_8, rbu0, rbu1, rbu2, rbu3, rbu4, rfl, i9_8_0, i9_8_1⟩ := h9 48 _ rfl
  obtain ⟨_, e9_9, rbf1, rfl, i9_9_0⟩ := h9 49 _ rfl
  obtain ⟨_, e9_10, rbf2, rfl, i9_10_0⟩ := h9 50 _ rfl
  obtain ⟨_, e9_11, rbf3, rfl, i9_11_0, i9_11_1⟩ := h9 51 _ rfl
  obtain ⟨_, e9_12, rbf4, rfl, i9_12_0⟩ := h9 52 _ rfl
  obtain ⟨_, e9_13, rbf5, rfl, i9_13_0⟩ := h9 53 _ rfl
  obtain ⟨_, e9_14, rbf6, rfl, i9_14_0⟩ := h9 54 _ rfl
  obtain ⟨_, e9_15, rbf7, rfl, i9_15_0⟩ := h9 55 _ rfl
  refine ⟨[16, 17, 18, 19, 20, 21, 22, 23, 48, 49, 50, 51, 52, 53, 54, 55], [q2 0, q2 8], (wBo 0 b1f1 b1f2 b1f3 b1f4 b1f5 b1f6 b1f7 b1u0 b1u1 b1u2 b1u3 b1u4 ++ wBo 8 rbf1 rbf2 rbf3 rbf4 rbf5 rbf6 rbf7 rbu0 rbu1 rbu2 rbu3 rbu4), rfl, ?_, rfl, ?_⟩
  · show [w[16]?, w[17]?, w[18]?, w[19]?, w[20]?, w[21]?, w[22]?, w[23]?, w[48]?, w[49]?, w[50]?, w[51]?, w[52]?, w[53]?, w[54]?, w[55]?] = _
    rw [e9_0, e9_1, e9_2, e9_3, e9_4, e9_5, e9_6, e9_7, e9_8, e9_9, e9_10, e9_11, e9_12, e9_13, e9_14, e9_15]
    rfl
  · refine ⟨b1f1, b1f2, b1f3, b1f4, b1f5, b1f6, b1f7, b1u0, b1u1, b1u2, b1u3, b1u4, rbf1, rbf2, rbf3, rbf4, rbf5, rbf6, rbf7, rbu0, rbu1, rbu2, rbu3, rbu4, rfl, rfl, fun hlen => ?_⟩
    refine hQ9 _ (fu (fu (fu (fu (fu (fu (fu F 17 (va_cpy rbf1 b1f1 0 0 8)) 18 (va_cpy rbf2 b1f2 0 0 8)) 19 (va_cpy rbf3 b1f3 0 0 4)) 20 (va_cpy rbf4 b1f4 0 0 32)) 21 (va_cpy rbf5 b1f5 0 0 6)) 22 (va_cpy rbf6 b1f6 0 0 6)) 23 (va_cpy rbf7 b1f7 0 0 6)) (fu U 16 (vL [rbu0, rbu1, rbu2, rbu3, rbu4])) _ (PW_bwC h9 rfl (fun i hi => LC_ne (fu_c (fun e => hi (by rw [e]; exact List.mem_of_getElem? (i := 7) rfl)) (fu_c (fun e => hi (by rw [e]; exact List.mem_of_getElem? (i := 6) rfl)) (fu_c (fun e => hi (by rw [e]; exact List.mem_of_getElem? (i := 5) rfl)) (fu_c (fun e => hi (by rw [e]; exact List.mem_of_getElem? (i := 4) rfl)) (fu_c (fun e => hi (by rw [e]; exact List.mem_of_getElem? (i := 3) rfl)) (fu_c (fun e => hi (by rw [e]; exact List.mem_of_getElem? (i := 2) rfl)) (fu_c (fun e => hi (by rw [e]; exact List.mem_of_getElem? (i := 1) rfl)) rfl))))))) (fu_c (fun e => hi (by rw [e]; exact List.mem_of_getElem? (i := 0) rfl)) rfl)) rfl ?_) (by rw [q_bw_len]) (bw_out rfl) ⟨rfl, (fun p h1 => (by have h1 : ¬ (16 ≤ p ∧ p ≤ 16 + 7) := h1; exact ⟨(fu_c (fun e9 => by omega) (fu_c (fun e9 => by omega) (fu_c (fun e9 => by omega) (fu_c (fun e9 => by omega) (fu_c (fun e9 => by omega) (fu_c (fun e9 => by omega) (fu_c (fun e9 => by omega) rfl))))))), (fu_c (fun e9 => by omega) rfl)⟩)), (by intro j hj i hi; match j, hj with | 0, _ => exact (cpy_lt hi).trans (congrFun i9_9_0 i) | 1, _ => exact (cpy_lt hi).trans (congrFun i9_10_0 i) | 2, _ => exact (cpy_lt hi).trans (congrFun i9_11_1 i) | 3, _ => exact (cpy_lt hi).trans (congrFun i9_12_0 i) | 4, _ => exact (cpy_lt hi).trans (congrFun i9_13_0 i) | 5, _ => exact (cpy_lt hi).trans (congrFun i9_14_0 i) | 6, _ => exact (cpy_lt hi).trans (congrFun i9_15_0 i) | j + 7, hj => exact absurd hj (by simp)), (by intro i hi; match i, hi with | 0, _ => exact i9_8_1.1 | 1, _ => exact i9_8_1.2.1 | 2, _ => exact i9_8_1.2.2.1 | 3, _ => exact i9_8_1.2.2.2.1 | 4, _ => exact i9_8_1.2.2.2.2 | i + 5, hi => exact absurd hi (by omega))⟩
    refine ⟨(show PX_B1 ((vL [rbu0, rbu1, rbu2, rbu3, rbu4])) _ from ⟨_, _, _, _, _, rfl, (by first | assumption | omega | exact q_rg_cpy (by assumption) (by assumption)), ⟨rfl, rfl, rfl, rfl, rfl⟩⟩), ?_⟩
    refine ⟨(show PX_B1_1 ((va_cpy rbf1 b1f1 0 0 8)) _ from ⟨_, rfl, rfl⟩), ?_⟩
    refine ⟨(show PX_B1_2 ((va_cpy rbf2 b1f2 0 0 8)) _ from ⟨_, rfl, rfl⟩), ?_⟩
    refine ⟨(show PX_B1_3 ((va_cpy rbf3 b1f3 0 0 4)) _ from ⟨_, rfl, (by first | assumption | omega | exact q_rg_cpy (by assumption) (by assumption)), rfl⟩), ?_⟩
    refine ⟨(show PX_B1_4 ((va_cpy rbf4 b1f4 0 0 32)) _ from ⟨_, rfl, rfl⟩), ?_⟩
    refine ⟨(show PX_B1_5 ((va_cpy rbf5 b1f5 0 0 6)) _ from ⟨_, rfl, rfl⟩), ?_⟩
    refine ⟨(show PX_B1_6 ((va_cpy rbf6 b1f6 0 0 6)) _ from ⟨_, rfl, rfl⟩), ?_⟩
    refine ⟨(show PX_B1_7 ((va_cpy rbf7 b1f7 0 0 6)) _ from ⟨_, rfl, rfl⟩), ?_⟩
    refine ⟨(show PX_RB (U 48) _ from ⟨_, _, _, _, _, rfl, (by first | assumption | omega | exact q_rg_cpy (by assumption) (by assumption)), i9_8_1⟩), ?_⟩
    refine ⟨(show PX_RB_1 (F 49) _ from ⟨_, rfl, i9_9_0⟩), ?_⟩
    refine ⟨(show PX_RB_2 (F 50) _ from ⟨_, rfl, i9_10_0⟩), ?_⟩
    refine ⟨(show PX_RB_3 (F 51) _ from ⟨_, rfl, (by first | assumption | omega | exact q_rg_cpy (by assumption) (by assumption)), i9_11_1⟩), ?_⟩
    refine ⟨(show PX_RB_4 (F 52) _ from ⟨_, rfl, i9_12_0⟩), ?_⟩
    refine ⟨(show PX_RB_5 (F 53) _ from ⟨_, rfl, i9_13_0⟩), ?_⟩
    refine ⟨(show PX_RB_6 (F 54) _ from ⟨_, rfl, i9_14_0⟩), ?_⟩
    refine ⟨(show PX_RB_7 (F 55) _ from ⟨_, rfl, i9_15_0⟩), ?_⟩
    exact trivial

def sX_cpB : qS := spX (fun av => av = [q2 8, q2 48] ∨ av = [q2 16, q2 48]) (fun F U av r F' U' => r = none ∧ ∃ p : Nat, av = [q2 p, q2 48] ∧ CpBlk [8, 8, 4, 32, 6, 6, 6] 5 p 48 F U F' U')
theorem mX_cpB (l : Launch) : q_M l yX0_copy cX0_copy 2 none 1 68 sX_cpB := by
  intro dC dI k g av w Q sz hs oka okw
  obtain ⟨F, U, h1, h2 | h2, h3⟩ := hs
  · exact mX_cpB0 l dC dI k g av w Q sz ⟨F, U, h1, h2, fun r F' U' w' a b c d => h3 r F' U' w' a b c ⟨d.1, _, h2, d.2⟩⟩ oka okw
  · exact mX_cpB1 l dC dI k g av w Q sz ⟨F, U, h1, h2, fun r F' U' w' a b c d => h3 r F' U' w' a b c ⟨d.1, _, h2, d.2⟩⟩ oka okw

def sX_cpY0 : qS := spX (fun av => av = [q2 24, q2 56]) (fun F U _ r F' U' => r = none ∧ CpBlk [40, 40, 40, 40] 1 24 56 F U F' U')
set_option maxHeartbeats 4000000 in
set_option maxRecDepth 100000 in
theorem mX_cpY0 (l : Launch) : q_M l yX10_copy cX10_copy 2 none 1 68 sX_cpY0 := by
  refine q_M_mono (fun av w Q h9 => ?_) (q_M_fr (m_X10_copy l))
  obtain ⟨F, U, h9, rfl, hQ9⟩ := h9
  obtain ⟨_, e9_0, y0d, rfl, i9_0_0, i9_0_1⟩ := h9 24 _ rfl
  obtain ⟨_, e9_1, y0k1, rfl, i9_1_0⟩ := h9 25 _ rfl
  obtain ⟨_, e9_2, y0k2, rfl, i9_2_0⟩ := h9 26 _ rfl
  obtain ⟨_, e9_3, y0k3, rfl, i9_3_0⟩ := h9 27 _ rfl
  obtain ⟨_, e9_4, y0k4, rfl, i9_4_0⟩ := h9 28 _ rfl
  obtain ⟨_, e9_5, ryd, rfl, i9_5_0, i9_5_1⟩ := h9 56 _ rfl
  obtain ⟨_, e9_6, ryk1, rfl, i9_6_0⟩ := h9 57 _ rfl
  obtain ⟨_, e9_7, ryk2, rfl, i9_7_0⟩ := h9 58 _ rfl
  obtain ⟨_, e9_8, ryk3, rfl, i9_8_0⟩ := h9 59 _ rfl
  obtain ⟨_, e9_9, ryk4, rfl, i9_9_0⟩ := h9 60 _ rfl
  refine ⟨[24, 25, 26, 27, 28, 56, 57, 58, 59, 60], [q2 0, q2 5], (wYo 0 y0k1 y0k2 y0k3 y0k4 y0d ++ wYo 5 ryk1 ryk2 ryk3 ryk4 ryd), rfl, ?_, rfl, ?_⟩
  · show [w[24]?, w[25]?, w[26]?, w[27]?, w[28]?, w[56]?, w[57]?, w[58]?, w[59]?, w[60]?] = _
    rw [e9_0, e9_1, e9_2, e9_3, e9_4, e9_5, e9_6, e9_7, e9_8, e9_9]
    rfl
  · refine ⟨y0k1, y0k2, y0k3, y0k4, y0d, ryk1, ryk2, ryk3, ryk4, ryd, rfl, rfl, fun hlen => ?_⟩
    refine hQ9 _ (fu (fu (fu (fu F 25 (va_cpy ryk1 y0k1 0 0 40)) 26 (va_cpy ryk2 y0k2 0 0 40)) 27 (va_cpy ryk3 y0k3 0 0 40)) 28 (va_cpy ryk4 y0k4 0 0 40)) (fu U 24 (vL [ryd])) _ (PW_bwC h9 rfl (fun i hi => LC_ne (fu_c (fun e => hi (by rw [e]; exact List.mem_of_getElem? (i := 4) rfl)) (fu_c (fun e => hi (by rw [e]; exact List.mem_of_getElem? (i := 3) rfl)) (fu_c (fun e => hi (by rw [e]; exact List.mem_of_getElem? (i := 2) rfl)) (fu_c (fun e => hi (by rw [e]; exact List.mem_of_getElem? (i := 1) rfl)) rfl)))) (fu_c (fun e => hi (by rw [e]; exact List.mem_of_getElem? (i := 0) rfl)) rfl)) rfl ?_) (by rw [q_bw_len]) (bw_out rfl) ⟨rfl, (fun p h1 => (by have h1 : ¬ (24 ≤ p ∧ p ≤ 24 + 4) := h1; exact ⟨(fu_c (fun e9 => by omega) (fu_c (fun e9 => by omega) (fu_c (fun e9 => by omega) (fu_c (fun e9 => by omega) rfl)))), (fu_c (fun e9 => by omega) rfl)⟩)), (by intro j hj i hi; match j, hj with | 0, _ => exact (cpy_lt hi).trans (congrFun i9_6_0 i) | 1, _ => exact (cpy_lt hi).trans (congrFun i9_7_0 i) | 2, _ => exact (cpy_lt hi).trans (congrFun i9_8_0 i) | 3, _ => exact (cpy_lt hi).trans (congrFun i9_9_0 i) | j + 4, hj => exact absurd hj (by simp)), (by intro i hi; match i, hi with | 0, _ => exact i9_5_1 | i + 1, hi => exact absurd hi (by omega))⟩
    refine ⟨(show PX_Y0 ((vL [ryd])) _ from ⟨_, rfl, (by first | assumption | omega | exact q_rg_cpy (by assumption) (by assumption)), rfl⟩), ?_⟩
    refine ⟨(show PX_Y0_1 ((va_cpy ryk1 y0k1 0 0 40)) _ from ⟨_, rfl, rfl⟩), ?_⟩
    refine ⟨(show PX_Y0_2 ((va_cpy ryk2 y0k2 0 0 40)) _ from ⟨_, rfl, rfl⟩), ?_⟩
    refine ⟨(show PX_Y0_3 ((va_cpy ryk3 y0k3 0 0 40)) _ from ⟨_, rfl, rfl⟩), ?_⟩
    refine ⟨(show PX_Y0_4 ((va_cpy ryk4 y0k4 0 0 40)) _ from ⟨_, rfl, rfl⟩), ?_⟩
    refine ⟨(show PX_RY (U 56) _ from ⟨_, rfl, (by first | assumption | omega | exact q_rg_cpy (by assumption) (by assumption)), i9_5_1⟩), ?_⟩
    refine ⟨(show PX_RY_1 (F 57) _ from ⟨_, rfl, i9_6_0⟩), ?_⟩
    refine ⟨(show PX_RY_2 (F 58) _ from ⟨_, rfl, i9_7_0⟩), ?_⟩
    refine ⟨(show PX_RY_3 (F 59) _ from ⟨_, rfl, i9_8_0⟩), ?_⟩
    refine ⟨(show PX_RY_4 (F 60) _ from ⟨_, rfl, i9_9_0⟩), ?_⟩
    exact trivial

def sX_cpY1 : qS := spX (fun av => av = [q2 29, q2 56]) (fun F U _ r F' U' => r = none ∧ CpBlk [40, 40, 40, 40] 1 29 56 F U F' U')
set_option maxHeartbeats 4000000 in
set_option maxRecDepth 100000 in
theorem mX_cpY1 (l : Launch) : q_M l yX10_copy cX10_copy 2 none 1 68 sX_cpY1 := by
  refine q_M_mono (fun av w Q h9 => ?_) (q_M_fr (m_X10_copy l))
  obtain ⟨F, U, h9, rfl, hQ9⟩ := h9
  obtain ⟨_, e9_0, y1d, rfl, i9_0_0, i9_0_1⟩ := h9 29 _ rfl
  obtain ⟨_, e9_1, y1k1, rfl, i9_1_0⟩ := h9 30 _ rfl
  obtain ⟨_, e9_2, y1k2, rfl, i9_2_0⟩ := h9 31 _ rfl
  obtain ⟨_, e9_3, y1k3, rfl, i9_3_0⟩ := h9 32 _ rfl
  obtain ⟨_, e9_4, y1k4, rfl, i9_4_0⟩ := h9 33 _ rfl
  obtain ⟨_, e9_5, ryd, rfl, i9_5_0, i9_5_1⟩ := h9 56 _ rfl
  obtain ⟨_, e9_6, ryk1, rfl, i9_6_0⟩ := h9 57 _ rfl
  obtain ⟨_, e9_7, ryk2, rfl, i9_7_0⟩ := h9 58 _ rfl
  obtain ⟨_, e9_8, ryk3, rfl, i9_8_0⟩ := h9 59 _ rfl
  obtain ⟨_, e9_9, ryk4, rfl, i9_9_0⟩ := h9 60 _ rfl
  refine ⟨[29, 30, 31, 32, 33, 56, 57, 58, 59, 60], [q2 0, q2 5], (wYo 0 y1k1 y1k2 y1k3 y1k4 y1d ++ wYo 5 ryk1 ryk2 ryk3 ryk4 ryd), rfl, ?_, rfl, ?_⟩
  · show [w[29]?, w[30]?, w[31]?, w[32]?, w[33]?, w[56]?, w[57]?, w[58]?, w[59]?, w[60]?] = _
    rw [e9_0, e9_1, e9_2, e9_3, e9_4, e9_5, e9_6, e9_7, e9_8, e9_9]
    rfl
  · refine ⟨y1k1, y1k2, y1k3, y1k4, y1d, ryk1, ryk2, ryk3, ryk4, ryd, rfl, rfl, fun hlen => ?_⟩
    refine hQ9 _ (fu (fu (fu (fu F 30 (va_cpy ryk1 y1k1 0 0 40)) 31 (va_cpy ryk2 y1k2 0 0 40)) 32 (va_cpy ryk3 y1k3 0 0 40)) 33 (va_cpy ryk4 y1k4 0 0 40)) (fu U 29 (vL [ryd])) _ (PW_bwC h9 rfl (fun i hi => LC_ne (fu_c (fun e => hi (by rw [e]; exact List.mem_of_getElem? (i := 4) rfl)) (fu_c (fun e => hi (by rw [e]; exact List.mem_of_getElem? (i := 3) rfl)) (fu_c (fun e => hi (by rw [e]; exact List.mem_of_getElem? (i := 2) rfl)) (fu_c (fun e => hi (by rw [e]; exact List.mem_of_getElem? (i := 1) rfl)) rfl)))) (fu_c (fun e => hi (by rw [e]; exact List.mem_of_getElem? (i := 0) rfl)) rfl)) rfl ?_) (by rw [q_bw_len]) (bw_out rfl) ⟨rfl, (fun p h1 => (by have h1 : ¬ (29 ≤ p ∧ p ≤ 29 + 4) := h1; exact ⟨(fu_c (fun e9 => by omega) (fu_c (fun e9 => by omega) (fu_c (fun e9 => by omega) (fu_c (fun e9 => by omega) rfl)))), (fu_c (fun e9 => by omega) rfl)⟩)), (by intro j hj i hi; match j, hj with | 0, _ => exact (cpy_lt hi).trans (congrFun i9_6_0 i) | 1, _ => exact (cpy_lt hi).trans (congrFun i9_7_0 i) | 2, _ => exact (cpy_lt hi).trans (congrFun i9_8_0 i) | 3, _ => exact (cpy_lt hi).trans (congrFun i9_9_0 i) | j + 4, hj => exact absurd hj (by simp)), (by intro i hi; match i, hi with | 0, _ => exact i9_5_1 | i + 1, hi => exact absurd hi (by omega))⟩
    refine ⟨(show PX_Y1 ((vL [ryd])) _ from ⟨_, rfl, (by first | assumption | omega | exact q_rg_cpy (by assumption) (by assumption)), rfl⟩), ?_⟩
    refine ⟨(show PX_Y1_1 ((va_cpy ryk1 y1k1 0 0 40)) _ from ⟨_, rfl, rfl⟩), ?_⟩
    refine ⟨(show PX_Y1_2 ((va_cpy ryk2 y1k2 0 0 40)) _ from ⟨_, rfl, rfl⟩), ?_⟩
    refine ⟨(show PX_Y1_3 ((va_cpy ryk3 y1k3 0 0 40)) _ from ⟨_, rfl, rfl⟩), ?_⟩
    refine ⟨(show PX_Y1_4 ((va_cpy ryk4 y1k4 0 0 40)) _ from ⟨_, rfl, rfl⟩), ?_⟩
    refine ⟨(show PX_RY (U 56) _ from ⟨_, rfl, (by first | assumption | omega | exact q_rg_cpy (by assumption) (by assumption)), i9_5_1⟩), ?_⟩
    refine ⟨(show PX_RY_1 (F 57) _ from ⟨_, rfl, i9_6_0⟩), ?_⟩
    refine ⟨(show PX_RY_2 (F 58) _ from ⟨_, rfl, i9_7_0⟩), ?_⟩
    refine ⟨(show PX_RY_3 (F 59) _ from ⟨_, rfl, i9_8_0⟩), ?_⟩
    refine ⟨(show PX_RY_4 (F 60) _ from ⟨_, rfl, i9_9_0⟩), ?_⟩
    exact trivial

def sX_cpY : qS := spX (fun av => av = [q2 24, q2 56] ∨ av = [q2 29, q2 56]) (fun F U av r F' U' => r = none ∧ ∃ p : Nat, av = [q2 p, q2 56] ∧ CpBlk [40, 40, 40, 40] 1 p 56 F U F' U')
theorem mX_cpY (l : Launch) : q_M l yX10_copy cX10_copy 2 none 1 68 sX_cpY := by
  intro dC dI k g av w Q sz hs oka okw
  obtain ⟨F, U, h1, h2 | h2, h3⟩ := hs
  · exact mX_cpY0 l dC dI k g av w Q sz ⟨F, U, h1, h2, fun r F' U' w' a b c d => h3 r F' U' w' a b c ⟨d.1, _, h2, d.2⟩⟩ oka okw
  · exact mX_cpY1 l dC dI k g av w Q sz ⟨F, U, h1, h2, fun r F' U' w' a b c d => h3 r F' U' w' a b c ⟨d.1, _, h2, d.2⟩⟩ oka okw

def sX_cpL0 : qS := spX (fun av => av = [q2 34, q2 61]) (fun F U _ r F' U' => r = none ∧ CpBlk [8] 1 34 61 F U F' U')
set_option maxHeartbeats 4000000 in
set_option maxRecDepth 100000 in
theorem mX_cpL0 (l : Launch) : q_M l yX3_copy cX3_copy 2 none 1 68 sX_cpL0 := by
  refine q_M_mono (fun av w Q h9 => ?_) (q_M_fr (m_X3_copy l))
  obtain ⟨F, U, h9, rfl, hQ9⟩ := h9
  obtain ⟨_, e9_0, l0o, rfl, i9_0_0⟩ := h9 34 _ rfl
  obtain ⟨_, e9_1, l0g, rfl, i9_1_0⟩ := h9 35 _ rfl
  obtain ⟨_, e9_2, rlo, rfl, i9_2_0⟩ := h9 61 _ rfl
  obtain ⟨_, e9_3, rlg, rfl, i9_3_0⟩ := h9 62 _ rfl
  refine ⟨[34, 35, 61, 62], [q2 0, q2 2], (wLo 0 l0g l0o ++ wLo 2 rlg rlo), rfl, ?_, rfl, ?_⟩
  · show [w[34]?, w[35]?, w[61]?, w[62]?] = _
    rw [e9_0, e9_1, e9_2, e9_3]
    rfl
  · refine ⟨l0g, l0o, rlg, rlo, rfl, rfl, fun hlen => ?_⟩
    refine hQ9 _ (fu F 35 (va_cpy rlg l0g 0 0 8)) (fu U 34 (vL [rlo])) _ (PW_bwC h9 rfl (fun i hi => LC_ne (fu_c (fun e => hi (by rw [e]; exact List.mem_of_getElem? (i := 1) rfl)) rfl) (fu_c (fun e => hi (by rw [e]; exact List.mem_of_getElem? (i := 0) rfl)) rfl)) rfl ?_) (by rw [q_bw_len]) (bw_out rfl) ⟨rfl, (fun p h1 => (by have h1 : ¬ (34 ≤ p ∧ p ≤ 34 + 1) := h1; exact ⟨(fu_c (fun e9 => by omega) rfl), (fu_c (fun e9 => by omega) rfl)⟩)), (by intro j hj i hi; match j, hj with | 0, _ => exact (cpy_lt hi).trans (congrFun i9_3_0 i) | j + 1, hj => exact absurd hj (by simp)), (by intro i hi; match i, hi with | 0, _ => exact i9_2_0 | i + 1, hi => exact absurd hi (by omega))⟩
    refine ⟨(show PX_L0 ((vL [rlo])) _ from ⟨_, rfl, rfl⟩), ?_⟩
    refine ⟨(show PX_L0_1 ((va_cpy rlg l0g 0 0 8)) _ from ⟨_, rfl, rfl⟩), ?_⟩
    refine ⟨(show PX_RL (U 61) _ from ⟨_, rfl, i9_2_0⟩), ?_⟩
    refine ⟨(show PX_RL_1 (F 62) _ from ⟨_, rfl, i9_3_0⟩), ?_⟩
    exact trivial

def sX_cpL1 : qS := spX (fun av => av = [q2 36, q2 61]) (fun F U _ r F' U' => r = none ∧ CpBlk [8] 1 36 61 F U F' U')
set_option maxHeartbeats 4000000 in
set_option maxRecDepth 100000 in
theorem mX_cpL1 (l : Launch) : q_M l yX3_copy cX3_copy 2 none 1 68 sX_cpL1 := by
  refine q_M_mono (fun av w Q h9 => ?_) (q_M_fr (m_X3_copy l))
  obtain ⟨F, U, h9, rfl, hQ9⟩ := h9
  obtain ⟨_, e9_0, l1o, rfl, i9_0_0⟩ := h9 36 _ rfl
  obtain ⟨_, e9_1, l1g, rfl, i9_1_0⟩ := h9 37 _ rfl
  obtain ⟨_, e9_2, rlo, rfl, i9_2_0⟩ := h9 61 _ rfl
  obtain ⟨_, e9_3, rlg, rfl, i9_3_0⟩ := h9 62 _ rfl
  refine ⟨[36, 37, 61, 62], [q2 0, q2 2], (wLo 0 l1g l1o ++ wLo 2 rlg rlo), rfl, ?_, rfl, ?_⟩
  · show [w[36]?, w[37]?, w[61]?, w[62]?] = _
    rw [e9_0, e9_1, e9_2, e9_3]
    rfl
  · refine ⟨l1g, l1o, rlg, rlo, rfl, rfl, fun hlen => ?_⟩
    refine hQ9 _ (fu F 37 (va_cpy rlg l1g 0 0 8)) (fu U 36 (vL [rlo])) _ (PW_bwC h9 rfl (fun i hi => LC_ne (fu_c (fun e => hi (by rw [e]; exact List.mem_of_getElem? (i := 1) rfl)) rfl) (fu_c (fun e => hi (by rw [e]; exact List.mem_of_getElem? (i := 0) rfl)) rfl)) rfl ?_) (by rw [q_bw_len]) (bw_out rfl) ⟨rfl, (fun p h1 => (by have h1 : ¬ (36 ≤ p ∧ p ≤ 36 + 1) := h1; exact ⟨(fu_c (fun e9 => by omega) rfl), (fu_c (fun e9 => by omega) rfl)⟩)), (by intro j hj i hi; match j, hj with | 0, _ => exact (cpy_lt hi).trans (congrFun i9_3_0 i) | j + 1, hj => exact absurd hj (by simp)), (by intro i hi; match i, hi with | 0, _ => exact i9_2_0 | i + 1, hi => exact absurd hi (by omega))⟩
    refine ⟨(show PX_L1 ((vL [rlo])) _ from ⟨_, rfl, rfl⟩), ?_⟩
    refine ⟨(show PX_L1_1 ((va_cpy rlg l1g 0 0 8)) _ from ⟨_, rfl, rfl⟩), ?_⟩
    refine ⟨(show PX_RL (U 61) _ from ⟨_, rfl, i9_2_0⟩), ?_⟩
    refine ⟨(show PX_RL_1 (F 62) _ from ⟨_, rfl, i9_3_0⟩), ?_⟩
    exact trivial

def sX_cpL : qS := spX (fun av => av = [q2 34, q2 61] ∨ av = [q2 36, q2 61]) (fun F U av r F' U' => r = none ∧ ∃ p : Nat, av = [q2 p, q2 61] ∧ CpBlk [8] 1 p 61 F U F' U')
theorem mX_cpL (l : Launch) : q_M l yX3_copy cX3_copy 2 none 1 68 sX_cpL := by
  intro dC dI k g av w Q sz hs oka okw
  obtain ⟨F, U, h1, h2 | h2, h3⟩ := hs
  · exact mX_cpL0 l dC dI k g av w Q sz ⟨F, U, h1, h2, fun r F' U' w' a b c d => h3 r F' U' w' a b c ⟨d.1, _, h2, d.2⟩⟩ oka okw
  · exact mX_cpL1 l dC dI k g av w Q sz ⟨F, U, h1, h2, fun r F' U' w' a b c d => h3 r F' U' w' a b c ⟨d.1, _, h2, d.2⟩⟩ oka okw

def sX_cpS0 : qS := spX (fun av => av = [q2 38, q2 63]) (fun F U _ r F' U' => r = none ∧ CpBlk [10, 10] 1 38 63 F U F' U')
set_option maxHeartbeats 4000000 in
set_option maxRecDepth 100000 in
theorem mX_cpS0 (l : Launch) : q_M l yX7_copy cX7_copy 2 none 1 68 sX_cpS0 := by
  refine q_M_mono (fun av w Q h9 => ?_) (q_M_fr (m_X7_copy l))
  obtain ⟨F, U, h9, rfl, hQ9⟩ := h9
  obtain ⟨_, e9_0, s0c, rfl, i9_0_0, i9_0_1⟩ := h9 38 _ rfl
  obtain ⟨_, e9_1, s0p, rfl, i9_1_0⟩ := h9 39 _ rfl
  obtain ⟨_, e9_2, s0t, rfl, i9_2_0⟩ := h9 40 _ rfl
  obtain ⟨_, e9_3, rsc, rfl, i9_3_0, i9_3_1⟩ := h9 63 _ rfl
  obtain ⟨_, e9_4, rsp, rfl, i9_4_0⟩ := h9 64 _ rfl
  obtain ⟨_, e9_5, rsq, rfl, i9_5_0⟩ := h9 65 _ rfl
  refine ⟨[38, 39, 40, 63, 64, 65], [q2 0, q2 3], (wSo 0 s0p s0t s0c ++ wSo 3 rsp rsq rsc), rfl, ?_, rfl, ?_⟩
  · show [w[38]?, w[39]?, w[40]?, w[63]?, w[64]?, w[65]?] = _
    rw [e9_0, e9_1, e9_2, e9_3, e9_4, e9_5]
    rfl
  · refine ⟨s0p, s0t, s0c, rsp, rsq, rsc, rfl, rfl, fun hlen => ?_⟩
    refine hQ9 _ (fu (fu F 39 (va_cpy rsp s0p 0 0 10)) 40 (va_cpy rsq s0t 0 0 10)) (fu U 38 (vL [rsc])) _ (PW_bwC h9 rfl (fun i hi => LC_ne (fu_c (fun e => hi (by rw [e]; exact List.mem_of_getElem? (i := 2) rfl)) (fu_c (fun e => hi (by rw [e]; exact List.mem_of_getElem? (i := 1) rfl)) rfl)) (fu_c (fun e => hi (by rw [e]; exact List.mem_of_getElem? (i := 0) rfl)) rfl)) rfl ?_) (by rw [q_bw_len]) (bw_out rfl) ⟨rfl, (fun p h1 => (by have h1 : ¬ (38 ≤ p ∧ p ≤ 38 + 2) := h1; exact ⟨(fu_c (fun e9 => by omega) (fu_c (fun e9 => by omega) rfl)), (fu_c (fun e9 => by omega) rfl)⟩)), (by intro j hj i hi; match j, hj with | 0, _ => exact (cpy_lt hi).trans (congrFun i9_4_0 i) | 1, _ => exact (cpy_lt hi).trans (congrFun i9_5_0 i) | j + 2, hj => exact absurd hj (by simp)), (by intro i hi; match i, hi with | 0, _ => exact i9_3_1 | i + 1, hi => exact absurd hi (by omega))⟩
    refine ⟨(show PX_S0 ((vL [rsc])) _ from ⟨_, rfl, (by first | assumption | omega | exact q_rg_cpy (by assumption) (by assumption)), rfl⟩), ?_⟩
    refine ⟨(show PX_S0_1 ((va_cpy rsp s0p 0 0 10)) _ from ⟨_, rfl, rfl⟩), ?_⟩
    refine ⟨(show PX_S0_2 ((va_cpy rsq s0t 0 0 10)) _ from ⟨_, rfl, rfl⟩), ?_⟩
    refine ⟨(show PX_RS (U 63) _ from ⟨_, rfl, (by first | assumption | omega | exact q_rg_cpy (by assumption) (by assumption)), i9_3_1⟩), ?_⟩
    refine ⟨(show PX_RS_1 (F 64) _ from ⟨_, rfl, i9_4_0⟩), ?_⟩
    refine ⟨(show PX_RS_2 (F 65) _ from ⟨_, rfl, i9_5_0⟩), ?_⟩
    exact trivial

def sX_cpS1 : qS := spX (fun av => av = [q2 41, q2 63]) (fun F U _ r F' U' => r = none ∧ CpBlk [10, 10] 1 41 63 F U F' U')
set_option maxHeartbeats 4000000 in
set_option maxRecDepth 100000 in
theorem mX_cpS1 (l : Launch) : q_M l yX7_copy cX7_copy 2 none 1 68 sX_cpS1 := by
  refine q_M_mono (fun av w Q h9 => ?_) (q_M_fr (m_X7_copy l))
  obtain ⟨F, U, h9, rfl, hQ9⟩ := h9
  obtain ⟨_, e9_0, s1c, rfl, i9_0_0, i9_0_1⟩ := h9 41 _ rfl
  obtain ⟨_, e9_1, s1p, rfl, i9_1_0⟩ := h9 42 _ rfl
  obtain ⟨_, e9_2, s1t, rfl, i9_2_0⟩ := h9 43 _ rfl
  obtain ⟨_, e9_3, rsc, rfl, i9_3_0, i9_3_1⟩ := h9 63 _ rfl
  obtain ⟨_, e9_4, rsp, rfl, i9_4_0⟩ := h9 64 _ rfl
  obtain ⟨_, e9_5, rsq, rfl, i9_5_0⟩ := h9 65 _ rfl
  refine ⟨[41, 42, 43, 63, 64, 65], [q2 0, q2 3], (wSo 0 s1p s1t s1c ++ wSo 3 rsp rsq rsc), rfl, ?_, rfl, ?_⟩
  · show [w[41]?, w[42]?, w[43]?, w[63]?, w[64]?, w[65]?] = _
    rw [e9_0, e9_1, e9_2, e9_3, e9_4, e9_5]
    rfl
  · refine ⟨s1p, s1t, s1c, rsp, rsq, rsc, rfl, rfl, fun hlen => ?_⟩
    refine hQ9 _ (fu (fu F 42 (va_cpy rsp s1p 0 0 10)) 43 (va_cpy rsq s1t 0 0 10)) (fu U 41 (vL [rsc])) _ (PW_bwC h9 rfl (fun i hi => LC_ne (fu_c (fun e => hi (by rw [e]; exact List.mem_of_getElem? (i := 2) rfl)) (fu_c (fun e => hi (by rw [e]; exact List.mem_of_getElem? (i := 1) rfl)) rfl)) (fu_c (fun e => hi (by rw [e]; exact List.mem_of_getElem? (i := 0) rfl)) rfl)) rfl ?_) (by rw [q_bw_len]) (bw_out rfl) ⟨rfl, (fun p h1 => (by have h1 : ¬ (41 ≤ p ∧ p ≤ 41 + 2) := h1; exact ⟨(fu_c (fun e9 => by omega) (fu_c (fun e9 => by omega) rfl)), (fu_c (fun e9 => by omega) rfl)⟩)), (by intro j hj i hi; match j, hj with | 0, _ => exact (cpy_lt hi).trans (congrFun i9_4_0 i) | 1, _ => exact (cpy_lt hi).trans (congrFun i9_5_0 i) | j + 2, hj => exact absurd hj (by simp)), (by intro i hi; match i, hi with | 0, _ => exact i9_3_1 | i + 1, hi => exact absurd hi (by omega))⟩
    refine ⟨(show PX_S1 ((vL [rsc])) _ from ⟨_, rfl, (by first | assumption | omega | exact q_rg_cpy (by assumption) (by assumption)), rfl⟩), ?_⟩
    refine ⟨(show PX_S1_1 ((va_cpy rsp s1p 0 0 10)) _ from ⟨_, rfl, rfl⟩), ?_⟩
    refine ⟨(show PX_S1_2 ((va_cpy rsq s1t 0 0 10)) _ from ⟨_, rfl, rfl⟩), ?_⟩
    refine ⟨(show PX_RS (U 63) _ from ⟨_, rfl, (by first | assumption | omega | exact q_rg_cpy (by assumption) (by assumption)), i9_3_1⟩), ?_⟩
    refine ⟨(show PX_RS_1 (F 64) _ from ⟨_, rfl, i9_4_0⟩), ?_⟩
    refine ⟨(show PX_RS_2 (F 65) _ from ⟨_, rfl, i9_5_0⟩), ?_⟩
    exact trivial

def sX_cpS : qS := spX (fun av => av = [q2 38, q2 63] ∨ av = [q2 41, q2 63]) (fun F U av r F' U' => r = none ∧ ∃ p : Nat, av = [q2 p, q2 63] ∧ CpBlk [10, 10] 1 p 63 F U F' U')
theorem mX_cpS (l : Launch) : q_M l yX7_copy cX7_copy 2 none 1 68 sX_cpS := by
  intro dC dI k g av w Q sz hs oka okw
  obtain ⟨F, U, h1, h2 | h2, h3⟩ := hs
  · exact mX_cpS0 l dC dI k g av w Q sz ⟨F, U, h1, h2, fun r F' U' w' a b c d => h3 r F' U' w' a b c ⟨d.1, _, h2, d.2⟩⟩ oka okw
  · exact mX_cpS1 l dC dI k g av w Q sz ⟨F, U, h1, h2, fun r F' U' w' a b c d => h3 r F' U' w' a b c ⟨d.1, _, h2, d.2⟩⟩ oka okw
