/-! ===== a year, a sight kept: in range ===== -/
def okDd (K P X N : Int) : Prop := (0 ≤ K ∧ K ≤ 4) ∧ (0 ≤ P ∧ P ≤ 7) ∧ (K ≤ 1 → 0 ≤ X ∧ X ≤ 3) ∧ (K = 2 ∨ K = 3 → 1 ≤ X ∧ X ≤ 99) ∧ (K = 4 → (0 ≤ X ∧ X ≤ 7) ∧ 1 ≤ N ∧ N ≤ 99)
def YRg (D : Nat → Int) : Prop := (0 ≤ D 0 ∧ D 0 ≤ 40) ∧ ∀ k : Nat, k < 40 → (k : Int) < D 0 → okDd (D (1 + 4 * k)) (D (2 + 4 * k)) (D (3 + 4 * k)) (D (4 + 4 * k))
theorem YRg_e {D D' : Nat → Int} (h : YRg D) (e : ∀ j : Nat, j < 161 → D' j = D j) : YRg D' := by
  refine ⟨by rw [e 0 (by decide)]; exact h.1, fun k hk h0 => ?_⟩
  rw [e 0 (by decide)] at h0
  rw [e (1 + 4 * k) (by omega), e (2 + 4 * k) (by omega), e (3 + 4 * k) (by omega), e (4 + 4 * k) (by omega)]
  exact h.2 k hk h0
theorem VD_l {t : Nat → Int} {n w p f : Int} (h : lfa t n w p f 3 = 0) (hl : lok t n w p 3) (hw : 9 ≤ w ∧ w ≤ 13) : okDd (w - 9) (lvs t n w p 0) (lvs t n w p 1) (lvs t n w p 2) := by
  rcases (show w = 9 ∨ w = 10 ∨ w = 11 ∨ w = 12 ∨ w = 13 by omega) with rfl | rfl | rfl | rfl | rfl
  · exact ⟨by decide, lvs_r (j := 0) h (by decide) rfl, fun _ => lvs_o (j := 1) hl (by decide) rfl, fun h9 => absurd h9 (by decide), fun h9 => absurd h9 (by decide)⟩
  · exact ⟨by decide, lvs_r (j := 0) h (by decide) rfl, fun _ => lvs_o (j := 1) hl (by decide) rfl, fun h9 => absurd h9 (by decide), fun h9 => absurd h9 (by decide)⟩
  · exact ⟨by decide, lvs_r (j := 0) h (by decide) rfl, fun h9 => absurd h9 (by decide), fun _ => lvs_r (j := 1) h (by decide) rfl, fun h9 => absurd h9 (by decide)⟩
  · exact ⟨by decide, lvs_r (j := 0) h (by decide) rfl, fun h9 => absurd h9 (by decide), fun _ => lvs_r (j := 1) h (by decide) rfl, fun h9 => absurd h9 (by decide)⟩
  · exact ⟨by decide, lvs_r (j := 0) h (by decide) rfl, fun h9 => absurd h9 (by decide), fun h9 => absurd h9 (by decide), fun _ => ⟨lvs_r (j := 1) h (by decide) rfl, lvs_r (j := 2) h (by decide) rfl⟩⟩
theorem tel_d {w v0 v1 v2 : Int} {D : Nat → Int} (hw : 9 ≤ w ∧ w ≤ 13) : tel w v0 v1 v2 D = q_up (q_up (q_up (q_up (q_up D (1 + 4 * D 0).toNat (w - 9)) (2 + 4 * D 0).toNat v0) (3 + 4 * D 0).toNat v1) (4 + 4 * D 0).toNat v2) 0 (D 0 + 1) := by
  unfold tel
  rw [if_neg (by omega), if_neg (by omega), if_neg (by omega), if_neg (by omega), if_neg (by omega), if_neg (by omega), if_neg (by omega), if_neg (by omega), if_neg (by omega), if_pos hw.2]
theorem tel_yrg {w v0 v1 v2 : Int} {D : Nat → Int} (hw : 9 ≤ w ∧ w ≤ 13) (hv : okDd (w - 9) v0 v1 v2) (hf : ¬ 40 ≤ D 0) (h : YRg D) : YRg (tel w v0 v1 v2 D) := by
  rw [tel_d hw]
  have d0 := h.1
  refine ⟨by rw [q_up_s]; omega, fun k hk h0 => ?_⟩
  rw [q_up_s] at h0
  rw [q_up_n (show ¬ 1 + 4 * k = 0 by omega), q_up_n (show ¬ 2 + 4 * k = 0 by omega), q_up_n (show ¬ 3 + 4 * k = 0 by omega), q_up_n (show ¬ 4 + 4 * k = 0 by omega)]
  by_cases c : (k : Int) = D 0
  · have e1 : (1 + 4 * D 0).toNat = 1 + 4 * k := by omega
    have e2 : (2 + 4 * D 0).toNat = 2 + 4 * k := by omega
    have e3 : (3 + 4 * D 0).toNat = 3 + 4 * k := by omega
    have e4 : (4 + 4 * D 0).toNat = 4 + 4 * k := by omega
    rw [e1, e2, e3, e4]
    rw [q_up_n (show ¬ 1 + 4 * k = 4 + 4 * k by omega), q_up_n (show ¬ 1 + 4 * k = 3 + 4 * k by omega), q_up_n (show ¬ 1 + 4 * k = 2 + 4 * k by omega), q_up_s]
    rw [q_up_n (show ¬ 2 + 4 * k = 4 + 4 * k by omega), q_up_n (show ¬ 2 + 4 * k = 3 + 4 * k by omega), q_up_s]
    rw [q_up_n (show ¬ 3 + 4 * k = 4 + 4 * k by omega), q_up_s, q_up_s]
    exact hv
  · have h9 := h.2 k hk (by omega)
    have u : ∀ i : Nat, 1 + 4 * k ≤ i → i ≤ 4 + 4 * k → q_up (q_up (q_up (q_up D (1 + 4 * D 0).toNat (w - 9)) (2 + 4 * D 0).toNat v0) (3 + 4 * D 0).toNat v1) (4 + 4 * D 0).toNat v2 i = D i := fun i h1 h2 => by
      rw [q_up_n (by omega), q_up_n (by omega), q_up_n (by omega), q_up_n (by omega)]
    rw [u _ (by omega) (by omega), u _ (by omega) (by omega), u _ (by omega) (by omega), u _ (by omega) (by omega)]
    exact h9
theorem stS_yrg {t : Nat → Int} {n : Int} : ∀ k : Nat, (stS t n 1 k).2.1 = 0 → YRg (stS t n 1 k).2.2.2.1 := by
  intro k
  induction k with
  | zero =>
    intro _
    have e : (stS t n 1 0).2.2.2.1 0 = 0 := (show blk 1 0 = 0 by decide)
    exact ⟨by rw [e]; decide, fun i hi h0 => by rw [e] at h0; omega⟩
  | succ k ih =>
    intro h
    by_cases c : hlt t n 1 (stS t n 1 k)
    · have e : stS t n 1 (k + 1) = stS t n 1 k := pifT_t c
      rw [e] at h ⊢
      exact ih h
    · have e : stS t n 1 (k + 1) = _ := nxS_n c
      rw [e] at h ⊢
      obtain ⟨S, eS⟩ : ∃ S, S = stS t n 1 k := ⟨_, rfl⟩
      rw [← eS] at h c ih ⊢
      have h : fS t n 1 S = 0 := h
      show YRg (pifT (fS t n 1 S = 0) (dS t n 1 S) S.2.2.2.1)
      rw [pifT_t h]
      have hok : lnOk t n (sW t n 1 S) S.1 := Classical.byContradiction (fun h9 => c (Or.inr h9))
      obtain ⟨hf1, -⟩ := lfa_0 h
      obtain ⟨hf0, hnf⟩ := ntF_0 (by decide) hf1
      have hw := ws_li (t := t) (n := n) (p := S.1) (s := 1) (by decide) rfl hok.1
      have hw8 : 9 ≤ sW t n 1 S ∧ sW t n 1 S ≤ 13 := by
        have h7 : wsR 1 (sW t n 1 S) := hw
        unfold wsR at h7
        omega
      exact tel_yrg hw8 (VD_l h hok.2.1 hw8) (fun h9 => hnf (Or.inr (Or.inr (Or.inr (Or.inr ⟨hw8, h9⟩))))) (ih hf0)
theorem OKD_Y {D : Nat → Int} (h : OKD 1 161 D) : YRg D := by
  obtain ⟨t, n, k, h0, hD⟩ := OKD_k h
  exact YRg_e (stS_yrg k h0) hD
def SRg (D : Nat → Int) : Prop := (0 ≤ D 0 ∧ D 0 ≤ 10) ∧ ∀ k : Nat, k < 10 → (k : Int) < D 0 → (0 ≤ D (1 + 2 * k) ∧ D (1 + 2 * k) ≤ 7) ∧ 1 ≤ D (2 + 2 * k) ∧ D (2 + 2 * k) ≤ 99
theorem SRg_e {D D' : Nat → Int} (h : SRg D) (e : ∀ j : Nat, j < 21 → D' j = D j) : SRg D' := by
  refine ⟨by rw [e 0 (by decide)]; exact h.1, fun k hk h0 => ?_⟩
  rw [e 0 (by decide)] at h0
  rw [e (1 + 2 * k) (by omega), e (2 + 2 * k) (by omega)]
  exact h.2 k hk h0
theorem tel_srg {v0 v1 v2 : Int} {D : Nat → Int} (h0 : 0 ≤ v0 ∧ v0 ≤ 7) (h1 : 1 ≤ v1 ∧ v1 ≤ 99) (hf : ¬ 10 ≤ D 0) (h : SRg D) : SRg (tel 16 v0 v1 v2 D) := by
  have e : tel 16 v0 v1 v2 D = q_up (q_up (q_up D (1 + 2 * D 0).toNat v0) (2 + 2 * D 0).toNat v1) 0 (D 0 + 1) := rfl
  rw [e]
  have d0 := h.1
  refine ⟨by rw [q_up_s]; omega, fun k hk h2 => ?_⟩
  rw [q_up_s] at h2
  rw [q_up_n (show ¬ 1 + 2 * k = 0 by omega), q_up_n (show ¬ 2 + 2 * k = 0 by omega)]
  by_cases c : (k : Int) = D 0
  · have e1 : (1 + 2 * D 0).toNat = 1 + 2 * k := by omega
    have e2 : (2 + 2 * D 0).toNat = 2 + 2 * k := by omega
    rw [e1, e2, q_up_n (show ¬ 1 + 2 * k = 2 + 2 * k by omega), q_up_s, q_up_s]
    exact ⟨h0, h1⟩
  · have h9 := h.2 k hk (by omega)
    rw [q_up_n (show ¬ 1 + 2 * k = (2 + 2 * D 0).toNat by omega), q_up_n (show ¬ 1 + 2 * k = (1 + 2 * D 0).toNat by omega), q_up_n (show ¬ 2 + 2 * k = (2 + 2 * D 0).toNat by omega), q_up_n (show ¬ 2 + 2 * k = (1 + 2 * D 0).toNat by omega)]
    exact h9
theorem stS_srg {t : Nat → Int} {n : Int} : ∀ k : Nat, (stS t n 3 k).2.1 = 0 → SRg (stS t n 3 k).2.2.2.1 := by
  intro k
  induction k with
  | zero =>
    intro _
    have e : (stS t n 3 0).2.2.2.1 0 = 0 := (show blk 3 0 = 0 by decide)
    exact ⟨by rw [e]; decide, fun i hi h0 => by rw [e] at h0; omega⟩
  | succ k ih =>
    intro h
    by_cases c : hlt t n 3 (stS t n 3 k)
    · have e : stS t n 3 (k + 1) = stS t n 3 k := pifT_t c
      rw [e] at h ⊢
      exact ih h
    · have e : stS t n 3 (k + 1) = _ := nxS_n c
      rw [e] at h ⊢
      obtain ⟨S, eS⟩ : ∃ S, S = stS t n 3 k := ⟨_, rfl⟩
      rw [← eS] at h c ih ⊢
      have h : fS t n 3 S = 0 := h
      show SRg (pifT (fS t n 3 S = 0) (dS t n 3 S) S.2.2.2.1)
      rw [pifT_t h]
      have hok : lnOk t n (sW t n 3 S) S.1 := Classical.byContradiction (fun h9 => c (Or.inr h9))
      obtain ⟨hf1, -⟩ := lfa_0 h
      obtain ⟨hf0, hnf⟩ := ntF_0 (by decide) hf1
      have hw := ws_li (t := t) (n := n) (p := S.1) (s := 3) (by decide) rfl hok.1
      have hw16 : sW t n 3 S = 16 := by
        have h7 : wsR 3 (sW t n 3 S) := hw
        unfold wsR at h7
        omega
      have g0 : 0 ≤ vS t n 3 S 0 ∧ vS t n 3 S 0 ≤ 7 := by
        have h8 := lvs_r (j := 0) h (by decide) (by rw [hw16]; rfl)
        rw [hw16] at h8
        unfold vS
        rw [hw16]
        exact h8
      have g1 : 1 ≤ vS t n 3 S 1 ∧ vS t n 3 S 1 ≤ 99 := by
        have h8 := lvs_r (j := 1) h (by decide) (by rw [hw16]; rfl)
        rw [hw16] at h8
        unfold vS
        rw [hw16]
        exact h8
      have e9 : dS t n 3 S = tel 16 (vS t n 3 S 0) (vS t n 3 S 1) (vS t n 3 S 2) S.2.2.2.1 := by unfold dS; rw [hw16]
      rw [e9]
      exact tel_srg g0 g1 (fun h9 => hnf (Or.inr (Or.inr (Or.inr (Or.inl ⟨hw16, h9⟩))))) (ih hf0)
theorem OKD_S {D : Nat → Int} (h : OKD 3 21 D) : SRg D := by
  obtain ⟨t, n, k, h0, hD⟩ := OKD_k h
  exact SRg_e (stS_srg k h0) hD
