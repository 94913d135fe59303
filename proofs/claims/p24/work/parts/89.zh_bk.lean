/-! ===== what is kept, its numbers in range ===== -/
theorem orI_rg {m a : Int} (hm : 0 ≤ m ∧ m ≤ 255) (ha : 0 ≤ a ∧ a ≤ 7) : 0 ≤ orI m a ∧ orI m a ≤ 255 := by
  have e := orI_e hm ha
  have h1 : (2 : Nat) ^ a.toNat ≤ 2 ^ 7 := Nat.pow_le_pow_right (by decide) (by omega)
  have h2 : m.toNat ||| 2 ^ a.toNat < 2 ^ 8 := Nat.or_lt_two_pow (by omega) (by omega)
  omega
def VG (w v0 v1 v2 : Int) : Prop := (w = 0 ∨ w = 3 ∨ w = 4 → 1 ≤ v0 ∧ v0 ≤ 99) ∧ (w = 2 → 0 ≤ v0 ∧ v0 ≤ 10) ∧ (w = 7 → 1 ≤ v1 ∧ v1 ≤ 9) ∧ (w = 8 → 0 ≤ v2 ∧ v2 ≤ 99)
theorem VG_l {t : Nat → Int} {n w p f : Int} (h : lfa t n w p f 3 = 0) : VG w (lvs t n w p 0) (lvs t n w p 1) (lvs t n w p 2) := by
  refine ⟨fun hw => ?_, fun hw => ?_, fun hw => ?_, fun hw => ?_⟩
  · rcases hw with rfl | rfl | rfl
    · exact lvs_r (j := 0) h (by decide) rfl
    · exact lvs_r (j := 0) h (by decide) rfl
    · exact lvs_r (j := 0) h (by decide) rfl
  · subst hw; exact lvs_r (j := 0) h (by decide) rfl
  · subst hw; exact lvs_r (j := 1) h (by decide) rfl
  · subst hw; exact lvs_r (j := 2) h (by decide) rfl
def okB (i : Nat) (x : Int) : Prop := (i = 0 → 0 ≤ x ∧ x ≤ 8) ∧ (i = 1 ∨ 31 ≤ i ∧ i ≤ 36 → 0 ≤ x ∧ x ≤ 255) ∧ (i = 2 → 0 ≤ x ∧ x ≤ 10) ∧ (i = 3 ∨ i = 4 → 0 ≤ x ∧ x ≤ 6) ∧ (21 ≤ i ∧ i ≤ 24 → 1 ≤ x ∧ x ≤ 9) ∧ (5 ≤ i ∧ i ≤ 12 ∨ 25 ≤ i ∧ i ≤ 30 ∨ 37 ≤ i → 0 ≤ x ∧ x ≤ 99)
def BRg (D : Nat → Int) : Prop := (∀ i : Nat, i < 75 → okB i (D i)) ∧ ∀ i : Nat, i < 8 → (i : Int) < D 0 → 1 ≤ D (5 + i)
theorem okB_u {D : Nat → Int} {j : Nat} {v : Int} (h : ∀ i : Nat, i < 75 → okB i (D i)) (hv : okB j v) : ∀ i : Nat, i < 75 → okB i (q_up D j v i) := fun i hi => by
  by_cases e : i = j
  · subst e; rw [q_up_s]; exact hv
  · rw [q_up_n e]; exact h i hi
theorem BRg_u {D : Nat → Int} {j : Nat} {v : Int} (h : BRg D) (hv : okB j v) (hj : 13 ≤ j ∨ j = 1 ∨ j = 2 ∨ j = 3 ∨ j = 4) : BRg (q_up D j v) := by
  refine ⟨okB_u h.1 hv, fun i hi h0 => ?_⟩
  rw [q_up_n (show ¬ 0 = j by omega)] at h0
  rw [q_up_n (show ¬ 5 + i = j by omega)]
  exact h.2 i hi h0
theorem BRg_e {D D' : Nat → Int} (h : BRg D) (e : ∀ j : Nat, j < 75 → D' j = D j) : BRg D' := by
  refine ⟨fun i hi => by rw [e i hi]; exact h.1 i hi, fun i hi h0 => ?_⟩
  rw [e 0 (by decide)] at h0
  rw [e (5 + i) (by omega)]
  exact h.2 i hi h0
theorem tel_rg {w v0 v1 v2 : Int} {D : Nat → Int} (hw : 0 ≤ w ∧ w ≤ 8) (hv : VR w v0 v1) (hg : VG w v0 v1 v2) (hf : ¬ fulP w D) (h : BRg D) : BRg (tel w v0 v1 v2 D) := by
  unfold fulP at hf
  have d0 : 0 ≤ D 0 ∧ D 0 ≤ 8 := (h.1 0 (by decide)).1 rfl
  have d3 : 0 ≤ D 3 ∧ D 3 ≤ 6 := (h.1 3 (by decide)).2.2.2.1 (Or.inl rfl)
  have d4 : 0 ≤ D 4 ∧ D 4 ≤ 6 := (h.1 4 (by decide)).2.2.2.1 (Or.inr rfl)
  rcases (show w = 0 ∨ w = 1 ∨ w = 2 ∨ w = 3 ∨ w = 4 ∨ w = 5 ∨ w = 6 ∨ w = 7 ∨ w = 8 by omega) with rfl | rfl | rfl | rfl | rfl | rfl | rfl | rfl | rfl
  · have e : tel 0 v0 v1 v2 D = q_up (q_up D (5 + D 0).toNat v0) 0 (D 0 + 1) := rfl
    have g := hg.1 (Or.inl rfl)
    rw [e]
    refine ⟨okB_u (okB_u h.1 (by unfold okB; omega)) (by unfold okB; omega), fun i hi h0 => ?_⟩
    rw [q_up_s] at h0
    rw [q_up_n (show ¬ 5 + i = 0 by omega)]
    by_cases c : 5 + i = (5 + D 0).toNat
    · rw [c, q_up_s]; exact g.1
    · rw [q_up_n c]; exact h.2 i hi (by omega)
  · have e : tel 1 v0 v1 v2 D = q_up D 1 (orI (D 1) v0) := rfl
    rw [e]
    have g := orI_rg ((h.1 1 (by decide)).2.1 (Or.inl rfl)) (VR_p hv (Or.inl rfl))
    exact BRg_u h (by unfold okB; omega) (by omega)
  · have e : tel 2 v0 v1 v2 D = q_up D 2 v0 := rfl
    have g := hg.2.1 rfl
    rw [e]
    exact BRg_u h (by unfold okB; omega) (by omega)
  · have e : tel 3 v0 v1 v2 D = q_up (q_up D (25 + D 3).toNat v0) 3 (D 3 + 1) := rfl
    have g := hg.1 (Or.inr (Or.inl rfl))
    rw [e]
    exact BRg_u (BRg_u h (by unfold okB; omega) (by omega)) (by unfold okB; omega) (by omega)
  · have e : tel 4 v0 v1 v2 D = q_up (q_up D (37 + D 4).toNat v0) 4 (D 4 + 1) := rfl
    have g := hg.1 (Or.inr (Or.inr rfl))
    rw [e]
    exact BRg_u (BRg_u h (by unfold okB; omega) (by omega)) (by unfold okB; omega) (by omega)
  · have e : tel 5 v0 v1 v2 D = q_up D (13 + v0).toNat v1 := rfl
    have g := VR_p hv (Or.inr (Or.inl rfl))
    rw [e]
    exact BRg_u h (by unfold okB; omega) (by omega)
  · have e : tel 6 v0 v1 v2 D = q_up D (31 + v1).toNat (orI (D (31 + v1).toNat) v0) := rfl
    have g := VR_6 hv rfl
    have g2 := orI_rg ((h.1 (31 + v1).toNat (by omega)).2.1 (by omega)) (VR_p hv (Or.inr (Or.inr (Or.inl rfl))))
    rw [e]
    exact BRg_u h (by unfold okB; omega) (by omega)
  · have e : tel 7 v0 v1 v2 D = q_up D (21 + v0).toNat v1 := rfl
    have g := VR_7a hv rfl
    have g2 := hg.2.2.1 rfl
    rw [e]
    exact BRg_u h (by unfold okB; omega) (by omega)
  · have e : tel 8 v0 v1 v2 D = q_up D (43 + 4 * v0 + v1).toNat v2 := rfl
    have g := VR_8 hv rfl
    have g2 := hg.2.2.2 rfl
    have g3 := VR_p hv (Or.inr (Or.inr (Or.inr (Or.inl rfl))))
    rw [e]
    exact BRg_u h (by unfold okB; omega) (by omega)
theorem blk_okB : ∀ i : Fin 75, okB i.val (blk 0 i.val) := by
  unfold okB
  decide
theorem stS_rg {t : Nat → Int} {n : Int} : ∀ k : Nat, (stS t n 0 k).2.1 = 0 → BRg (stS t n 0 k).2.2.2.1 := by
  intro k
  induction k with
  | zero =>
    intro _
    refine ⟨fun i hi => blk_okB ⟨i, hi⟩, fun i hi h0 => ?_⟩
    have e : (stS t n 0 0).2.2.2.1 0 = 0 := (show blk 0 0 = 0 by decide)
    rw [e] at h0
    omega
  | succ k ih =>
    intro h
    by_cases c : hlt t n 0 (stS t n 0 k)
    · have e : stS t n 0 (k + 1) = stS t n 0 k := pifT_t c
      rw [e] at h ⊢
      exact ih h
    · have e : stS t n 0 (k + 1) = _ := nxS_n c
      rw [e] at h ⊢
      obtain ⟨S, eS⟩ : ∃ S, S = stS t n 0 k := ⟨_, rfl⟩
      rw [← eS] at h c ih ⊢
      have h : fS t n 0 S = 0 := h
      show BRg (pifT (fS t n 0 S = 0) (dS t n 0 S) S.2.2.2.1)
      rw [pifT_t h]
      have hok : lnOk t n (sW t n 0 S) S.1 := Classical.byContradiction (fun h9 => c (Or.inr h9))
      obtain ⟨hf1, -⟩ := lfa_0 h
      obtain ⟨hf0, hnf⟩ := ntF_0 (by decide) hf1
      have hw := ws_li (t := t) (n := n) (p := S.1) (s := 0) (by decide) rfl hok.1
      have hw8 : 0 ≤ sW t n 0 S ∧ sW t n 0 S ≤ 8 := by
        have h7 : wsR 0 (sW t n 0 S) := hw
        unfold wsR at h7
        omega
      exact tel_rg hw8 (VR_l h hok.2.1) (VG_l h) hnf (ih hf0)
/-- no FAULT: none on the way -/
theorem OKD_k {s : Int} {W : Nat} {D : Nat → Int} (h : OKD s W D) : ∃ (t : Nat → Int) (n : Int) (k : Nat), (stS t n s k).2.1 = 0 ∧ ∀ j : Nat, j < W → D j = (stS t n s k).2.2.2.1 j := by
  obtain ⟨t, n, pl, D', ⟨k, -, he, -, rfl⟩, hD⟩ := h
  refine ⟨t, n, k, ?_, hD⟩
  unfold enF at he
  by_cases c1 : tK t n (stS t n s k).1 = 0
  · rw [if_pos c1] at he
    by_cases c2 : (stS t n s k).2.1 = 0
    · exact c2
    · rw [if_neg c2] at he
      exact he.symm
  · rw [if_neg c1] at he
    exact absurd he (by decide)
theorem OKD_R {D : Nat → Int} (h : OKD 0 75 D) : BRg D := by
  obtain ⟨t, n, k, h0, hD⟩ := OKD_k h
  exact BRg_e (stS_rg k h0) hD
/-- a borough kept: in range, and no way up goes round -/
def BK (D : Nat → Int) : Prop := BOK D ∧ BRg D
theorem OKD_BK {D : Nat → Int} (h : OKD 0 75 D) : BK D := by
  have h1 := OKD_R h
  exact ⟨OKD_B h ((h1.1 0 (by decide)).1 rfl).2, h1⟩
theorem BK_p {D : Nat → Int} (h : BK D) : 0 ≤ D 0 ∧ D 0 ≤ 8 := (h.2.1 0 (by decide)).1 rfl
theorem BK_poor {D : Nat → Int} (h : BK D) : 0 ≤ D 1 ∧ D 1 ≤ 255 := (h.2.1 1 (by decide)).2.1 (Or.inl rfl)
theorem BK_c {D : Nat → Int} (h : BK D) : 0 ≤ D 2 ∧ D 2 ≤ 10 := (h.2.1 2 (by decide)).2.2.1 rfl
theorem BK_d {D : Nat → Int} (h : BK D) : 0 ≤ D 3 ∧ D 3 ≤ 6 := (h.2.1 3 (by decide)).2.2.2.1 (Or.inl rfl)
theorem BK_w {D : Nat → Int} (h : BK D) : 0 ≤ D 4 ∧ D 4 ≤ 6 := (h.2.1 4 (by decide)).2.2.2.1 (Or.inr rfl)
theorem BK_i {D : Nat → Int} (h : BK D) {i : Nat} (hi : i < 8) : 0 ≤ D (5 + i) ∧ D (5 + i) ≤ 99 := (h.2.1 (5 + i) (by omega)).2.2.2.2.2 (by omega)
theorem BK_i1 {D : Nat → Int} (h : BK D) {i : Nat} (hi : (i : Int) < D 0) : 1 ≤ D (5 + i) := h.2.2 i (by have := BK_p h; omega) hi
theorem BK_par {D : Nat → Int} (h : BK D) {i : Nat} (hi : i < 8) : -1 ≤ D (13 + i) ∧ D (13 + i) < D 0 := h.1.2.1 i hi
theorem BK_f {D : Nat → Int} (h : BK D) {i : Nat} (hi : i < 4) : 1 ≤ D (21 + i) ∧ D (21 + i) ≤ 9 := (h.2.1 (21 + i) (by omega)).2.2.2.2.1 (by omega)
theorem BK_t {D : Nat → Int} (h : BK D) {i : Nat} (hi : i < 6) : 0 ≤ D (25 + i) ∧ D (25 + i) ≤ 99 := (h.2.1 (25 + i) (by omega)).2.2.2.2.2 (by omega)
theorem BK_ps {D : Nat → Int} (h : BK D) {i : Nat} (hi : i < 6) : 0 ≤ D (31 + i) ∧ D (31 + i) ≤ 255 := (h.2.1 (31 + i) (by omega)).2.1 (by omega)
theorem BK_r {D : Nat → Int} (h : BK D) {i : Nat} (hi : i < 6) : 0 ≤ D (37 + i) ∧ D (37 + i) ≤ 99 := (h.2.1 (37 + i) (by omega)).2.2.2.2.2 (by omega)
theorem BK_wi {D : Nat → Int} (h : BK D) {i : Nat} (hi : i < 32) : 0 ≤ D (43 + i) ∧ D (43 + i) ≤ 99 := (h.2.1 (43 + i) (by omega)).2.2.2.2.2 (by omega)
