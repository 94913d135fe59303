/-! ===== what the reference keeps of each text came out of a text without a fault ===== -/
def OKD (s : Int) (W : Nat) (D : Nat → Int) : Prop := ∃ (t : Nat → Int) (n pl : Int) (D' : Nat → Int), RdO t n s 0 pl D' ∧ ∀ j : Nat, j < W → D j = D' j
theorem OKD_e {s : Int} {W : Nat} {D D' : Nat → Int} (h : OKD s W D) (e : ∀ j : Nat, j < W → D' j = D j) : OKD s W D' := by
  obtain ⟨t, n, pl, X, h1, h2⟩ := h
  exact ⟨t, n, pl, X, h1, fun j hj => (e j hj).trans (h2 j hj)⟩
def OKK (s : Int) (W m c : Nat) (F : Nat → Nat → Int) (i : Nat) : Prop := ∀ k : Nat, k < 2 → (k : Int) < F 90 (4 * i + c) → OKD s W (rowD F m (2 * W * i + W * k))
theorem OKK_m {s : Int} {W m c i i' : Nat} {F F' : Nat → Nat → Int} (h : OKK s W m c F i) (hE : ∀ j : Nat, j < 2 * W → F' m (2 * W * i' + j) = F m (2 * W * i + j)) (hn : F' 90 (4 * i' + c) = F 90 (4 * i + c)) : OKK s W m c F' i' := by
  intro k hk hl
  refine OKD_e (h k hk (by rw [← hn]; exact hl)) (fun j hj => ?_)
  show F' m (2 * W * i' + W * k + j) = F m (2 * W * i + W * k + j)
  have h9 := hE (W * k + j) (by rcases (show k = 0 ∨ k = 1 by omega) with rfl | rfl <;> omega)
  rw [Nat.add_assoc, Nat.add_assoc]
  exact h9
def OKN (F : Nat → Nat → Int) (i : Nat) : Prop := ∀ c : Nat, c < 4 → 0 ≤ F 90 (4 * i + c) ∧ F 90 (4 * i + c) ≤ 2
def OKRi (F : Nat → Nat → Int) (i : Nat) : Prop := OKN F i ∧ OKK 0 75 91 0 F i ∧ OKK 1 161 92 1 F i ∧ OKK 2 9 93 2 F i ∧ OKK 3 21 94 3 F i
def OKR (F : Nat → Nat → Int) : Prop := ∀ i : Nat, i < 4 → OKRi F i
theorem OKRi_M {F F' : Nat → Nat → Int} {i i' : Nat} (h : OKRi F i) (hM : EqM F i F' i') : OKRi F' i' := by
  obtain ⟨-, -, e90, e91, e92, e93, e94⟩ := hM
  exact ⟨fun c hc => by rw [e90 c hc]; exact h.1 c hc, OKK_m h.2.1 (fun j hj => e91 j hj) (e90 0 (by decide)), OKK_m h.2.2.1 (fun j hj => e92 j hj) (e90 1 (by decide)), OKK_m h.2.2.2.1 (fun j hj => e93 j hj) (e90 2 (by decide)), OKK_m h.2.2.2.2 (fun j hj => e94 j hj) (e90 3 (by decide))⟩
theorem OKR_eq {F F' : Nat → Nat → Int} (h : OKR F) (e : ∀ p : Nat, 90 ≤ p → p ≤ 94 → F' p = F p) : OKR F' := by
  intro i hi
  have e0 := e 90 (by decide) (by decide)
  refine ⟨fun c hc => by rw [e0]; exact (h i hi).1 c hc, OKK_m (h i hi).2.1 (fun j _ => by rw [e 91 (by decide) (by decide)]) (by rw [e0]), OKK_m (h i hi).2.2.1 (fun j _ => by rw [e 92 (by decide) (by decide)]) (by rw [e0]), OKK_m (h i hi).2.2.2.1 (fun j _ => by rw [e 93 (by decide) (by decide)]) (by rw [e0]), OKK_m (h i hi).2.2.2.2 (fun j _ => by rw [e 94 (by decide) (by decide)]) (by rw [e0])⟩
theorem OKR_cp {F F' : Nat → Nat → Int} {a b : Int} {i j : Nat} (h : OKR F) (ha : a = (i : Int)) (hb : b = (j : Int)) (hi : i < 4) (hC : CpA a b (F 86) (F 87) (F 88) (F 89) (F 90) (F 91) (F 92) (F 93) (F 94) (F' 86) (F' 87) (F' 88) (F' 89) (F' 90) (F' 91) (F' 92) (F' 93) (F' 94)) : OKR F' := by
  obtain ⟨m1, m2⟩ := Cp_M ha hb hC
  intro q hq
  by_cases e : q = j
  · rw [e]; exact OKRi_M (h i hi) m1
  · exact OKRi_M (h q hq) (m2 q e)
/-- a text kept in row r of its kind -/
theorem OKK_s {s r : Int} {W m c i : Nat} {F F' : Nat → Nat → Int} {D : Nat → Int} (h : OKK s W m c F i) (hD : OKD s W D) (hs : stR W D (F m) (F' m) r) (hr : 0 ≤ r ∧ r ≤ 1) (hn : ∀ k : Nat, (i = 0 → ¬ (k : Int) = r) → (k : Int) < F' 90 (4 * i + c) → (k : Int) < F 90 (4 * i + c)) : OKK s W m c F' i := by
  intro k hk hl
  by_cases e : i = 0 ∧ (k : Int) = r
  · obtain ⟨rfl, e⟩ := e
    refine OKD_e hD (fun j hj => ?_)
    show F' m (2 * W * 0 + W * k + j) = D j
    rw [hs]
    rcases (show k = 0 ∨ k = 1 by omega) with rfl | rfl
    · rw [if_pos (by rw [← e]; omega)]; congr 1; rw [← e]; omega
    · rw [if_pos (by rw [← e]; omega)]; congr 1; rw [← e]; omega
  · refine OKD_e (h k hk (hn k (fun e1 e2 => e ⟨e1, e2⟩) hl)) (fun j hj => ?_)
    show F' m (2 * W * i + W * k + j) = F m (2 * W * i + W * k + j)
    rw [hs, if_neg]
    intro hx
    apply e
    rcases (show r = 0 ∨ r = 1 by omega) with rfl | rfl
    · by_cases c0 : i = 0
      · subst c0
        refine ⟨rfl, ?_⟩
        rcases (show k = 0 ∨ k = 1 by omega) with rfl | rfl
        · rfl
        · exfalso; omega
      · exfalso
        have h9 : 2 * W * 1 ≤ 2 * W * i := Nat.mul_le_mul_left _ (by omega)
        have h8 : 0 ≤ W * k := Nat.zero_le _
        have h7 : ((2 * W * i + W * k + j : Nat) : Int) < (W : Int) * 0 + W := hx.2
        omega
    · by_cases c0 : i = 0
      · subst c0
        refine ⟨rfl, ?_⟩
        rcases (show k = 0 ∨ k = 1 by omega) with rfl | rfl
        · exfalso; omega
        · rfl
      · exfalso
        have h9 : 2 * W * 1 ≤ 2 * W * i := Nat.mul_le_mul_left _ (by omega)
        have h8 : 0 ≤ W * k := Nat.zero_le _
        have h7 : ((2 * W * i + W * k + j : Nat) : Int) < (W : Int) * 1 + W := hx.2
        omega

theorem OKR_tx {F F' : Nat → Nat → Int} {t : Nat → Int} {a b z : Int} (h : OKR F) (hT : TxM t a b z (F 87) (F 88) (F 89) (F 90) (F 91) (F 92) (F 93) (F 94) (F' 87) (F' 88) (F' 89) (F' 90) (F' 91) (F' 92) (F' 93) (F' 94)) : OKR F' := by
  obtain ⟨-, ⟨-, -, -, -, e90, e91, e92, e93, e94⟩ | ⟨hp, v1, v2, D, hR, -, -, ⟨-, -, e90, e91, e92, e93, e94⟩ | ⟨e0, hk, e90, hS⟩⟩⟩ := hT
  · exact OKR_eq h (fun p h1 h2 => by
      rcases (show p = 90 ∨ p = 91 ∨ p = 92 ∨ p = 93 ∨ p = 94 by omega) with rfl | rfl | rfl | rfl | rfl
      · exact e90
      · exact e91
      · exact e92
      · exact e93
      · exact e94)
  · exact OKR_eq h (fun p h1 h2 => by
      rcases (show p = 90 ∨ p = 91 ∨ p = 92 ∨ p = 93 ∨ p = 94 by omega) with rfl | rfl | rfl | rfl | rfl
      · exact e90
      · exact e91
      · exact e92
      · exact e93
      · exact e94)
  · subst e0
    obtain ⟨ha, hb⟩ := hp
    have hmn : 0 ≤ F 90 a.toNat ∧ F 90 a.toNat ≤ 2 := by
      have h9 := (h 0 (by decide)).1 a.toNat (by omega)
      rw [show 4 * 0 + a.toNat = a.toNat by omega] at h9
      exact h9
    have hkr : z = if b = -1 then F 90 a.toNat else b := hk
    have hr : 0 ≤ z ∧ z ≤ 1 := by
      rcases hb with ⟨b1, b2⟩ | ⟨b1, b2, b3⟩
      · rw [if_pos b1] at hkr
        omega
      · rw [if_neg b1] at hkr
        omega
    have hmnk : ∀ k : Nat, ¬ (k : Int) = z → (k : Int) < F' 90 a.toNat → (k : Int) < F 90 a.toNat := by
      intro k h1 h2
      rw [e90, q_up_s] at h2
      rcases hb with ⟨b1, b2⟩ | ⟨b1, b2, b3⟩
      · rw [if_pos b1] at h2 hkr
        omega
      · rw [if_neg b1] at h2
        omega
    have hON : ∀ i : Nat, i < 4 → OKN F' i := by
      intro i hi c hc
      by_cases e : 4 * i + c = a.toNat
      · rw [e, e90, q_up_s]
        rcases hb with ⟨b1, b2⟩ | ⟨b1, b2, b3⟩
        · rw [if_pos b1]; omega
        · rw [if_neg b1]; omega
      · rw [e90, q_up_n e]; exact (h i hi).1 c hc
    have hmno : ∀ q : Nat, ¬ q = a.toNat → F' 90 q = F 90 q := fun q hq => by rw [e90, q_up_n hq]
    rcases hS with ⟨rfl, s91, s92, s93, s94⟩ | ⟨rfl, s91, s92, s93, s94⟩ | ⟨rfl, s91, s92, s93, s94⟩ | ⟨rfl, s91, s92, s93, s94⟩
    · intro i hi
      have hD : OKD 0 75 D := ⟨_, _, _, D, hR, fun _ _ => rfl⟩
      exact ⟨hON i hi, OKK_s (h i hi).2.1 hD s91 hr (fun k h1 h2 => (by by_cases c0 : i = 0; subst c0; exact hmnk k (h1 rfl) h2; rw [hmno _ (show ¬ 4 * i + 0 = (0 : Int).toNat by omega)] at h2; exact h2)), OKK_m (h i hi).2.2.1 (fun j _ => by rw [s92]) (hmno _ (show ¬ 4 * i + 1 = (0 : Int).toNat by omega)), OKK_m (h i hi).2.2.2.1 (fun j _ => by rw [s93]) (hmno _ (show ¬ 4 * i + 2 = (0 : Int).toNat by omega)), OKK_m (h i hi).2.2.2.2 (fun j _ => by rw [s94]) (hmno _ (show ¬ 4 * i + 3 = (0 : Int).toNat by omega))⟩
    · intro i hi
      have hD : OKD 1 161 D := ⟨_, _, _, D, hR, fun _ _ => rfl⟩
      exact ⟨hON i hi, OKK_m (h i hi).2.1 (fun j _ => by rw [s91]) (hmno _ (show ¬ 4 * i + 0 = (1 : Int).toNat by omega)), OKK_s (h i hi).2.2.1 hD s92 hr (fun k h1 h2 => (by by_cases c0 : i = 0; subst c0; exact hmnk k (h1 rfl) h2; rw [hmno _ (show ¬ 4 * i + 1 = (1 : Int).toNat by omega)] at h2; exact h2)), OKK_m (h i hi).2.2.2.1 (fun j _ => by rw [s93]) (hmno _ (show ¬ 4 * i + 2 = (1 : Int).toNat by omega)), OKK_m (h i hi).2.2.2.2 (fun j _ => by rw [s94]) (hmno _ (show ¬ 4 * i + 3 = (1 : Int).toNat by omega))⟩
    · intro i hi
      have hD : OKD 2 9 D := ⟨_, _, _, D, hR, fun _ _ => rfl⟩
      exact ⟨hON i hi, OKK_m (h i hi).2.1 (fun j _ => by rw [s91]) (hmno _ (show ¬ 4 * i + 0 = (2 : Int).toNat by omega)), OKK_m (h i hi).2.2.1 (fun j _ => by rw [s92]) (hmno _ (show ¬ 4 * i + 1 = (2 : Int).toNat by omega)), OKK_s (h i hi).2.2.2.1 hD s93 hr (fun k h1 h2 => (by by_cases c0 : i = 0; subst c0; exact hmnk k (h1 rfl) h2; rw [hmno _ (show ¬ 4 * i + 2 = (2 : Int).toNat by omega)] at h2; exact h2)), OKK_m (h i hi).2.2.2.2 (fun j _ => by rw [s94]) (hmno _ (show ¬ 4 * i + 3 = (2 : Int).toNat by omega))⟩
    · intro i hi
      have hD : OKD 3 21 D := ⟨_, _, _, D, hR, fun _ _ => rfl⟩
      exact ⟨hON i hi, OKK_m (h i hi).2.1 (fun j _ => by rw [s91]) (hmno _ (show ¬ 4 * i + 0 = (3 : Int).toNat by omega)), OKK_m (h i hi).2.2.1 (fun j _ => by rw [s92]) (hmno _ (show ¬ 4 * i + 1 = (3 : Int).toNat by omega)), OKK_m (h i hi).2.2.2.1 (fun j _ => by rw [s93]) (hmno _ (show ¬ 4 * i + 2 = (3 : Int).toNat by omega)), OKK_s (h i hi).2.2.2.2 hD s94 hr (fun k h1 h2 => (by by_cases c0 : i = 0; subst c0; exact hmnk k (h1 rfl) h2; rw [hmno _ (show ¬ 4 * i + 3 = (3 : Int).toNat by omega)] at h2; exact h2))⟩
/-- a borough kept: parents are PEOPLE, and no way up goes round -/
def BOK (D : Nat → Int) : Prop := (0 ≤ D 0 ∧ 0 ≤ D 3 ∧ 0 ≤ D 4) ∧ (∀ i : Nat, i < 8 → -1 ≤ D (13 + i) ∧ D (13 + i) < D 0) ∧ ∀ p : Nat, (p : Int) < D 0 → pch D 0 8 p = -1
theorem OKD_B {D : Nat → Int} (h : OKD 0 75 D) (h8 : D 0 ≤ 8) : BOK D := by
  obtain ⟨t, n, pl, D', ⟨k, -, he, -, rfl⟩, hD⟩ := h
  obtain ⟨S, hS⟩ : ∃ S, S = stS t n 0 k := ⟨_, rfl⟩
  have hp := stS_par (t := t) (n := n) (s := 0) rfl k
  rw [← hS] at he hD hp
  unfold enF at he
  by_cases c1 : tK t n S.1 = 0
  · rw [if_pos c1] at he
    by_cases c2 : S.2.1 = 0
    · rw [if_pos c2] at he
      obtain ⟨⟨p0, p3, p4⟩, pr⟩ := hp c2
      unfold clF at he
      by_cases c3 : S.2.2.2.1 0 ≤ S.2.2.2.2.1
      · rw [pif_t ⟨rfl, c3⟩] at he; exact absurd he (by decide)
      · rw [pif_f (fun h9 => c3 h9.2)] at he
        by_cases c4 : S.2.2.2.1 3 ≤ S.2.2.2.2.2
        · rw [pif_t ⟨rfl, c4⟩] at he; exact absurd he (by decide)
        · rw [pif_f (fun h9 => c4 h9.2)] at he
          by_cases c5 : grD S.2.2.2.1
          · rw [pif_t ⟨rfl, c5⟩] at he; exact absurd he (by decide)
          · have e0 := hD 0 (by decide)
            have e3 := hD 3 (by decide)
            have e4 := hD 4 (by decide)
            have hr : ∀ i : Nat, i < 8 → -1 ≤ D (13 + i) ∧ D (13 + i) < D 0 := fun i hi => by
              have a1 := pr i hi
              have a2 := hD (13 + i) (by omega)
              omega
            refine ⟨⟨by omega, by omega, by omega⟩, hr, fun p hp9 => ?_⟩
            have hb : ∀ i : Nat, i < 8 → -1 ≤ S.2.2.2.1 (0 + 13 + i) ∧ S.2.2.2.1 (0 + 13 + i) ≤ 7 := fun i hi => by
              have a1 := pr i hi
              rw [show 0 + 13 + i = 13 + i by omega]
              omega
            rw [pch_eq (f := S.2.2.2.1) (g := D) (b := 0) (c := 0) hb (fun i hi => hD (0 + 13 + i) (by omega)) (by omega) 8]
            by_cases c6 : pch S.2.2.2.1 0 8 p = -1
            · exact c6
            · exact absurd ⟨p, by rw [← e0]; exact hp9, c6⟩ c5
    · rw [if_neg c2] at he
      exact absurd he.symm c2
  · rw [if_neg c1] at he
    exact absurd he (by decide)
