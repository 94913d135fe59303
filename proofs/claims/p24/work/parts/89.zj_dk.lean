/-! ===== the class's block tells the reference's row; the reference's row ===== -/
def CBK (f1 f2 f3 f4 f5 f6 f7 : Nat → Int) (u0 u1 u2 u3 u4 : Int) (D : Nat → Int) : Prop := CB f1 f2 f3 f4 f5 f6 f7 u0 u1 u2 u3 u4 D ∧ BK D
theorem cb_u {f1 f2 f3 f4 f5 f6 f7 D : Nat → Int} {u0 u1 u2 u3 u4 : Int} (h : CBK f1 f2 f3 f4 f5 f6 f7 u0 u1 u2 u3 u4 D) : (u0 = D 0 ∧ 0 ≤ D 0 ∧ D 0 ≤ 8) ∧ (u1 = D 1 ∧ 0 ≤ D 1 ∧ D 1 ≤ 255) ∧ (u2 = D 2 ∧ 0 ≤ D 2 ∧ D 2 ≤ 10) ∧ (u3 = D 3 ∧ 0 ≤ D 3 ∧ D 3 ≤ 6) ∧ (u4 = D 4 ∧ 0 ≤ D 4 ∧ D 4 ≤ 6) := ⟨⟨h.1.1.1, BK_p h.2⟩, ⟨h.1.1.2.1, BK_poor h.2⟩, ⟨h.1.1.2.2.1, BK_c h.2⟩, ⟨h.1.1.2.2.2.1, BK_d h.2⟩, ⟨h.1.1.2.2.2.2, BK_w h.2⟩⟩
theorem cb_u0 {f1 f2 f3 f4 f5 f6 f7 D : Nat → Int} {u0 u1 u2 u3 u4 : Int} (h : CBK f1 f2 f3 f4 f5 f6 f7 u0 u1 u2 u3 u4 D) : u0 = D 0 ∧ 0 ≤ D 0 ∧ D 0 ≤ 8 := (cb_u h).1
theorem cb_i {f1 f2 f3 f4 f5 f6 f7 D : Nat → Int} {u0 u1 u2 u3 u4 x z : Int} (h : CBK f1 f2 f3 f4 f5 f6 f7 u0 u1 u2 u3 u4 D) (hz : z = f1 x.toNat) (hx : 0 ≤ x ∧ x < 8) : z = D (5 + x.toNat) ∧ 0 ≤ z ∧ z ≤ 99 := by
  have e := h.1.2.1 x.toNat (by omega)
  have r := BK_i h.2 (i := x.toNat) (by omega)
  rw [hz, e]
  exact ⟨rfl, r⟩
theorem cb_p {f1 f2 f3 f4 f5 f6 f7 D : Nat → Int} {u0 u1 u2 u3 u4 x z : Int} (h : CBK f1 f2 f3 f4 f5 f6 f7 u0 u1 u2 u3 u4 D) (hz : z = f2 x.toNat) (hx : 0 ≤ x ∧ x < 8) : z = D (13 + x.toNat) ∧ -1 ≤ z ∧ z < D 0 := by
  have e := h.1.2.2.1 x.toNat (by omega)
  have r := BK_par h.2 (i := x.toNat) (by omega)
  rw [hz, e]
  exact ⟨rfl, r⟩
theorem cb_f {f1 f2 f3 f4 f5 f6 f7 D : Nat → Int} {u0 u1 u2 u3 u4 x z : Int} (h : CBK f1 f2 f3 f4 f5 f6 f7 u0 u1 u2 u3 u4 D) (hz : z = f3 x.toNat) (hx : 0 ≤ x ∧ x < 4) : z = D (21 + x.toNat) ∧ 1 ≤ z ∧ z ≤ 9 := by
  have e := h.1.2.2.2.1 x.toNat (by omega)
  have r := BK_f h.2 (i := x.toNat) (by omega)
  rw [hz, e]
  exact ⟨rfl, r⟩
theorem cb_w {f1 f2 f3 f4 f5 f6 f7 D : Nat → Int} {u0 u1 u2 u3 u4 x z : Int} (h : CBK f1 f2 f3 f4 f5 f6 f7 u0 u1 u2 u3 u4 D) (hz : z = f4 x.toNat) (hx : 0 ≤ x ∧ x < 32) : z = D (43 + x.toNat) ∧ 0 ≤ z ∧ z ≤ 99 := by
  have e := h.1.2.2.2.2.1 x.toNat (by omega)
  have r := BK_wi h.2 (i := x.toNat) (by omega)
  rw [hz, e]
  exact ⟨rfl, r⟩
theorem cb_t {f1 f2 f3 f4 f5 f6 f7 D : Nat → Int} {u0 u1 u2 u3 u4 x z : Int} (h : CBK f1 f2 f3 f4 f5 f6 f7 u0 u1 u2 u3 u4 D) (hz : z = f5 x.toNat) (hx : 0 ≤ x ∧ x < 6) : z = D (25 + x.toNat) ∧ 0 ≤ z ∧ z ≤ 99 := by
  have e := h.1.2.2.2.2.2.1 x.toNat (by omega)
  have r := BK_t h.2 (i := x.toNat) (by omega)
  rw [hz, e]
  exact ⟨rfl, r⟩
theorem cb_s {f1 f2 f3 f4 f5 f6 f7 D : Nat → Int} {u0 u1 u2 u3 u4 x z : Int} (h : CBK f1 f2 f3 f4 f5 f6 f7 u0 u1 u2 u3 u4 D) (hz : z = f6 x.toNat) (hx : 0 ≤ x ∧ x < 6) : z = D (31 + x.toNat) ∧ 0 ≤ z ∧ z ≤ 255 := by
  have e := h.1.2.2.2.2.2.2.1 x.toNat (by omega)
  have r := BK_ps h.2 (i := x.toNat) (by omega)
  rw [hz, e]
  exact ⟨rfl, r⟩
theorem cb_r {f1 f2 f3 f4 f5 f6 f7 D : Nat → Int} {u0 u1 u2 u3 u4 x z : Int} (h : CBK f1 f2 f3 f4 f5 f6 f7 u0 u1 u2 u3 u4 D) (hz : z = f7 x.toNat) (hx : 0 ≤ x ∧ x < 6) : z = D (37 + x.toNat) ∧ 0 ≤ z ∧ z ≤ 99 := by
  have e := h.1.2.2.2.2.2.2.2 x.toNat (by omega)
  have r := BK_r h.2 (i := x.toNat) (by omega)
  rw [hz, e]
  exact ⟨rfl, r⟩
theorem ob {bs D : Nat → Int} {mbo z y : Int} (hD : D = rwD bs (75 * mbo).toNat) (hb : 0 ≤ mbo ∧ mbo ≤ 1) (h : z = ofR bs mbo y) (hy : 0 ≤ y) : z = D y.toNat := by
  subst hD
  rw [h]
  unfold ofR rwD
  exact congrArg bs (by omega)
theorem ob_k {bs D : Nat → Int} {mbo z y v : Int} (k : Nat) (hD : D = rwD bs (75 * mbo).toNat) (hb : 0 ≤ mbo ∧ mbo ≤ 1) (h : z = ofR bs mbo y) (e : y = (k : Int) + v) (hv : 0 ≤ v) : z = D (k + v.toNat) := by
  rw [ob hD hb h (by omega)]
  exact congrArg D (by omega)
/-- answers by the borough's number -/
def bA (n : Int) (D0 D1 : Nat → Int) (a N z : Int) (P : (Nat → Int) → Int → Prop) : Prop := ((0 ≤ a ∧ a < n) ∧ (a = 0 ∧ P D0 z ∨ a = 1 ∧ P D1 z)) ∨ (¬ (0 ≤ a ∧ a < n) ∧ z = N)
def bM (n : Int) (f : Nat → Int) (a N z : Int) (P : (Nat → Int) → Int → Prop) : Prop := ((0 ≤ a ∧ a < n) ∧ P (rwD f (75 * a).toNat) z) ∨ (¬ (0 ≤ a ∧ a < n) ∧ z = N)
theorem bM_i {n : Int} {f : Nat → Int} {a N : Int} {P : (Nat → Int) → Int → Prop} (h : ∀ D : Nat → Int, P D N) : bM n f a N N P := by
  by_cases c : 0 ≤ a ∧ a < n
  · exact Or.inl ⟨c, h _⟩
  · exact Or.inr ⟨c, rfl⟩
def RGM (bs : Nat → Int) (n : Int) : Prop := (0 < n → BK (rwD bs 0)) ∧ (1 < n → BK (rwD bs 75))
theorem RGM_a {bs : Nat → Int} {n m : Int} (h : RGM bs n) (hm : 0 ≤ m ∧ m < n ∧ m ≤ 1) : BK (rwD bs (75 * m).toNat) := by
  rcases (show m = 0 ∨ m = 1 by omega) with rfl | rfl
  · exact h.1 (by omega)
  · exact h.2 (by omega)
/-- what is known where both sides keep alike -/
def RGA (F U : Nat → Nat → Int) : Prop := ((0 < F 90 0 → CBp F U 8 (rwD (F 91) 0) ∧ BK (rwD (F 91) 0)) ∧ (1 < F 90 0 → CBp F U 16 (rwD (F 91) 75) ∧ BK (rwD (F 91) 75))) ∧ ((0 < F 90 1 → CYp F U 24 (rwD (F 92) 0) ∧ YRg (rwD (F 92) 0)) ∧ (1 < F 90 1 → CYp F U 29 (rwD (F 92) 161) ∧ YRg (rwD (F 92) 161))) ∧ ((0 < F 90 3 → CSp F U 38 (rwD (F 94) 0) ∧ SRg (rwD (F 94) 0)) ∧ (1 < F 90 3 → CSp F U 41 (rwD (F 94) 21) ∧ SRg (rwD (F 94) 21))) ∧ (F 3 0 = F 90 0 ∧ F 3 1 = F 90 1 ∧ F 3 3 = F 90 3)
theorem RGA_0 {F U : Nat → Nat → Int} (h : RGA F U) (h0 : 0 < F 3 (0 : Int).toNat) : CBK (F 9) (F 10) (F 11) (F 12) (F 13) (F 14) (F 15) (U 8 0) (U 8 1) (U 8 2) (U 8 3) (U 8 4) (rwD (F 91) 0) := by
  have e : F 3 0 = F 90 0 := h.2.2.2.1
  have h1 : 0 < F 3 0 := h0
  exact h.1.1 (by omega)
theorem RGA_1 {F U : Nat → Nat → Int} (h : RGA F U) (h0 : 1 < F 3 (0 : Int).toNat) : CBK (F 17) (F 18) (F 19) (F 20) (F 21) (F 22) (F 23) (U 16 0) (U 16 1) (U 16 2) (U 16 3) (U 16 4) (rwD (F 91) 75) := by
  have e : F 3 0 = F 90 0 := h.2.2.2.1
  have h1 : 1 < F 3 0 := h0
  exact h.1.2 (by omega)
theorem RGA_M {F U : Nat → Nat → Int} (h : RGA F U) : RGM (F 91) (F 90 (0 : Int).toNat) := ⟨fun h0 => (h.1.1 h0).2, fun h0 => (h.1.2 h0).2⟩
theorem REL2_RG {γ : qG} (h : REL2 γ) : RGA γ.1 γ.2.1 := by
  obtain ⟨⟨-, -, xc⟩, kB, kY, -, kS⟩ := id h.1.1
  obtain ⟨-, oB, oY, -, oS⟩ := h.2 0 (by decide)
  have kB : ∀ k : Nat, k < 2 → (k : Int) < γ.1 90 0 → CBp γ.1 γ.2.1 (1 + 7 + 8 * k) (rowD γ.1 91 (2 * 75 * 0 + 75 * k)) := kB
  have kY : ∀ k : Nat, k < 2 → (k : Int) < γ.1 90 1 → CYp γ.1 γ.2.1 (1 + 23 + 5 * k) (rowD γ.1 92 (2 * 161 * 0 + 161 * k)) := kY
  have kS : ∀ k : Nat, k < 2 → (k : Int) < γ.1 90 3 → CSp γ.1 γ.2.1 (1 + 37 + 3 * k) (rowD γ.1 94 (2 * 21 * 0 + 21 * k)) := kS
  have oB : ∀ k : Nat, k < 2 → (k : Int) < γ.1 90 0 → OKD 0 75 (rowD γ.1 91 (2 * 75 * 0 + 75 * k)) := oB
  have oY : ∀ k : Nat, k < 2 → (k : Int) < γ.1 90 1 → OKD 1 161 (rowD γ.1 92 (2 * 161 * 0 + 161 * k)) := oY
  have oS : ∀ k : Nat, k < 2 → (k : Int) < γ.1 90 3 → OKD 3 21 (rowD γ.1 94 (2 * 21 * 0 + 21 * k)) := oS
  refine ⟨⟨fun h0 => ⟨kB 0 (by decide) (by omega), OKD_BK (oB 0 (by decide) (by omega))⟩, fun h0 => ⟨kB 1 (by decide) (by omega), OKD_BK (oB 1 (by decide) (by omega))⟩⟩, ⟨fun h0 => ⟨kY 0 (by decide) (by omega), OKD_Y (oY 0 (by decide) (by omega))⟩, fun h0 => ⟨kY 1 (by decide) (by omega), OKD_Y (oY 1 (by decide) (by omega))⟩⟩, ⟨fun h0 => ⟨kS 0 (by decide) (by omega), OKD_S (oS 0 (by decide) (by omega))⟩, fun h0 => ⟨kS 1 (by decide) (by omega), OKD_S (oS 1 (by decide) (by omega))⟩⟩, xc 0 (by decide), xc 1 (by decide), xc 3 (by decide)⟩
theorem bo_eq {F U : Nat → Nat → Int} {a N z1 z2 : Int} (P : (Nat → Int) → Int → Prop) (hG : RGA F U) (h1 : bA (F 3 0) (rwD (F 91) 0) (rwD (F 91) 75) a N z1 P) (h2 : bM (F 90 0) (F 91) a N z2 P) (hf : ∀ D : Nat → Int, BK D → ∀ z z' : Int, P D z → P D z' → z = z') : z1 = z2 := by
  have e : F 3 0 = F 90 0 := hG.2.2.2.1
  rcases h1 with ⟨p1, h1⟩ | ⟨p1, e1⟩ <;> rcases h2 with ⟨p2, h2⟩ | ⟨p2, e2⟩
  · rcases h1 with ⟨rfl, h1⟩ | ⟨rfl, h1⟩
    · exact hf _ (hG.1.1 p2.2).2 _ _ h1 h2
    · exact hf _ (hG.1.2 p2.2).2 _ _ h1 h2
  · exact absurd ⟨p1.1, by omega⟩ p2
  · exact absurd ⟨p2.1, by omega⟩ p1
  · rw [e1, e2]
/-! chains of parents, by the row alone -/
theorem bD_R {D : Nat → Int} (h : BK D) {a : Int} (ha : 0 ≤ a ∧ a < D 0) (j : Nat) : pch D 0 j a = -1 ∨ (0 ≤ pch D 0 j a ∧ pch D 0 j a < D 0) := bk_R (f := fun i => D (13 + i)) h.1 (fun i _ => rfl) rfl (BK_p h).2 ha j
theorem bD_8 {D : Nat → Int} (h : BK D) {a : Int} (ha : 0 ≤ a ∧ a < D 0) : pch D 0 8 a = -1 := bk_8 (f := fun i => D (13 + i)) h.1 (fun i _ => rfl) rfl (BK_p h).2 ha
theorem bD_L {D : Nat → Int} (h : BK D) {a : Int} (ha : 0 ≤ a ∧ a < D 0) : pch D 0 (D 0).toNat a = -1 := bk_L (f := fun i => D (13 + i)) h.1 (fun i _ => rfl) rfl (BK_p h).2 ha
theorem bD_end {D : Nat → Int} (h : BK D) {a : Int} (ha : 0 ≤ a ∧ a < D 0) {m : Nat} (hm : (m : Int) = D 0 ∨ ¬ (0 ≤ pch D 0 m a ∧ pch D 0 m a < D 0)) : pch D 0 m a = -1 := by
  rcases hm with hm | hm
  · have h9 := bD_L h ha
    rw [show (D 0).toNat = m by omega] at h9
    exact h9
  · rcases bD_R h ha m with h9 | h9
    · exact h9
    · exact absurd h9 hm
theorem bD_s {D : Nat → Int} {n : Nat} {a o z : Int} (h : o = pch D 0 n a) (h1 : 0 ≤ o) (hz : z = D (13 + o.toNat)) : z = pch D 0 (n + 1) a := by
  rw [pch_s (by rw [← h]; omega), ← h, hz]
