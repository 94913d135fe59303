/-! ===== the cells of the class against what is told ===== -/
def CB (f1 f2 f3 f4 f5 f6 f7 : Nat → Int) (u0 u1 u2 u3 u4 : Int) (D : Nat → Int) : Prop := (u0 = D 0 ∧ u1 = D 1 ∧ u2 = D 2 ∧ u3 = D 3 ∧ u4 = D 4) ∧ (∀ i : Nat, i < 8 → f1 i = D (5 + i)) ∧ (∀ i : Nat, i < 8 → f2 i = D (13 + i)) ∧ (∀ i : Nat, i < 4 → f3 i = D (21 + i)) ∧ (∀ i : Nat, i < 32 → f4 i = D (43 + i)) ∧ (∀ i : Nat, i < 6 → f5 i = D (25 + i)) ∧ (∀ i : Nat, i < 6 → f6 i = D (31 + i)) ∧ (∀ i : Nat, i < 6 → f7 i = D (37 + i))
def CY (k1 k2 k3 k4 : Nat → Int) (d : Int) (D : Nat → Int) : Prop := d = D 0 ∧ ∀ i : Nat, (i : Int) < D 0 → k1 i = D (1 + 4 * i) ∧ k2 i = D (2 + 4 * i) ∧ k3 i = D (3 + 4 * i) ∧ k4 i = D (4 + 4 * i)
def CL (g : Nat → Int) (o : Int) (D : Nat → Int) : Prop := o = D 8 ∧ ∀ i : Nat, i < 8 → g i = D i
def CS (p q : Nat → Int) (c : Int) (D : Nat → Int) : Prop := c = D 0 ∧ ∀ i : Nat, (i : Int) < D 0 → p i = D (1 + 2 * i) ∧ q i = D (2 + 2 * i)
theorem CB_w0 {f1 f2 f3 f4 f5 f6 f7 : Nat → Int} {u0 u1 u2 u3 u4 : Int} {D : Nat → Int} {v0 v1 v2 : Int} (h : CB f1 f2 f3 f4 f5 f6 f7 u0 u1 u2 u3 u4 D) (hu : 0 ≤ u0 ∧ u0 < 8) : CB (q_up f1 u0.toNat v0) f2 f3 f4 f5 f6 f7 (u0 + 1) u1 u2 u3 u4 (tel 0 v0 v1 v2 D) := by
  obtain ⟨⟨a0, a1, a2, a3, a4⟩, b1, b2, b3, b4, b5, b6, b7⟩ := h
  rw [show tel 0 v0 v1 v2 D = q_up (q_up D (5 + D 0).toNat v0) 0 (D 0 + 1) from by unfold tel; rw [if_pos (by decide)]]
  exact ⟨⟨(by rw [q_up_s]; omega), (by rw [q_up_n (by omega), q_up_n (by omega)]; exact a1), (by rw [q_up_n (by omega), q_up_n (by omega)]; exact a2), (by rw [q_up_n (by omega), q_up_n (by omega)]; exact a3), (by rw [q_up_n (by omega), q_up_n (by omega)]; exact a4)⟩, fun i hi => (by
    by_cases e : i = u0.toNat
    · rw [e, q_up_s, q_up_n (by omega), show (5 + D 0).toNat = 5 + u0.toNat by omega, q_up_s]
    · rw [q_up_n e, q_up_n (by omega), q_up_n (by omega)]; exact b1 i hi), fun i hi => (by rw [q_up_n (by omega), q_up_n (by omega)]; exact b2 i hi), fun i hi => (by rw [q_up_n (by omega), q_up_n (by omega)]; exact b3 i hi), fun i hi => (by rw [q_up_n (by omega), q_up_n (by omega)]; exact b4 i hi), fun i hi => (by rw [q_up_n (by omega), q_up_n (by omega)]; exact b5 i hi), fun i hi => (by rw [q_up_n (by omega), q_up_n (by omega)]; exact b6 i hi), fun i hi => (by rw [q_up_n (by omega), q_up_n (by omega)]; exact b7 i hi)⟩

theorem CB_w1 {f1 f2 f3 f4 f5 f6 f7 : Nat → Int} {u0 u1 u2 u3 u4 : Int} {D : Nat → Int} {v0 v1 v2 : Int} (h : CB f1 f2 f3 f4 f5 f6 f7 u0 u1 u2 u3 u4 D) : CB f1 f2 f3 f4 f5 f6 f7 u0 (orI u1 v0) u2 u3 u4 (tel 1 v0 v1 v2 D) := by
  obtain ⟨⟨a0, a1, a2, a3, a4⟩, b1, b2, b3, b4, b5, b6, b7⟩ := h
  rw [show tel 1 v0 v1 v2 D = q_up D 1 (orI (D 1) v0) from by unfold tel; rw [if_neg (by decide)]; rw [if_pos (by decide)]]
  exact ⟨⟨(by rw [q_up_n (by omega)]; exact a0), (by rw [q_up_s]; rw [a1]), (by rw [q_up_n (by omega)]; exact a2), (by rw [q_up_n (by omega)]; exact a3), (by rw [q_up_n (by omega)]; exact a4)⟩, fun i hi => (by rw [q_up_n (by omega)]; exact b1 i hi), fun i hi => (by rw [q_up_n (by omega)]; exact b2 i hi), fun i hi => (by rw [q_up_n (by omega)]; exact b3 i hi), fun i hi => (by rw [q_up_n (by omega)]; exact b4 i hi), fun i hi => (by rw [q_up_n (by omega)]; exact b5 i hi), fun i hi => (by rw [q_up_n (by omega)]; exact b6 i hi), fun i hi => (by rw [q_up_n (by omega)]; exact b7 i hi)⟩

theorem CB_w2 {f1 f2 f3 f4 f5 f6 f7 : Nat → Int} {u0 u1 u2 u3 u4 : Int} {D : Nat → Int} {v0 v1 v2 : Int} (h : CB f1 f2 f3 f4 f5 f6 f7 u0 u1 u2 u3 u4 D) : CB f1 f2 f3 f4 f5 f6 f7 u0 u1 v0 u3 u4 (tel 2 v0 v1 v2 D) := by
  obtain ⟨⟨a0, a1, a2, a3, a4⟩, b1, b2, b3, b4, b5, b6, b7⟩ := h
  rw [show tel 2 v0 v1 v2 D = q_up D 2 v0 from by unfold tel; rw [if_neg (by decide)]; rw [if_neg (by decide)]; rw [if_pos (by decide)]]
  exact ⟨⟨(by rw [q_up_n (by omega)]; exact a0), (by rw [q_up_n (by omega)]; exact a1), (by rw [q_up_s]), (by rw [q_up_n (by omega)]; exact a3), (by rw [q_up_n (by omega)]; exact a4)⟩, fun i hi => (by rw [q_up_n (by omega)]; exact b1 i hi), fun i hi => (by rw [q_up_n (by omega)]; exact b2 i hi), fun i hi => (by rw [q_up_n (by omega)]; exact b3 i hi), fun i hi => (by rw [q_up_n (by omega)]; exact b4 i hi), fun i hi => (by rw [q_up_n (by omega)]; exact b5 i hi), fun i hi => (by rw [q_up_n (by omega)]; exact b6 i hi), fun i hi => (by rw [q_up_n (by omega)]; exact b7 i hi)⟩

theorem CB_w3 {f1 f2 f3 f4 f5 f6 f7 : Nat → Int} {u0 u1 u2 u3 u4 : Int} {D : Nat → Int} {v0 v1 v2 : Int} (h : CB f1 f2 f3 f4 f5 f6 f7 u0 u1 u2 u3 u4 D) (hu : 0 ≤ u3 ∧ u3 < 6) : CB f1 f2 f3 f4 (q_up f5 u3.toNat v0) f6 f7 u0 u1 u2 (u3 + 1) u4 (tel 3 v0 v1 v2 D) := by
  obtain ⟨⟨a0, a1, a2, a3, a4⟩, b1, b2, b3, b4, b5, b6, b7⟩ := h
  rw [show tel 3 v0 v1 v2 D = q_up (q_up D (25 + D 3).toNat v0) 3 (D 3 + 1) from by unfold tel; rw [if_neg (by decide)]; rw [if_neg (by decide)]; rw [if_neg (by decide)]; rw [if_pos (by decide)]]
  exact ⟨⟨(by rw [q_up_n (by omega), q_up_n (by omega)]; exact a0), (by rw [q_up_n (by omega), q_up_n (by omega)]; exact a1), (by rw [q_up_n (by omega), q_up_n (by omega)]; exact a2), (by rw [q_up_s]; omega), (by rw [q_up_n (by omega), q_up_n (by omega)]; exact a4)⟩, fun i hi => (by rw [q_up_n (by omega), q_up_n (by omega)]; exact b1 i hi), fun i hi => (by rw [q_up_n (by omega), q_up_n (by omega)]; exact b2 i hi), fun i hi => (by rw [q_up_n (by omega), q_up_n (by omega)]; exact b3 i hi), fun i hi => (by rw [q_up_n (by omega), q_up_n (by omega)]; exact b4 i hi), fun i hi => (by
    by_cases e : i = u3.toNat
    · rw [e, q_up_s, q_up_n (by omega), show (25 + D 3).toNat = 25 + u3.toNat by omega, q_up_s]
    · rw [q_up_n e, q_up_n (by omega), q_up_n (by omega)]; exact b5 i hi), fun i hi => (by rw [q_up_n (by omega), q_up_n (by omega)]; exact b6 i hi), fun i hi => (by rw [q_up_n (by omega), q_up_n (by omega)]; exact b7 i hi)⟩

theorem CB_w4 {f1 f2 f3 f4 f5 f6 f7 : Nat → Int} {u0 u1 u2 u3 u4 : Int} {D : Nat → Int} {v0 v1 v2 : Int} (h : CB f1 f2 f3 f4 f5 f6 f7 u0 u1 u2 u3 u4 D) (hu : 0 ≤ u4 ∧ u4 < 6) : CB f1 f2 f3 f4 f5 f6 (q_up f7 u4.toNat v0) u0 u1 u2 u3 (u4 + 1) (tel 4 v0 v1 v2 D) := by
  obtain ⟨⟨a0, a1, a2, a3, a4⟩, b1, b2, b3, b4, b5, b6, b7⟩ := h
  rw [show tel 4 v0 v1 v2 D = q_up (q_up D (37 + D 4).toNat v0) 4 (D 4 + 1) from by unfold tel; rw [if_neg (by decide)]; rw [if_neg (by decide)]; rw [if_neg (by decide)]; rw [if_neg (by decide)]; rw [if_pos (by decide)]]
  exact ⟨⟨(by rw [q_up_n (by omega), q_up_n (by omega)]; exact a0), (by rw [q_up_n (by omega), q_up_n (by omega)]; exact a1), (by rw [q_up_n (by omega), q_up_n (by omega)]; exact a2), (by rw [q_up_n (by omega), q_up_n (by omega)]; exact a3), (by rw [q_up_s]; omega)⟩, fun i hi => (by rw [q_up_n (by omega), q_up_n (by omega)]; exact b1 i hi), fun i hi => (by rw [q_up_n (by omega), q_up_n (by omega)]; exact b2 i hi), fun i hi => (by rw [q_up_n (by omega), q_up_n (by omega)]; exact b3 i hi), fun i hi => (by rw [q_up_n (by omega), q_up_n (by omega)]; exact b4 i hi), fun i hi => (by rw [q_up_n (by omega), q_up_n (by omega)]; exact b5 i hi), fun i hi => (by rw [q_up_n (by omega), q_up_n (by omega)]; exact b6 i hi), fun i hi => (by
    by_cases e : i = u4.toNat
    · rw [e, q_up_s, q_up_n (by omega), show (37 + D 4).toNat = 37 + u4.toNat by omega, q_up_s]
    · rw [q_up_n e, q_up_n (by omega), q_up_n (by omega)]; exact b7 i hi)⟩

theorem CB_w5 {f1 f2 f3 f4 f5 f6 f7 : Nat → Int} {u0 u1 u2 u3 u4 : Int} {D : Nat → Int} {v0 v1 v2 : Int} (h : CB f1 f2 f3 f4 f5 f6 f7 u0 u1 u2 u3 u4 D) (hv : 0 ≤ v0 ∧ v0 ≤ 7) : CB f1 (q_up f2 v0.toNat v1) f3 f4 f5 f6 f7 u0 u1 u2 u3 u4 (tel 5 v0 v1 v2 D) := by
  obtain ⟨⟨a0, a1, a2, a3, a4⟩, b1, b2, b3, b4, b5, b6, b7⟩ := h
  rw [show tel 5 v0 v1 v2 D = q_up D (13 + v0).toNat v1 from by unfold tel; rw [if_neg (by decide)]; rw [if_neg (by decide)]; rw [if_neg (by decide)]; rw [if_neg (by decide)]; rw [if_neg (by decide)]; rw [if_pos (by decide)]]
  exact ⟨⟨(by rw [q_up_n (by omega)]; exact a0), (by rw [q_up_n (by omega)]; exact a1), (by rw [q_up_n (by omega)]; exact a2), (by rw [q_up_n (by omega)]; exact a3), (by rw [q_up_n (by omega)]; exact a4)⟩, fun i hi => (by rw [q_up_n (by omega)]; exact b1 i hi), fun i hi => (by
    by_cases e : i = v0.toNat
    · rw [e, q_up_s, show (13 + v0).toNat = 13 + v0.toNat by omega, q_up_s]
    · rw [q_up_n e, q_up_n (by omega)]; exact b2 i hi), fun i hi => (by rw [q_up_n (by omega)]; exact b3 i hi), fun i hi => (by rw [q_up_n (by omega)]; exact b4 i hi), fun i hi => (by rw [q_up_n (by omega)]; exact b5 i hi), fun i hi => (by rw [q_up_n (by omega)]; exact b6 i hi), fun i hi => (by rw [q_up_n (by omega)]; exact b7 i hi)⟩

theorem CB_w6 {f1 f2 f3 f4 f5 f6 f7 : Nat → Int} {u0 u1 u2 u3 u4 : Int} {D : Nat → Int} {v0 v1 v2 : Int} (h : CB f1 f2 f3 f4 f5 f6 f7 u0 u1 u2 u3 u4 D) (hv : 0 ≤ v1 ∧ v1 ≤ 5) : CB f1 f2 f3 f4 f5 (q_up f6 v1.toNat (orI (f6 v1.toNat) v0)) f7 u0 u1 u2 u3 u4 (tel 6 v0 v1 v2 D) := by
  obtain ⟨⟨a0, a1, a2, a3, a4⟩, b1, b2, b3, b4, b5, b6, b7⟩ := h
  rw [show tel 6 v0 v1 v2 D = q_up D (31 + v1).toNat (orI (D (31 + v1).toNat) v0) from by unfold tel; rw [if_neg (by decide)]; rw [if_neg (by decide)]; rw [if_neg (by decide)]; rw [if_neg (by decide)]; rw [if_neg (by decide)]; rw [if_neg (by decide)]; rw [if_pos (by decide)]]
  exact ⟨⟨(by rw [q_up_n (by omega)]; exact a0), (by rw [q_up_n (by omega)]; exact a1), (by rw [q_up_n (by omega)]; exact a2), (by rw [q_up_n (by omega)]; exact a3), (by rw [q_up_n (by omega)]; exact a4)⟩, fun i hi => (by rw [q_up_n (by omega)]; exact b1 i hi), fun i hi => (by rw [q_up_n (by omega)]; exact b2 i hi), fun i hi => (by rw [q_up_n (by omega)]; exact b3 i hi), fun i hi => (by rw [q_up_n (by omega)]; exact b4 i hi), fun i hi => (by rw [q_up_n (by omega)]; exact b5 i hi), fun i hi => (by
    by_cases e : i = v1.toNat
    · rw [e, q_up_s, show (31 + v1).toNat = 31 + v1.toNat by omega, q_up_s, b6 v1.toNat (by omega)]
    · rw [q_up_n e, q_up_n (by omega)]; exact b6 i hi), fun i hi => (by rw [q_up_n (by omega)]; exact b7 i hi)⟩

theorem CB_w7 {f1 f2 f3 f4 f5 f6 f7 : Nat → Int} {u0 u1 u2 u3 u4 : Int} {D : Nat → Int} {v0 v1 v2 : Int} (h : CB f1 f2 f3 f4 f5 f6 f7 u0 u1 u2 u3 u4 D) (hv : 0 ≤ v0 ∧ v0 ≤ 3) : CB f1 f2 (q_up f3 v0.toNat v1) f4 f5 f6 f7 u0 u1 u2 u3 u4 (tel 7 v0 v1 v2 D) := by
  obtain ⟨⟨a0, a1, a2, a3, a4⟩, b1, b2, b3, b4, b5, b6, b7⟩ := h
  rw [show tel 7 v0 v1 v2 D = q_up D (21 + v0).toNat v1 from by unfold tel; rw [if_neg (by decide)]; rw [if_neg (by decide)]; rw [if_neg (by decide)]; rw [if_neg (by decide)]; rw [if_neg (by decide)]; rw [if_neg (by decide)]; rw [if_neg (by decide)]; rw [if_pos (by decide)]]
  exact ⟨⟨(by rw [q_up_n (by omega)]; exact a0), (by rw [q_up_n (by omega)]; exact a1), (by rw [q_up_n (by omega)]; exact a2), (by rw [q_up_n (by omega)]; exact a3), (by rw [q_up_n (by omega)]; exact a4)⟩, fun i hi => (by rw [q_up_n (by omega)]; exact b1 i hi), fun i hi => (by rw [q_up_n (by omega)]; exact b2 i hi), fun i hi => (by
    by_cases e : i = v0.toNat
    · rw [e, q_up_s, show (21 + v0).toNat = 21 + v0.toNat by omega, q_up_s]
    · rw [q_up_n e, q_up_n (by omega)]; exact b3 i hi), fun i hi => (by rw [q_up_n (by omega)]; exact b4 i hi), fun i hi => (by rw [q_up_n (by omega)]; exact b5 i hi), fun i hi => (by rw [q_up_n (by omega)]; exact b6 i hi), fun i hi => (by rw [q_up_n (by omega)]; exact b7 i hi)⟩

theorem CB_w8 {f1 f2 f3 f4 f5 f6 f7 : Nat → Int} {u0 u1 u2 u3 u4 : Int} {D : Nat → Int} {v0 v1 v2 : Int} (h : CB f1 f2 f3 f4 f5 f6 f7 u0 u1 u2 u3 u4 D) (hv : 0 ≤ v0 ∧ v0 ≤ 7) (hv1 : 0 ≤ v1 ∧ v1 ≤ 3) : CB f1 f2 f3 (q_up f4 (4 * v0 + v1).toNat v2) f5 f6 f7 u0 u1 u2 u3 u4 (tel 8 v0 v1 v2 D) := by
  obtain ⟨⟨a0, a1, a2, a3, a4⟩, b1, b2, b3, b4, b5, b6, b7⟩ := h
  rw [show tel 8 v0 v1 v2 D = q_up D (43 + 4 * v0 + v1).toNat v2 from by unfold tel; rw [if_neg (by decide)]; rw [if_neg (by decide)]; rw [if_neg (by decide)]; rw [if_neg (by decide)]; rw [if_neg (by decide)]; rw [if_neg (by decide)]; rw [if_neg (by decide)]; rw [if_neg (by decide)]; rw [if_pos (by decide)]]
  exact ⟨⟨(by rw [q_up_n (by omega)]; exact a0), (by rw [q_up_n (by omega)]; exact a1), (by rw [q_up_n (by omega)]; exact a2), (by rw [q_up_n (by omega)]; exact a3), (by rw [q_up_n (by omega)]; exact a4)⟩, fun i hi => (by rw [q_up_n (by omega)]; exact b1 i hi), fun i hi => (by rw [q_up_n (by omega)]; exact b2 i hi), fun i hi => (by rw [q_up_n (by omega)]; exact b3 i hi), fun i hi => (by
    by_cases e : i = (4 * v0 + v1).toNat
    · rw [e, q_up_s, show (43 + 4 * v0 + v1).toNat = 43 + (4 * v0 + v1).toNat by omega, q_up_s]
    · rw [q_up_n e, q_up_n (by omega)]; exact b4 i hi), fun i hi => (by rw [q_up_n (by omega)]; exact b5 i hi), fun i hi => (by rw [q_up_n (by omega)]; exact b6 i hi), fun i hi => (by rw [q_up_n (by omega)]; exact b7 i hi)⟩

theorem tel_y {w v0 v1 v2 : Int} {D : Nat → Int} (h : 9 ≤ w ∧ w ≤ 13) : tel w v0 v1 v2 D = q_up (q_up (q_up (q_up (q_up D (1 + 4 * D 0).toNat (w - 9)) (2 + 4 * D 0).toNat v0) (3 + 4 * D 0).toNat v1) (4 + 4 * D 0).toNat v2) 0 (D 0 + 1) := by
  unfold tel
  rw [if_neg (by omega), if_neg (by omega), if_neg (by omega), if_neg (by omega), if_neg (by omega), if_neg (by omega), if_neg (by omega), if_neg (by omega), if_neg (by omega), if_pos (by omega)]
theorem tel_g {v0 v1 v2 : Int} {D : Nat → Int} : tel 14 v0 v1 v2 D = q_up D v0.toNat v1 := by
  unfold tel
  rw [if_neg (by decide), if_neg (by decide), if_neg (by decide), if_neg (by decide), if_neg (by decide), if_neg (by decide), if_neg (by decide), if_neg (by decide), if_neg (by decide), if_neg (by decide), if_pos (by decide)]
theorem tel_o {v0 v1 v2 : Int} {D : Nat → Int} : tel 15 v0 v1 v2 D = q_up D 8 v0 := by
  unfold tel
  rw [if_neg (by decide), if_neg (by decide), if_neg (by decide), if_neg (by decide), if_neg (by decide), if_neg (by decide), if_neg (by decide), if_neg (by decide), if_neg (by decide), if_neg (by decide), if_neg (by decide), if_pos (by decide)]
theorem tel_s {v0 v1 v2 : Int} {D : Nat → Int} : tel 16 v0 v1 v2 D = q_up (q_up (q_up D (1 + 2 * D 0).toNat v0) (2 + 2 * D 0).toNat v1) 0 (D 0 + 1) := by
  unfold tel
  rw [if_neg (by decide), if_neg (by decide), if_neg (by decide), if_neg (by decide), if_neg (by decide), if_neg (by decide), if_neg (by decide), if_neg (by decide), if_neg (by decide), if_neg (by decide), if_neg (by decide), if_neg (by decide)]
theorem CY_w {k1 k2 k3 k4 : Nat → Int} {d w v0 v1 v2 x : Int} {D : Nat → Int} (h : CY k1 k2 k3 k4 d D) (hd : 0 ≤ d ∧ d < 40) (hw : 9 ≤ w ∧ w ≤ 13) (hx : x = w - 9) : CY (q_up k1 d.toNat x) (q_up k2 d.toNat v0) (q_up k3 d.toNat v1) (q_up k4 d.toNat v2) (d + 1) (tel w v0 v1 v2 D) := by
  obtain ⟨a0, b⟩ := h
  rw [tel_y hw]
  refine ⟨by rw [q_up_s]; omega, fun i hi => ?_⟩
  rw [q_up_s] at hi
  by_cases e : i = d.toNat
  · refine ⟨?_, ?_, ?_, ?_⟩
    · rw [e, q_up_s, q_up_n (by omega), q_up_n (by omega), q_up_n (by omega), q_up_n (by omega), show (1 + 4 * D 0).toNat = 1 + 4 * d.toNat by omega, q_up_s]; exact hx
    · rw [e, q_up_s, q_up_n (by omega), q_up_n (by omega), q_up_n (by omega), show (2 + 4 * D 0).toNat = 2 + 4 * d.toNat by omega, q_up_s]
    · rw [e, q_up_s, q_up_n (by omega), q_up_n (by omega), show (3 + 4 * D 0).toNat = 3 + 4 * d.toNat by omega, q_up_s]
    · rw [e, q_up_s, q_up_n (by omega), show (4 + 4 * D 0).toNat = 4 + 4 * d.toNat by omega, q_up_s]
  · obtain ⟨b1, b2, b3, b4⟩ := b i (by omega)
    refine ⟨?_, ?_, ?_, ?_⟩
    · rw [q_up_n e, q_up_n (by omega), q_up_n (by omega), q_up_n (by omega), q_up_n (by omega), q_up_n (by omega)]; exact b1
    · rw [q_up_n e, q_up_n (by omega), q_up_n (by omega), q_up_n (by omega), q_up_n (by omega), q_up_n (by omega)]; exact b2
    · rw [q_up_n e, q_up_n (by omega), q_up_n (by omega), q_up_n (by omega), q_up_n (by omega), q_up_n (by omega)]; exact b3
    · rw [q_up_n e, q_up_n (by omega), q_up_n (by omega), q_up_n (by omega), q_up_n (by omega), q_up_n (by omega)]; exact b4
theorem CS_w {p q : Nat → Int} {c v0 v1 v2 : Int} {D : Nat → Int} (h : CS p q c D) (hc : 0 ≤ c ∧ c < 10) : CS (q_up p c.toNat v0) (q_up q c.toNat v1) (c + 1) (tel 16 v0 v1 v2 D) := by
  obtain ⟨a0, b⟩ := h
  rw [tel_s]
  refine ⟨by rw [q_up_s]; omega, fun i hi => ?_⟩
  rw [q_up_s] at hi
  by_cases e : i = c.toNat
  · refine ⟨?_, ?_⟩
    · rw [e, q_up_s, q_up_n (by omega), q_up_n (by omega), show (1 + 2 * D 0).toNat = 1 + 2 * c.toNat by omega, q_up_s]
    · rw [e, q_up_s, q_up_n (by omega), show (2 + 2 * D 0).toNat = 2 + 2 * c.toNat by omega, q_up_s]
  · obtain ⟨b1, b2⟩ := b i (by omega)
    refine ⟨?_, ?_⟩
    · rw [q_up_n e, q_up_n (by omega), q_up_n (by omega), q_up_n (by omega)]; exact b1
    · rw [q_up_n e, q_up_n (by omega), q_up_n (by omega), q_up_n (by omega)]; exact b2
theorem CL_g {g : Nat → Int} {o v0 v1 v2 : Int} {D : Nat → Int} (h : CL g o D) (hv : 0 ≤ v0 ∧ v0 ≤ 7) : CL (q_up g v0.toNat v1) o (tel 14 v0 v1 v2 D) := by
  obtain ⟨a0, b⟩ := h
  rw [tel_g]
  refine ⟨by rw [q_up_n (by omega)]; exact a0, fun i hi => ?_⟩
  by_cases e : i = v0.toNat
  · rw [e, q_up_s, q_up_s]
  · rw [q_up_n e, q_up_n e]; exact b i hi
theorem CL_o {g : Nat → Int} {o v0 v1 v2 : Int} {D : Nat → Int} (h : CL g o D) : CL g v0 (tel 15 v0 v1 v2 D) := by
  obtain ⟨a0, b⟩ := h
  rw [tel_o]
  exact ⟨by rw [q_up_s], fun i hi => by rw [q_up_n (by omega)]; exact b i hi⟩
theorem e_orI {z m s a : Int} (hs : s = (Int32.ofInt 1 <<< (Int32.ofInt a &&& 31)).toInt) (h : z = (Int32.ofInt m ||| Int32.ofInt s).toInt) : z = orI m a := by
  rw [h, hs, Int32.ofInt_toInt]; rfl
theorem e_orI2 {z m s a s2 b q : Int} (hs : s = (Int32.ofInt 1 <<< (Int32.ofInt a &&& 31)).toInt) (hs2 : s2 = (Int32.ofInt 1 <<< (Int32.ofInt b &&& 31)).toInt) (hq : q = (Int32.ofInt s ||| Int32.ofInt s2).toInt) (h : z = (Int32.ofInt m ||| Int32.ofInt q).toInt) : z = orI (orI m a) b := by
  unfold orI
  rw [h, hq, hs, hs2, Int32.ofInt_toInt, Int32.ofInt_toInt, Int32.ofInt_toInt, Int32.ofInt_toInt, Int32.or_assoc]

/-- the reader's cells tell D, for a text of sort s -/
def Cs (s : Int) (D : Nat → Int) (fp fd : Int) (f1 f2 f3 f4 f5 f6 f7 : Nat → Int) (u0 u1 u2 u3 u4 np nd : Int) (k1 k2 k3 k4 : Nat → Int) (d : Int) (g : Nat → Int) (o : Int) (p q : Nat → Int) (c : Int) : Prop := (s = 0 → CB f1 f2 f3 f4 f5 f6 f7 u0 u1 u2 u3 u4 D ∧ NPR np fp ∧ NPR nd fd) ∧ (s = 1 → CY k1 k2 k3 k4 d D) ∧ (s = 2 → CL g o D) ∧ (s = 3 → CS p q c D)
/-- which words a line of a sort has -/
def wsR (s w : Int) : Prop := (s = 0 ∧ 0 ≤ w ∧ w ≤ 8) ∨ (s = 1 ∧ 9 ≤ w ∧ w ≤ 13) ∨ (s = 2 ∧ 14 ≤ w ∧ w ≤ 15) ∨ (s = 3 ∧ w = 16)
def fulC (w u0 u3 u4 d c : Int) : Prop := (w = 0 ∧ 8 ≤ u0) ∨ (w = 3 ∧ 6 ≤ u3) ∨ (w = 4 ∧ 6 ≤ u4) ∨ (w = 16 ∧ 10 ≤ c) ∨ ((9 ≤ w ∧ w ≤ 13) ∧ 40 ≤ d)
theorem ful_e {s w fp fd : Int} {D f1 f2 f3 f4 f5 f6 f7 k1 k2 k3 k4 g p q : Nat → Int} {u0 u1 u2 u3 u4 np nd d o c : Int} (h : Cs s D fp fd f1 f2 f3 f4 f5 f6 f7 u0 u1 u2 u3 u4 np nd k1 k2 k3 k4 d g o p q c) (hw : wsR s w) : fulC w u0 u3 u4 d c ↔ fulP w D := by
  obtain ⟨hq_0, hq_1, hq_2, hq_3⟩ := h
  unfold fulC fulP
  rcases hw with ⟨e, hw⟩ | ⟨e, hw⟩ | ⟨e, hw⟩ | ⟨e, hw⟩
  · obtain ⟨⟨⟨a0, a1, a2, a3, a4⟩, -⟩, -⟩ := hq_0 e
    omega
  · obtain ⟨a0, -⟩ := hq_1 e
    omega
  · omega
  · obtain ⟨a0, -⟩ := hq_3 e
    omega
/-- a word's numbers, in range -/
def VR (w v0 v1 : Int) : Prop := (w = 1 ∨ w = 5 ∨ w = 6 ∨ w = 8 ∨ w = 14 → 0 ≤ v0 ∧ v0 ≤ 7) ∧ (w = 5 → 0 ≤ v1 ∧ v1 ≤ 7) ∧ (w = 6 → 0 ≤ v1 ∧ v1 ≤ 5) ∧ (w = 7 → 0 ≤ v0 ∧ v0 ≤ 3) ∧ (w = 7 → 0 ≤ v1 ∧ v1 ≤ 9) ∧ (w = 8 → 0 ≤ v1 ∧ v1 ≤ 3)
theorem VR_p {w v0 v1 : Int} (h : VR w v0 v1) (hw : w = 1 ∨ w = 5 ∨ w = 6 ∨ w = 8 ∨ w = 14) : 0 ≤ v0 ∧ v0 ≤ 7 := h.1 hw
theorem VR_5 {w v0 v1 : Int} (h : VR w v0 v1) (hw : w = 5) : 0 ≤ v1 ∧ v1 ≤ 7 := h.2.1 hw
theorem VR_6 {w v0 v1 : Int} (h : VR w v0 v1) (hw : w = 6) : 0 ≤ v1 ∧ v1 ≤ 5 := h.2.2.1 hw
theorem VR_7a {w v0 v1 : Int} (h : VR w v0 v1) (hw : w = 7) : 0 ≤ v0 ∧ v0 ≤ 3 := h.2.2.2.1 hw
theorem VR_7b {w v0 v1 : Int} (h : VR w v0 v1) (hw : w = 7) : 0 ≤ v1 ∧ v1 ≤ 9 := h.2.2.2.2.1 hw
theorem VR_8 {w v0 v1 : Int} (h : VR w v0 v1) (hw : w = 8) : 0 ≤ v1 ∧ v1 ≤ 3 := h.2.2.2.2.2 hw
theorem VR_l {t : Nat → Int} {n w p f : Int} (h : lfa t n w p f 3 = 0) (hl : lok t n w p 3) : VR w (lvs t n w p 0) (lvs t n w p 1) := by
  refine ⟨fun hw => ?_, fun hw => ?_, fun hw => ?_, fun hw => ?_, fun hw => ?_, fun hw => ?_⟩
  · rcases hw with rfl | rfl | rfl | rfl | rfl
    · exact lvs_r (j := 0) h (by decide) rfl
    · exact lvs_r (j := 0) h (by decide) rfl
    · exact lvs_r (j := 0) h (by decide) rfl
    · exact lvs_r (j := 0) h (by decide) rfl
    · exact lvs_r (j := 0) h (by decide) rfl
  · subst hw; exact lvs_r (j := 1) h (by decide) rfl
  · subst hw; exact lvs_r (j := 1) h (by decide) rfl
  · subst hw; exact lvs_o (j := 0) hl (by decide) rfl
  · subst hw
    have hq_1 : 1 ≤ lvs t n 7 p 1 ∧ lvs t n 7 p 1 ≤ 9 := lvs_r (j := 1) h (by decide) rfl
    omega
  · subst hw; exact lvs_o (j := 1) hl (by decide) rfl
theorem fpN_n {w v0 v1 fp : Int} (h : w = 0 ∨ w = 2 ∨ w = 3 ∨ w = 4 ∨ w = 7 ∨ 9 ≤ w) : fpN w v0 v1 fp = fp := by
  unfold fpN
  rw [if_neg (by omega), if_neg (by omega)]
theorem fpN_1 {w v0 v1 fp : Int} (h : w = 1 ∨ w = 6 ∨ w = 8) : fpN w v0 v1 fp = max fp v0 := by
  unfold fpN
  rw [if_pos h]
theorem fpN_5 {v0 v1 fp : Int} : fpN 5 v0 v1 fp = max (max fp v0) v1 := by
  unfold fpN
  rw [if_neg (by decide), if_pos rfl]
theorem fdN_n {w v1 fd : Int} (h : ¬ w = 6) : fdN w v1 fd = fd := by
  unfold fdN
  rw [if_neg h]
theorem fdN_6 {v1 fd : Int} : fdN 6 v1 fd = max fd v1 := by
  unfold fdN
  rw [if_pos rfl]
theorem Cs_0 {s fp fd : Int} {D f1 f2 f3 f4 f5 f6 f7 k1 k2 k3 k4 g p q : Nat → Int} {u0 u1 u2 u3 u4 np nd d o c : Int} (hs : s = 0) (h : CB f1 f2 f3 f4 f5 f6 f7 u0 u1 u2 u3 u4 D ∧ NPR np fp ∧ NPR nd fd) : Cs s D fp fd f1 f2 f3 f4 f5 f6 f7 u0 u1 u2 u3 u4 np nd k1 k2 k3 k4 d g o p q c := ⟨fun _ => h, (fun hq_9 => by omega), (fun hq_9 => by omega), (fun hq_9 => by omega)⟩
theorem Cs_1 {s fp fd : Int} {D f1 f2 f3 f4 f5 f6 f7 k1 k2 k3 k4 g p q : Nat → Int} {u0 u1 u2 u3 u4 np nd d o c : Int} (hs : s = 1) (h : CY k1 k2 k3 k4 d D) : Cs s D fp fd f1 f2 f3 f4 f5 f6 f7 u0 u1 u2 u3 u4 np nd k1 k2 k3 k4 d g o p q c := ⟨(fun hq_9 => by omega), fun _ => h, (fun hq_9 => by omega), (fun hq_9 => by omega)⟩
theorem Cs_2 {s fp fd : Int} {D f1 f2 f3 f4 f5 f6 f7 k1 k2 k3 k4 g p q : Nat → Int} {u0 u1 u2 u3 u4 np nd d o c : Int} (hs : s = 2) (h : CL g o D) : Cs s D fp fd f1 f2 f3 f4 f5 f6 f7 u0 u1 u2 u3 u4 np nd k1 k2 k3 k4 d g o p q c := ⟨(fun hq_9 => by omega), (fun hq_9 => by omega), fun _ => h, (fun hq_9 => by omega)⟩
theorem Cs_3 {s fp fd : Int} {D f1 f2 f3 f4 f5 f6 f7 k1 k2 k3 k4 g p q : Nat → Int} {u0 u1 u2 u3 u4 np nd d o c : Int} (hs : s = 3) (h : CS p q c D) : Cs s D fp fd f1 f2 f3 f4 f5 f6 f7 u0 u1 u2 u3 u4 np nd k1 k2 k3 k4 d g o p q c := ⟨(fun hq_9 => by omega), (fun hq_9 => by omega), (fun hq_9 => by omega), fun _ => h⟩
/-- FAULT 3 noted, or not -/
theorem n3_f {s fp fd : Int} {D f1 f2 f3 f4 f5 f6 f7 k1 k2 k3 k4 g p q : Nat → Int} {u0 u1 u2 u3 u4 np nd d o c : Int} {a w fa pl x : Int} (hC : fa = 0 → Cs s D fp fd f1 f2 f3 f4 f5 f6 f7 u0 u1 u2 u3 u4 np nd k1 k2 k3 k4 d g o p q c) (hw : wsR s w) (hn : ¬ fulC w u0 u3 u4 d c) : fa = ntF (fulP w D) 3 fa ∧ pl = ntP (fulP w D) x fa pl := by
  by_cases e : fa = 0
  · have hq_1 : ¬ fulP w D := fun hq_9 => hn ((ful_e (hC e) hw).mpr hq_9)
    exact ⟨(ntF_n hq_1).symm, (ntP_n hq_1).symm⟩
  · exact ⟨(ntF_k e).symm, (ntP_k e).symm⟩
theorem n3_t {s fp fd : Int} {D f1 f2 f3 f4 f5 f6 f7 k1 k2 k3 k4 g p q : Nat → Int} {u0 u1 u2 u3 u4 np nd d o c : Int} {a w fa pl x fa' pl' : Int} (hC : fa = 0 → Cs s D fp fd f1 f2 f3 f4 f5 f6 f7 u0 u1 u2 u3 u4 np nd k1 k2 k3 k4 d g o p q c) (hw : wsR s w) (hf : fulC w u0 u3 u4 d c) (hn : fa = 0 ∧ fa' = 3 ∧ pl' = x ∨ ¬ fa = 0 ∧ fa' = fa ∧ pl' = pl) : fa' = ntF (fulP w D) 3 fa ∧ pl' = ntP (fulP w D) x fa pl := by
  by_cases e : fa = 0
  · exact ntF_y ((ful_e (hC e) hw).mp hf) hn
  · rcases hn with ⟨hq_1, -⟩ | ⟨-, hq_2, hq_3⟩
    · exact absurd hq_1 e
    · exact ⟨by rw [ntF_k e]; exact hq_2, by rw [ntP_k e]; exact hq_3⟩

theorem dF6_tellPerson_0 : decode cX6_tellPerson 0 = .ok (.aload_n 0, 1) := by decide +kernel
theorem dF6_tellPerson_1 : decode cX6_tellPerson 1 = .ok (.getfield 12, 3) := by decide +kernel
theorem dF6_tellPerson_4 : decode cX6_tellPerson 4 = .ok (.getfield 103, 3) := by decide +kernel
theorem dF6_tellPerson_7 : decode cX6_tellPerson 7 = .ok (.bipush 8, 2) := by decide +kernel
theorem dF6_tellPerson_9 : decode cX6_tellPerson 9 = .ok (.if_icmp .ge 32, 3) := by decide +kernel
theorem dF6_tellPerson_12 : decode cX6_tellPerson 12 = .ok (.aload_n 0, 1) := by decide +kernel
theorem dF6_tellPerson_13 : decode cX6_tellPerson 13 = .ok (.getfield 12, 3) := by decide +kernel
theorem dF6_tellPerson_16 : decode cX6_tellPerson 16 = .ok (.getfield 264, 3) := by decide +kernel
theorem dF6_tellPerson_19 : decode cX6_tellPerson 19 = .ok (.aload_n 0, 1) := by decide +kernel
theorem dF6_tellPerson_20 : decode cX6_tellPerson 20 = .ok (.getfield 12, 3) := by decide +kernel
theorem dF6_tellPerson_23 : decode cX6_tellPerson 23 = .ok (.getfield 103, 3) := by decide +kernel
theorem dF6_tellPerson_26 : decode cX6_tellPerson 26 = .ok (.iload_n 1, 1) := by decide +kernel
theorem dF6_tellPerson_27 : decode cX6_tellPerson 27 = .ok (.iastore, 1) := by decide +kernel
theorem dF6_tellPerson_28 : decode cX6_tellPerson 28 = .ok (.aload_n 0, 1) := by decide +kernel
theorem dF6_tellPerson_29 : decode cX6_tellPerson 29 = .ok (.getfield 12, 3) := by decide +kernel
theorem dF6_tellPerson_32 : decode cX6_tellPerson 32 = .ok (.dup, 1) := by decide +kernel
theorem dF6_tellPerson_33 : decode cX6_tellPerson 33 = .ok (.getfield 103, 3) := by decide +kernel
theorem dF6_tellPerson_36 : decode cX6_tellPerson 36 = .ok (.iconst 1, 1) := by decide +kernel
theorem dF6_tellPerson_37 : decode cX6_tellPerson 37 = .ok (.iadd, 1) := by decide +kernel
theorem dF6_tellPerson_38 : decode cX6_tellPerson 38 = .ok (.putfield 103, 3) := by decide +kernel
theorem dF6_tellPerson_41 : decode cX6_tellPerson 41 = .ok (.return_, 1) := by decide +kernel
def is_F6_tellPerson : Nat → List Nat := fun d => []
set_option maxRecDepth 100000 in
def b_F6_tellPerson_41 (J : Nat → List qV → List qV → qW → Prop) (Q : qR) : qK := x_vret Q
set_option maxRecDepth 100000 in
theorem s_F6_tellPerson_41 {p : Program} {l : Launch} {e : Env} {R : Room} {s : State} {m : MethodId} {args : Array Value} {below : List Frame} {meth : Method} {c : Code} {nW : Nat} {dC : Nat → ClassId} {dI : Nat → Nat → Nat} {k : Nat → ClassId} {g : Nat → Nat} {A : Nat → Prop} {J : Nat → List qV → List qV → qW → Prop} {Q : qR} (X : q_X p R s m args meth c cX6_tellPerson 2 nW 0 0 RX6 none dC dI k g A) (hJ : ∀ d : Nat, q_Sd p l e R s m args below meth c 2 nW dC dI k g A (MQ below (q_post (dC, dI) k g nW Q A) args s 0 0 A) d (x_cut (is_F6_tellPerson d) (J d))) : q_Sd p l e R s m args below meth c 2 nW dC dI k g A (MQ below (q_post (dC, dI) k g nW Q A) args s 0 0 A) 41 (b_F6_tellPerson_41 J Q) := by
  unfold b_F6_tellPerson_41
  exact s_vret X dF6_tellPerson_41
set_option maxRecDepth 100000 in
def b_F6_tellPerson_0 (J : Nat → List qV → List qV → qW → Prop) (Q : qR) : qK := x_aload 0 (x_get 6 0 (x_get 0 7 (x_int 8 (x_icmp_ge (b_F6_tellPerson_41 J Q) (x_aload 0 (x_get 6 0 (x_get 0 0 (x_aload 0 (x_get 6 0 (x_get 0 7 (x_iload 1 (x_iast (x_nw (x_aload 0 (x_get 6 0 (x_dup (x_get 0 7 (x_int 1 (x_iadd (x_put 0 7 q_oki (x_nw (b_F6_tellPerson_41 J Q))))))))))))))))))))))
set_option maxRecDepth 100000 in
theorem s_F6_tellPerson_0 {p : Program} {l : Launch} {e : Env} {R : Room} {s : State} {m : MethodId} {args : Array Value} {below : List Frame} {meth : Method} {c : Code} {nW : Nat} {dC : Nat → ClassId} {dI : Nat → Nat → Nat} {k : Nat → ClassId} {g : Nat → Nat} {A : Nat → Prop} {J : Nat → List qV → List qV → qW → Prop} {Q : qR} (X : q_X p R s m args meth c cX6_tellPerson 2 nW 0 0 RX6 none dC dI k g A) (hJ : ∀ d : Nat, q_Sd p l e R s m args below meth c 2 nW dC dI k g A (MQ below (q_post (dC, dI) k g nW Q A) args s 0 0 A) d (x_cut (is_F6_tellPerson d) (J d))) : q_Sd p l e R s m args below meth c 2 nW dC dI k g A (MQ below (q_post (dC, dI) k g nW Q A) args s 0 0 A) 0 (b_F6_tellPerson_0 J Q) := by
  unfold b_F6_tellPerson_0
  refine s_aload_n X rfl dF6_tellPerson_0 ?_
  refine s_get X (T := TX6) (C := RX6) (N := 15) tu_X6 rfl (by decide) tw_267 dF6_tellPerson_1 ?_
  refine s_get X (T := TX0) (C := RX0) (N := 12) tu_X0 rfl (by decide) tw_195 dF6_tellPerson_4 ?_
  refine s_bipush X ⟨by decide, by decide⟩ (by decide) dF6_tellPerson_7 ?_
  refine s_icmp_ge X (tgt := 41) dF6_tellPerson_9 (by decide) ?_ ?_
  · exact s_F6_tellPerson_41 X hJ
  · refine s_aload_n X rfl dF6_tellPerson_12 ?_
    refine s_get X (T := TX6) (C := RX6) (N := 15) tu_X6 rfl (by decide) tw_267 dF6_tellPerson_13 ?_
    refine s_get X (T := TX0) (C := RX0) (N := 12) tu_X0 rfl (by decide) tw_170 dF6_tellPerson_16 ?_
    refine s_aload_n X rfl dF6_tellPerson_19 ?_
    refine s_get X (T := TX6) (C := RX6) (N := 15) tu_X6 rfl (by decide) tw_267 dF6_tellPerson_20 ?_
    refine s_get X (T := TX0) (C := RX0) (N := 12) tu_X0 rfl (by decide) tw_195 dF6_tellPerson_23 ?_
    refine s_iload_n X rfl dF6_tellPerson_26 ?_
    refine s_iast X dF6_tellPerson_27 ?_
    refine s_nw ?_
    refine s_aload_n X rfl dF6_tellPerson_28 ?_
    refine s_get X (T := TX6) (C := RX6) (N := 15) tu_X6 rfl (by decide) tw_267 dF6_tellPerson_29 ?_
    refine s_dup X dF6_tellPerson_32 ?_
    refine s_get X (T := TX0) (C := RX0) (N := 12) tu_X0 rfl (by decide) tw_195 dF6_tellPerson_33 ?_
    refine s_iconst X ⟨by decide, by decide⟩ dF6_tellPerson_36 ?_
    refine s_iadd X dF6_tellPerson_37 ?_
    refine s_put X (T := TX0) (C := RX0) (N := 12) tu_X0 tyX0_ok nmX0 rfl (by decide) tw_195 rfl (by decide +kernel) q_oki_t dF6_tellPerson_38 ?_
    refine s_nw ?_
    exact s_F6_tellPerson_41 X hJ

def sp_F6_tellPerson : qS := fun av w Q => ∃ (rln : Int) (rfa : Int) (rpl : Int) (rst : Int) (rnx : Int) (rtk : Int) (rnm : Int) (rnp : Int) (rnd : Int) (rbf1 : Nat → Int) (rbf2 : Nat → Int) (rbf3 : Nat → Int) (rbf4 : Nat → Int) (rbf5 : Nat → Int) (rbf6 : Nat → Int) (rbf7 : Nat → Int) (rbu0 : Int) (rbu1 : Int) (rbu2 : Int) (rbu3 : Int) (rbu4 : Int) (gD : Nat → Int) (gv1 : Int) (gv2 : Int) (a : Int), av = [q2 0, q1 a] ∧ w = [.inr (6, [q2 1, q2 9, q2 10, q2 11, q2 12, q2 13, q1 rln, q1 rfa, q1 rpl, q1 rst, q1 rnx, q1 rtk, q1 rnm, q1 rnp, q1 rnd]), .inr (0, [q2 2, q2 3, q2 4, q2 5, q2 6, q2 7, q2 8, q1 rbu0, q1 rbu1, q1 rbu2, q1 rbu3, q1 rbu4]), .inl (0, 8, .inl rbf1), .inl (0, 8, .inl rbf2), .inl (0, 4, .inl rbf3), .inl (0, 32, .inl rbf4), .inl (0, 6, .inl rbf5), .inl (0, 6, .inl rbf6), .inl (0, 6, .inl rbf7)] ∧ (CB rbf1 rbf2 rbf3 rbf4 rbf5 rbf6 rbf7 rbu0 rbu1 rbu2 rbu3 rbu4 gD) ∧ (0 ≤ rbu0 ∧ rbu0 < 8) ∧ (∀ (x_rbf1 : Nat → Int) (x_rbu0 : Int), (CB x_rbf1 rbf2 rbf3 rbf4 rbf5 rbf6 rbf7 x_rbu0 rbu1 rbu2 rbu3 rbu4 (tel 0 a gv1 gv2 gD) ∧ (0 ≤ x_rbu0 ∧ x_rbu0 ≤ 8)) → Q none ([.inr (6, [q2 1, q2 9, q2 10, q2 11, q2 12, q2 13, q1 rln, q1 rfa, q1 rpl, q1 rst, q1 rnx, q1 rtk, q1 rnm, q1 rnp, q1 rnd]), .inr (0, [q2 2, q2 3, q2 4, q2 5, q2 6, q2 7, q2 8, q1 x_rbu0, q1 rbu1, q1 rbu2, q1 rbu3, q1 rbu4]), .inl (0, 8, .inl x_rbf1), .inl (0, 8, .inl rbf2), .inl (0, 4, .inl rbf3), .inl (0, 32, .inl rbf4), .inl (0, 6, .inl rbf5), .inl (0, 6, .inl rbf6), .inl (0, 6, .inl rbf7)]))
set_option maxHeartbeats 4000000 in
set_option maxRecDepth 100000 in
theorem m_F6_tellPerson (l : Launch) : q_M l yX6_tellPerson cX6_tellPerson 2 none 0 0 sp_F6_tellPerson := by
  refine q_meth (by decide) (fun av w Q h => by obtain ⟨rln, rfa, rpl, rst, rnx, rtk, rnm, rnp, rnd, rbf1, rbf2, rbf3, rbf4, rbf5, rbf6, rbf7, rbu0, rbu1, rbu2, rbu3, rbu4, gD, gv1, gv2, a, rfl, rfl, hC, hu, hQ⟩ := h; exact Nat.le_of_ble_eq_true rfl) ?_
  intro p e R s m args below meth c dC dI k g A av w Q hsp oka okw X
  obtain ⟨rln, rfa, rpl, rst, rnx, rtk, rnm, rnp, rnd, rbf1, rbf2, rbf3, rbf4, rbf5, rbf6, rbf7, rbu0, rbu1, rbu2, rbu3, rbu4, gD, gv1, gv2, a, rfl, rfl, hC, hu, hQ⟩ := hsp
  have o_a : -2147483648 ≤ a ∧ a ≤ 2147483647 := oka _ (List.mem_of_getElem? (i := 1) rfl)
  refine s_mono (s_F6_tellPerson_0 X (J := fun _ _ _ _ => False) (fun d => s_cutF)) ?_
  rintro lv st w' ⟨rfl, rfl, rfl⟩
  apply And.intro
  · intro hq_9
    exact hQ _ _ (by first | exact ⟨CB_w0 hC hu, by omega, by omega⟩ | (exfalso; omega))
  · intro hq_9
    apply And.intro
    · exact ⟨by omega, by omega⟩
    intro zq_37 hq_37
    replace hq_37 := e_add hq_37 (by omega)
    subst hq_37
    apply And.intro
    · exact trivial
    exact hQ _ _ (by first | exact ⟨CB_w0 hC hu, by omega, by omega⟩ | (exfalso; omega))

theorem dF6_tellDoor_0 : decode cX6_tellDoor 0 = .ok (.aload_n 0, 1) := by decide +kernel
theorem dF6_tellDoor_1 : decode cX6_tellDoor 1 = .ok (.getfield 12, 3) := by decide +kernel
theorem dF6_tellDoor_4 : decode cX6_tellDoor 4 = .ok (.getfield 110, 3) := by decide +kernel
theorem dF6_tellDoor_7 : decode cX6_tellDoor 7 = .ok (.bipush 6, 2) := by decide +kernel
theorem dF6_tellDoor_9 : decode cX6_tellDoor 9 = .ok (.if_icmp .ge 32, 3) := by decide +kernel
theorem dF6_tellDoor_12 : decode cX6_tellDoor 12 = .ok (.aload_n 0, 1) := by decide +kernel
theorem dF6_tellDoor_13 : decode cX6_tellDoor 13 = .ok (.getfield 12, 3) := by decide +kernel
theorem dF6_tellDoor_16 : decode cX6_tellDoor 16 = .ok (.getfield 267, 3) := by decide +kernel
theorem dF6_tellDoor_19 : decode cX6_tellDoor 19 = .ok (.aload_n 0, 1) := by decide +kernel
theorem dF6_tellDoor_20 : decode cX6_tellDoor 20 = .ok (.getfield 12, 3) := by decide +kernel
theorem dF6_tellDoor_23 : decode cX6_tellDoor 23 = .ok (.getfield 110, 3) := by decide +kernel
theorem dF6_tellDoor_26 : decode cX6_tellDoor 26 = .ok (.iload_n 1, 1) := by decide +kernel
theorem dF6_tellDoor_27 : decode cX6_tellDoor 27 = .ok (.iastore, 1) := by decide +kernel
theorem dF6_tellDoor_28 : decode cX6_tellDoor 28 = .ok (.aload_n 0, 1) := by decide +kernel
theorem dF6_tellDoor_29 : decode cX6_tellDoor 29 = .ok (.getfield 12, 3) := by decide +kernel
theorem dF6_tellDoor_32 : decode cX6_tellDoor 32 = .ok (.dup, 1) := by decide +kernel
theorem dF6_tellDoor_33 : decode cX6_tellDoor 33 = .ok (.getfield 110, 3) := by decide +kernel
theorem dF6_tellDoor_36 : decode cX6_tellDoor 36 = .ok (.iconst 1, 1) := by decide +kernel
theorem dF6_tellDoor_37 : decode cX6_tellDoor 37 = .ok (.iadd, 1) := by decide +kernel
theorem dF6_tellDoor_38 : decode cX6_tellDoor 38 = .ok (.putfield 110, 3) := by decide +kernel
theorem dF6_tellDoor_41 : decode cX6_tellDoor 41 = .ok (.return_, 1) := by decide +kernel
def is_F6_tellDoor : Nat → List Nat := fun d => []
set_option maxRecDepth 100000 in
def b_F6_tellDoor_41 (J : Nat → List qV → List qV → qW → Prop) (Q : qR) : qK := x_vret Q
set_option maxRecDepth 100000 in
theorem s_F6_tellDoor_41 {p : Program} {l : Launch} {e : Env} {R : Room} {s : State} {m : MethodId} {args : Array Value} {below : List Frame} {meth : Method} {c : Code} {nW : Nat} {dC : Nat → ClassId} {dI : Nat → Nat → Nat} {k : Nat → ClassId} {g : Nat → Nat} {A : Nat → Prop} {J : Nat → List qV → List qV → qW → Prop} {Q : qR} (X : q_X p R s m args meth c cX6_tellDoor 2 nW 0 0 RX6 none dC dI k g A) (hJ : ∀ d : Nat, q_Sd p l e R s m args below meth c 2 nW dC dI k g A (MQ below (q_post (dC, dI) k g nW Q A) args s 0 0 A) d (x_cut (is_F6_tellDoor d) (J d))) : q_Sd p l e R s m args below meth c 2 nW dC dI k g A (MQ below (q_post (dC, dI) k g nW Q A) args s 0 0 A) 41 (b_F6_tellDoor_41 J Q) := by
  unfold b_F6_tellDoor_41
  exact s_vret X dF6_tellDoor_41
set_option maxRecDepth 100000 in
def b_F6_tellDoor_0 (J : Nat → List qV → List qV → qW → Prop) (Q : qR) : qK := x_aload 0 (x_get 6 0 (x_get 0 10 (x_int 6 (x_icmp_ge (b_F6_tellDoor_41 J Q) (x_aload 0 (x_get 6 0 (x_get 0 4 (x_aload 0 (x_get 6 0 (x_get 0 10 (x_iload 1 (x_iast (x_nw (x_aload 0 (x_get 6 0 (x_dup (x_get 0 10 (x_int 1 (x_iadd (x_put 0 10 q_oki (x_nw (b_F6_tellDoor_41 J Q))))))))))))))))))))))
set_option maxRecDepth 100000 in
theorem s_F6_tellDoor_0 {p : Program} {l : Launch} {e : Env} {R : Room} {s : State} {m : MethodId} {args : Array Value} {below : List Frame} {meth : Method} {c : Code} {nW : Nat} {dC : Nat → ClassId} {dI : Nat → Nat → Nat} {k : Nat → ClassId} {g : Nat → Nat} {A : Nat → Prop} {J : Nat → List qV → List qV → qW → Prop} {Q : qR} (X : q_X p R s m args meth c cX6_tellDoor 2 nW 0 0 RX6 none dC dI k g A) (hJ : ∀ d : Nat, q_Sd p l e R s m args below meth c 2 nW dC dI k g A (MQ below (q_post (dC, dI) k g nW Q A) args s 0 0 A) d (x_cut (is_F6_tellDoor d) (J d))) : q_Sd p l e R s m args below meth c 2 nW dC dI k g A (MQ below (q_post (dC, dI) k g nW Q A) args s 0 0 A) 0 (b_F6_tellDoor_0 J Q) := by
  unfold b_F6_tellDoor_0
  refine s_aload_n X rfl dF6_tellDoor_0 ?_
  refine s_get X (T := TX6) (C := RX6) (N := 15) tu_X6 rfl (by decide) tw_267 dF6_tellDoor_1 ?_
  refine s_get X (T := TX0) (C := RX0) (N := 12) tu_X0 rfl (by decide) tw_204 dF6_tellDoor_4 ?_
  refine s_bipush X ⟨by decide, by decide⟩ (by decide) dF6_tellDoor_7 ?_
  refine s_icmp_ge X (tgt := 41) dF6_tellDoor_9 (by decide) ?_ ?_
  · exact s_F6_tellDoor_41 X hJ
  · refine s_aload_n X rfl dF6_tellDoor_12 ?_
    refine s_get X (T := TX6) (C := RX6) (N := 15) tu_X6 rfl (by decide) tw_267 dF6_tellDoor_13 ?_
    refine s_get X (T := TX0) (C := RX0) (N := 12) tu_X0 rfl (by decide) tw_183 dF6_tellDoor_16 ?_
    refine s_aload_n X rfl dF6_tellDoor_19 ?_
    refine s_get X (T := TX6) (C := RX6) (N := 15) tu_X6 rfl (by decide) tw_267 dF6_tellDoor_20 ?_
    refine s_get X (T := TX0) (C := RX0) (N := 12) tu_X0 rfl (by decide) tw_204 dF6_tellDoor_23 ?_
    refine s_iload_n X rfl dF6_tellDoor_26 ?_
    refine s_iast X dF6_tellDoor_27 ?_
    refine s_nw ?_
    refine s_aload_n X rfl dF6_tellDoor_28 ?_
    refine s_get X (T := TX6) (C := RX6) (N := 15) tu_X6 rfl (by decide) tw_267 dF6_tellDoor_29 ?_
    refine s_dup X dF6_tellDoor_32 ?_
    refine s_get X (T := TX0) (C := RX0) (N := 12) tu_X0 rfl (by decide) tw_204 dF6_tellDoor_33 ?_
    refine s_iconst X ⟨by decide, by decide⟩ dF6_tellDoor_36 ?_
    refine s_iadd X dF6_tellDoor_37 ?_
    refine s_put X (T := TX0) (C := RX0) (N := 12) tu_X0 tyX0_ok nmX0 rfl (by decide) tw_204 rfl (by decide +kernel) q_oki_t dF6_tellDoor_38 ?_
    refine s_nw ?_
    exact s_F6_tellDoor_41 X hJ

def sp_F6_tellDoor : qS := fun av w Q => ∃ (rln : Int) (rfa : Int) (rpl : Int) (rst : Int) (rnx : Int) (rtk : Int) (rnm : Int) (rnp : Int) (rnd : Int) (rbf1 : Nat → Int) (rbf2 : Nat → Int) (rbf3 : Nat → Int) (rbf4 : Nat → Int) (rbf5 : Nat → Int) (rbf6 : Nat → Int) (rbf7 : Nat → Int) (rbu0 : Int) (rbu1 : Int) (rbu2 : Int) (rbu3 : Int) (rbu4 : Int) (gD : Nat → Int) (gv1 : Int) (gv2 : Int) (a : Int), av = [q2 0, q1 a] ∧ w = [.inr (6, [q2 1, q2 9, q2 10, q2 11, q2 12, q2 13, q1 rln, q1 rfa, q1 rpl, q1 rst, q1 rnx, q1 rtk, q1 rnm, q1 rnp, q1 rnd]), .inr (0, [q2 2, q2 3, q2 4, q2 5, q2 6, q2 7, q2 8, q1 rbu0, q1 rbu1, q1 rbu2, q1 rbu3, q1 rbu4]), .inl (0, 8, .inl rbf1), .inl (0, 8, .inl rbf2), .inl (0, 4, .inl rbf3), .inl (0, 32, .inl rbf4), .inl (0, 6, .inl rbf5), .inl (0, 6, .inl rbf6), .inl (0, 6, .inl rbf7)] ∧ (CB rbf1 rbf2 rbf3 rbf4 rbf5 rbf6 rbf7 rbu0 rbu1 rbu2 rbu3 rbu4 gD) ∧ (0 ≤ rbu3 ∧ rbu3 < 6) ∧ (∀ (x_rbf5 : Nat → Int) (x_rbu3 : Int), (CB rbf1 rbf2 rbf3 rbf4 x_rbf5 rbf6 rbf7 rbu0 rbu1 rbu2 x_rbu3 rbu4 (tel 3 a gv1 gv2 gD) ∧ (0 ≤ x_rbu3 ∧ x_rbu3 ≤ 6)) → Q none ([.inr (6, [q2 1, q2 9, q2 10, q2 11, q2 12, q2 13, q1 rln, q1 rfa, q1 rpl, q1 rst, q1 rnx, q1 rtk, q1 rnm, q1 rnp, q1 rnd]), .inr (0, [q2 2, q2 3, q2 4, q2 5, q2 6, q2 7, q2 8, q1 rbu0, q1 rbu1, q1 rbu2, q1 x_rbu3, q1 rbu4]), .inl (0, 8, .inl rbf1), .inl (0, 8, .inl rbf2), .inl (0, 4, .inl rbf3), .inl (0, 32, .inl rbf4), .inl (0, 6, .inl x_rbf5), .inl (0, 6, .inl rbf6), .inl (0, 6, .inl rbf7)]))
set_option maxHeartbeats 4000000 in
set_option maxRecDepth 100000 in
theorem m_F6_tellDoor (l : Launch) : q_M l yX6_tellDoor cX6_tellDoor 2 none 0 0 sp_F6_tellDoor := by
  refine q_meth (by decide) (fun av w Q h => by obtain ⟨rln, rfa, rpl, rst, rnx, rtk, rnm, rnp, rnd, rbf1, rbf2, rbf3, rbf4, rbf5, rbf6, rbf7, rbu0, rbu1, rbu2, rbu3, rbu4, gD, gv1, gv2, a, rfl, rfl, hC, hu, hQ⟩ := h; exact Nat.le_of_ble_eq_true rfl) ?_
  intro p e R s m args below meth c dC dI k g A av w Q hsp oka okw X
  obtain ⟨rln, rfa, rpl, rst, rnx, rtk, rnm, rnp, rnd, rbf1, rbf2, rbf3, rbf4, rbf5, rbf6, rbf7, rbu0, rbu1, rbu2, rbu3, rbu4, gD, gv1, gv2, a, rfl, rfl, hC, hu, hQ⟩ := hsp
  have o_a : -2147483648 ≤ a ∧ a ≤ 2147483647 := oka _ (List.mem_of_getElem? (i := 1) rfl)
  refine s_mono (s_F6_tellDoor_0 X (J := fun _ _ _ _ => False) (fun d => s_cutF)) ?_
  rintro lv st w' ⟨rfl, rfl, rfl⟩
  apply And.intro
  · intro hq_9
    exact hQ _ _ (by first | exact ⟨CB_w3 hC hu, by omega, by omega⟩ | (exfalso; omega))
  · intro hq_9
    apply And.intro
    · exact ⟨by omega, by omega⟩
    intro zq_37 hq_37
    replace hq_37 := e_add hq_37 (by omega)
    subst hq_37
    apply And.intro
    · exact trivial
    exact hQ _ _ (by first | exact ⟨CB_w3 hC hu, by omega, by omega⟩ | (exfalso; omega))

theorem dF6_tellWork_0 : decode cX6_tellWork 0 = .ok (.aload_n 0, 1) := by decide +kernel
theorem dF6_tellWork_1 : decode cX6_tellWork 1 = .ok (.getfield 12, 3) := by decide +kernel
theorem dF6_tellWork_4 : decode cX6_tellWork 4 = .ok (.getfield 219, 3) := by decide +kernel
theorem dF6_tellWork_7 : decode cX6_tellWork 7 = .ok (.bipush 6, 2) := by decide +kernel
theorem dF6_tellWork_9 : decode cX6_tellWork 9 = .ok (.if_icmp .ge 32, 3) := by decide +kernel
theorem dF6_tellWork_12 : decode cX6_tellWork 12 = .ok (.aload_n 0, 1) := by decide +kernel
theorem dF6_tellWork_13 : decode cX6_tellWork 13 = .ok (.getfield 12, 3) := by decide +kernel
theorem dF6_tellWork_16 : decode cX6_tellWork 16 = .ok (.getfield 270, 3) := by decide +kernel
theorem dF6_tellWork_19 : decode cX6_tellWork 19 = .ok (.aload_n 0, 1) := by decide +kernel
theorem dF6_tellWork_20 : decode cX6_tellWork 20 = .ok (.getfield 12, 3) := by decide +kernel
theorem dF6_tellWork_23 : decode cX6_tellWork 23 = .ok (.getfield 219, 3) := by decide +kernel
theorem dF6_tellWork_26 : decode cX6_tellWork 26 = .ok (.iload_n 1, 1) := by decide +kernel
theorem dF6_tellWork_27 : decode cX6_tellWork 27 = .ok (.iastore, 1) := by decide +kernel
theorem dF6_tellWork_28 : decode cX6_tellWork 28 = .ok (.aload_n 0, 1) := by decide +kernel
theorem dF6_tellWork_29 : decode cX6_tellWork 29 = .ok (.getfield 12, 3) := by decide +kernel
theorem dF6_tellWork_32 : decode cX6_tellWork 32 = .ok (.dup, 1) := by decide +kernel
theorem dF6_tellWork_33 : decode cX6_tellWork 33 = .ok (.getfield 219, 3) := by decide +kernel
theorem dF6_tellWork_36 : decode cX6_tellWork 36 = .ok (.iconst 1, 1) := by decide +kernel
theorem dF6_tellWork_37 : decode cX6_tellWork 37 = .ok (.iadd, 1) := by decide +kernel
theorem dF6_tellWork_38 : decode cX6_tellWork 38 = .ok (.putfield 219, 3) := by decide +kernel
theorem dF6_tellWork_41 : decode cX6_tellWork 41 = .ok (.return_, 1) := by decide +kernel
def is_F6_tellWork : Nat → List Nat := fun d => []
set_option maxRecDepth 100000 in
def b_F6_tellWork_41 (J : Nat → List qV → List qV → qW → Prop) (Q : qR) : qK := x_vret Q
set_option maxRecDepth 100000 in
theorem s_F6_tellWork_41 {p : Program} {l : Launch} {e : Env} {R : Room} {s : State} {m : MethodId} {args : Array Value} {below : List Frame} {meth : Method} {c : Code} {nW : Nat} {dC : Nat → ClassId} {dI : Nat → Nat → Nat} {k : Nat → ClassId} {g : Nat → Nat} {A : Nat → Prop} {J : Nat → List qV → List qV → qW → Prop} {Q : qR} (X : q_X p R s m args meth c cX6_tellWork 2 nW 0 0 RX6 none dC dI k g A) (hJ : ∀ d : Nat, q_Sd p l e R s m args below meth c 2 nW dC dI k g A (MQ below (q_post (dC, dI) k g nW Q A) args s 0 0 A) d (x_cut (is_F6_tellWork d) (J d))) : q_Sd p l e R s m args below meth c 2 nW dC dI k g A (MQ below (q_post (dC, dI) k g nW Q A) args s 0 0 A) 41 (b_F6_tellWork_41 J Q) := by
  unfold b_F6_tellWork_41
  exact s_vret X dF6_tellWork_41
set_option maxRecDepth 100000 in
def b_F6_tellWork_0 (J : Nat → List qV → List qV → qW → Prop) (Q : qR) : qK := x_aload 0 (x_get 6 0 (x_get 0 11 (x_int 6 (x_icmp_ge (b_F6_tellWork_41 J Q) (x_aload 0 (x_get 6 0 (x_get 0 6 (x_aload 0 (x_get 6 0 (x_get 0 11 (x_iload 1 (x_iast (x_nw (x_aload 0 (x_get 6 0 (x_dup (x_get 0 11 (x_int 1 (x_iadd (x_put 0 11 q_oki (x_nw (b_F6_tellWork_41 J Q))))))))))))))))))))))
set_option maxRecDepth 100000 in
theorem s_F6_tellWork_0 {p : Program} {l : Launch} {e : Env} {R : Room} {s : State} {m : MethodId} {args : Array Value} {below : List Frame} {meth : Method} {c : Code} {nW : Nat} {dC : Nat → ClassId} {dI : Nat → Nat → Nat} {k : Nat → ClassId} {g : Nat → Nat} {A : Nat → Prop} {J : Nat → List qV → List qV → qW → Prop} {Q : qR} (X : q_X p R s m args meth c cX6_tellWork 2 nW 0 0 RX6 none dC dI k g A) (hJ : ∀ d : Nat, q_Sd p l e R s m args below meth c 2 nW dC dI k g A (MQ below (q_post (dC, dI) k g nW Q A) args s 0 0 A) d (x_cut (is_F6_tellWork d) (J d))) : q_Sd p l e R s m args below meth c 2 nW dC dI k g A (MQ below (q_post (dC, dI) k g nW Q A) args s 0 0 A) 0 (b_F6_tellWork_0 J Q) := by
  unfold b_F6_tellWork_0
  refine s_aload_n X rfl dF6_tellWork_0 ?_
  refine s_get X (T := TX6) (C := RX6) (N := 15) tu_X6 rfl (by decide) tw_267 dF6_tellWork_1 ?_
  refine s_get X (T := TX0) (C := RX0) (N := 12) tu_X0 rfl (by decide) tw_209 dF6_tellWork_4 ?_
  refine s_bipush X ⟨by decide, by decide⟩ (by decide) dF6_tellWork_7 ?_
  refine s_icmp_ge X (tgt := 41) dF6_tellWork_9 (by decide) ?_ ?_
  · exact s_F6_tellWork_41 X hJ
  · refine s_aload_n X rfl dF6_tellWork_12 ?_
    refine s_get X (T := TX6) (C := RX6) (N := 15) tu_X6 rfl (by decide) tw_267 dF6_tellWork_13 ?_
    refine s_get X (T := TX0) (C := RX0) (N := 12) tu_X0 rfl (by decide) tw_189 dF6_tellWork_16 ?_
    refine s_aload_n X rfl dF6_tellWork_19 ?_
    refine s_get X (T := TX6) (C := RX6) (N := 15) tu_X6 rfl (by decide) tw_267 dF6_tellWork_20 ?_
    refine s_get X (T := TX0) (C := RX0) (N := 12) tu_X0 rfl (by decide) tw_209 dF6_tellWork_23 ?_
    refine s_iload_n X rfl dF6_tellWork_26 ?_
    refine s_iast X dF6_tellWork_27 ?_
    refine s_nw ?_
    refine s_aload_n X rfl dF6_tellWork_28 ?_
    refine s_get X (T := TX6) (C := RX6) (N := 15) tu_X6 rfl (by decide) tw_267 dF6_tellWork_29 ?_
    refine s_dup X dF6_tellWork_32 ?_
    refine s_get X (T := TX0) (C := RX0) (N := 12) tu_X0 rfl (by decide) tw_209 dF6_tellWork_33 ?_
    refine s_iconst X ⟨by decide, by decide⟩ dF6_tellWork_36 ?_
    refine s_iadd X dF6_tellWork_37 ?_
    refine s_put X (T := TX0) (C := RX0) (N := 12) tu_X0 tyX0_ok nmX0 rfl (by decide) tw_209 rfl (by decide +kernel) q_oki_t dF6_tellWork_38 ?_
    refine s_nw ?_
    exact s_F6_tellWork_41 X hJ

def sp_F6_tellWork : qS := fun av w Q => ∃ (rln : Int) (rfa : Int) (rpl : Int) (rst : Int) (rnx : Int) (rtk : Int) (rnm : Int) (rnp : Int) (rnd : Int) (rbf1 : Nat → Int) (rbf2 : Nat → Int) (rbf3 : Nat → Int) (rbf4 : Nat → Int) (rbf5 : Nat → Int) (rbf6 : Nat → Int) (rbf7 : Nat → Int) (rbu0 : Int) (rbu1 : Int) (rbu2 : Int) (rbu3 : Int) (rbu4 : Int) (gD : Nat → Int) (gv1 : Int) (gv2 : Int) (a : Int), av = [q2 0, q1 a] ∧ w = [.inr (6, [q2 1, q2 9, q2 10, q2 11, q2 12, q2 13, q1 rln, q1 rfa, q1 rpl, q1 rst, q1 rnx, q1 rtk, q1 rnm, q1 rnp, q1 rnd]), .inr (0, [q2 2, q2 3, q2 4, q2 5, q2 6, q2 7, q2 8, q1 rbu0, q1 rbu1, q1 rbu2, q1 rbu3, q1 rbu4]), .inl (0, 8, .inl rbf1), .inl (0, 8, .inl rbf2), .inl (0, 4, .inl rbf3), .inl (0, 32, .inl rbf4), .inl (0, 6, .inl rbf5), .inl (0, 6, .inl rbf6), .inl (0, 6, .inl rbf7)] ∧ (CB rbf1 rbf2 rbf3 rbf4 rbf5 rbf6 rbf7 rbu0 rbu1 rbu2 rbu3 rbu4 gD) ∧ (0 ≤ rbu4 ∧ rbu4 < 6) ∧ (∀ (x_rbf7 : Nat → Int) (x_rbu4 : Int), (CB rbf1 rbf2 rbf3 rbf4 rbf5 rbf6 x_rbf7 rbu0 rbu1 rbu2 rbu3 x_rbu4 (tel 4 a gv1 gv2 gD) ∧ (0 ≤ x_rbu4 ∧ x_rbu4 ≤ 6)) → Q none ([.inr (6, [q2 1, q2 9, q2 10, q2 11, q2 12, q2 13, q1 rln, q1 rfa, q1 rpl, q1 rst, q1 rnx, q1 rtk, q1 rnm, q1 rnp, q1 rnd]), .inr (0, [q2 2, q2 3, q2 4, q2 5, q2 6, q2 7, q2 8, q1 rbu0, q1 rbu1, q1 rbu2, q1 rbu3, q1 x_rbu4]), .inl (0, 8, .inl rbf1), .inl (0, 8, .inl rbf2), .inl (0, 4, .inl rbf3), .inl (0, 32, .inl rbf4), .inl (0, 6, .inl rbf5), .inl (0, 6, .inl rbf6), .inl (0, 6, .inl x_rbf7)]))
set_option maxHeartbeats 4000000 in
set_option maxRecDepth 100000 in
theorem m_F6_tellWork (l : Launch) : q_M l yX6_tellWork cX6_tellWork 2 none 0 0 sp_F6_tellWork := by
  refine q_meth (by decide) (fun av w Q h => by obtain ⟨rln, rfa, rpl, rst, rnx, rtk, rnm, rnp, rnd, rbf1, rbf2, rbf3, rbf4, rbf5, rbf6, rbf7, rbu0, rbu1, rbu2, rbu3, rbu4, gD, gv1, gv2, a, rfl, rfl, hC, hu, hQ⟩ := h; exact Nat.le_of_ble_eq_true rfl) ?_
  intro p e R s m args below meth c dC dI k g A av w Q hsp oka okw X
  obtain ⟨rln, rfa, rpl, rst, rnx, rtk, rnm, rnp, rnd, rbf1, rbf2, rbf3, rbf4, rbf5, rbf6, rbf7, rbu0, rbu1, rbu2, rbu3, rbu4, gD, gv1, gv2, a, rfl, rfl, hC, hu, hQ⟩ := hsp
  have o_a : -2147483648 ≤ a ∧ a ≤ 2147483647 := oka _ (List.mem_of_getElem? (i := 1) rfl)
  refine s_mono (s_F6_tellWork_0 X (J := fun _ _ _ _ => False) (fun d => s_cutF)) ?_
  rintro lv st w' ⟨rfl, rfl, rfl⟩
  apply And.intro
  · intro hq_9
    exact hQ _ _ (by first | exact ⟨CB_w4 hC hu, by omega, by omega⟩ | (exfalso; omega))
  · intro hq_9
    apply And.intro
    · exact ⟨by omega, by omega⟩
    intro zq_37 hq_37
    replace hq_37 := e_add hq_37 (by omega)
    subst hq_37
    apply And.intro
    · exact trivial
    exact hQ _ _ (by first | exact ⟨CB_w4 hC hu, by omega, by omega⟩ | (exfalso; omega))

theorem dF6_tellChild_0 : decode cX6_tellChild 0 = .ok (.iload_n 1, 1) := by decide +kernel
theorem dF6_tellChild_1 : decode cX6_tellChild 1 = .ok (.ifCond .lt 35, 3) := by decide +kernel
theorem dF6_tellChild_4 : decode cX6_tellChild 4 = .ok (.iload_n 1, 1) := by decide +kernel
theorem dF6_tellChild_5 : decode cX6_tellChild 5 = .ok (.bipush 8, 2) := by decide +kernel
theorem dF6_tellChild_7 : decode cX6_tellChild 7 = .ok (.if_icmp .ge 29, 3) := by decide +kernel
theorem dF6_tellChild_10 : decode cX6_tellChild 10 = .ok (.aload_n 0, 1) := by decide +kernel
theorem dF6_tellChild_11 : decode cX6_tellChild 11 = .ok (.getfield 12, 3) := by decide +kernel
theorem dF6_tellChild_14 : decode cX6_tellChild 14 = .ok (.getfield 273, 3) := by decide +kernel
theorem dF6_tellChild_17 : decode cX6_tellChild 17 = .ok (.iload_n 1, 1) := by decide +kernel
theorem dF6_tellChild_18 : decode cX6_tellChild 18 = .ok (.iload_n 2, 1) := by decide +kernel
theorem dF6_tellChild_19 : decode cX6_tellChild 19 = .ok (.iastore, 1) := by decide +kernel
theorem dF6_tellChild_20 : decode cX6_tellChild 20 = .ok (.aload_n 0, 1) := by decide +kernel
theorem dF6_tellChild_21 : decode cX6_tellChild 21 = .ok (.dup, 1) := by decide +kernel
theorem dF6_tellChild_22 : decode cX6_tellChild 22 = .ok (.getfield 97, 3) := by decide +kernel
theorem dF6_tellChild_25 : decode cX6_tellChild 25 = .ok (.iconst 1, 1) := by decide +kernel
theorem dF6_tellChild_26 : decode cX6_tellChild 26 = .ok (.iload_n 1, 1) := by decide +kernel
theorem dF6_tellChild_27 : decode cX6_tellChild 27 = .ok (.ishl, 1) := by decide +kernel
theorem dF6_tellChild_28 : decode cX6_tellChild 28 = .ok (.iconst 1, 1) := by decide +kernel
theorem dF6_tellChild_29 : decode cX6_tellChild 29 = .ok (.iload_n 2, 1) := by decide +kernel
theorem dF6_tellChild_30 : decode cX6_tellChild 30 = .ok (.ishl, 1) := by decide +kernel
theorem dF6_tellChild_31 : decode cX6_tellChild 31 = .ok (.ior, 1) := by decide +kernel
theorem dF6_tellChild_32 : decode cX6_tellChild 32 = .ok (.ior, 1) := by decide +kernel
theorem dF6_tellChild_33 : decode cX6_tellChild 33 = .ok (.putfield 97, 3) := by decide +kernel
theorem dF6_tellChild_36 : decode cX6_tellChild 36 = .ok (.return_, 1) := by decide +kernel
def is_F6_tellChild : Nat → List Nat := fun d => []
set_option maxRecDepth 100000 in
def b_F6_tellChild_36 (J : Nat → List qV → List qV → qW → Prop) (Q : qR) : qK := x_vret Q
set_option maxRecDepth 100000 in
theorem s_F6_tellChild_36 {p : Program} {l : Launch} {e : Env} {R : Room} {s : State} {m : MethodId} {args : Array Value} {below : List Frame} {meth : Method} {c : Code} {nW : Nat} {dC : Nat → ClassId} {dI : Nat → Nat → Nat} {k : Nat → ClassId} {g : Nat → Nat} {A : Nat → Prop} {J : Nat → List qV → List qV → qW → Prop} {Q : qR} (X : q_X p R s m args meth c cX6_tellChild 3 nW 0 0 RX6 none dC dI k g A) (hJ : ∀ d : Nat, q_Sd p l e R s m args below meth c 3 nW dC dI k g A (MQ below (q_post (dC, dI) k g nW Q A) args s 0 0 A) d (x_cut (is_F6_tellChild d) (J d))) : q_Sd p l e R s m args below meth c 3 nW dC dI k g A (MQ below (q_post (dC, dI) k g nW Q A) args s 0 0 A) 36 (b_F6_tellChild_36 J Q) := by
  unfold b_F6_tellChild_36
  exact s_vret X dF6_tellChild_36
set_option maxRecDepth 100000 in
def b_F6_tellChild_0 (J : Nat → List qV → List qV → qW → Prop) (Q : qR) : qK := x_iload 1 (x_if_lt (b_F6_tellChild_36 J Q) (x_iload 1 (x_int 8 (x_icmp_ge (b_F6_tellChild_36 J Q) (x_aload 0 (x_get 6 0 (x_get 0 1 (x_iload 1 (x_iload 2 (x_iast (x_nw (x_aload 0 (x_dup (x_get 6 13 (x_int 1 (x_iload 1 (x_ishl (x_int 1 (x_iload 2 (x_ishl (x_ior (x_ior (x_put 6 13 q_oki (x_nw (b_F6_tellChild_36 J Q)))))))))))))))))))))))))
set_option maxRecDepth 100000 in
theorem s_F6_tellChild_0 {p : Program} {l : Launch} {e : Env} {R : Room} {s : State} {m : MethodId} {args : Array Value} {below : List Frame} {meth : Method} {c : Code} {nW : Nat} {dC : Nat → ClassId} {dI : Nat → Nat → Nat} {k : Nat → ClassId} {g : Nat → Nat} {A : Nat → Prop} {J : Nat → List qV → List qV → qW → Prop} {Q : qR} (X : q_X p R s m args meth c cX6_tellChild 3 nW 0 0 RX6 none dC dI k g A) (hJ : ∀ d : Nat, q_Sd p l e R s m args below meth c 3 nW dC dI k g A (MQ below (q_post (dC, dI) k g nW Q A) args s 0 0 A) d (x_cut (is_F6_tellChild d) (J d))) : q_Sd p l e R s m args below meth c 3 nW dC dI k g A (MQ below (q_post (dC, dI) k g nW Q A) args s 0 0 A) 0 (b_F6_tellChild_0 J Q) := by
  unfold b_F6_tellChild_0
  refine s_iload_n X rfl dF6_tellChild_0 ?_
  refine s_if_lt X (tgt := 36) dF6_tellChild_1 (by decide) ?_ ?_
  · exact s_F6_tellChild_36 X hJ
  · refine s_iload_n X rfl dF6_tellChild_4 ?_
    refine s_bipush X ⟨by decide, by decide⟩ (by decide) dF6_tellChild_5 ?_
    refine s_icmp_ge X (tgt := 36) dF6_tellChild_7 (by decide) ?_ ?_
    · exact s_F6_tellChild_36 X hJ
    · refine s_aload_n X rfl dF6_tellChild_10 ?_
      refine s_get X (T := TX6) (C := RX6) (N := 15) tu_X6 rfl (by decide) tw_267 dF6_tellChild_11 ?_
      refine s_get X (T := TX0) (C := RX0) (N := 12) tu_X0 rfl (by decide) tw_174 dF6_tellChild_14 ?_
      refine s_iload_n X rfl dF6_tellChild_17 ?_
      refine s_iload_n X rfl dF6_tellChild_18 ?_
      refine s_iast X dF6_tellChild_19 ?_
      refine s_nw ?_
      refine s_aload_n X rfl dF6_tellChild_20 ?_
      refine s_dup X dF6_tellChild_21 ?_
      refine s_get X (T := TX6) (C := RX6) (N := 15) tu_X6 rfl (by decide) tw_286 dF6_tellChild_22 ?_
      refine s_iconst X ⟨by decide, by decide⟩ dF6_tellChild_25 ?_
      refine s_iload_n X rfl dF6_tellChild_26 ?_
      refine s_ishl X dF6_tellChild_27 ?_
      refine s_iconst X ⟨by decide, by decide⟩ dF6_tellChild_28 ?_
      refine s_iload_n X rfl dF6_tellChild_29 ?_
      refine s_ishl X dF6_tellChild_30 ?_
      refine s_ior X dF6_tellChild_31 ?_
      refine s_ior X dF6_tellChild_32 ?_
      refine s_put X (T := TX6) (C := RX6) (N := 15) tu_X6 tyX6_ok nmX6 rfl (by decide) tw_286 rfl (by decide +kernel) q_oki_t dF6_tellChild_33 ?_
      refine s_nw ?_
      exact s_F6_tellChild_36 X hJ

def sp_F6_tellChild : qS := fun av w Q => ∃ (rln : Int) (rfa : Int) (rpl : Int) (rst : Int) (rnx : Int) (rtk : Int) (rnm : Int) (rnp : Int) (rnd : Int) (rbf1 : Nat → Int) (rbf2 : Nat → Int) (rbf3 : Nat → Int) (rbf4 : Nat → Int) (rbf5 : Nat → Int) (rbf6 : Nat → Int) (rbf7 : Nat → Int) (rbu0 : Int) (rbu1 : Int) (rbu2 : Int) (rbu3 : Int) (rbu4 : Int) (gD : Nat → Int) (gf : Int) (gv2 : Int) (a : Int) (b : Int), av = [q2 0, q1 a, q1 b] ∧ w = [.inr (6, [q2 1, q2 9, q2 10, q2 11, q2 12, q2 13, q1 rln, q1 rfa, q1 rpl, q1 rst, q1 rnx, q1 rtk, q1 rnm, q1 rnp, q1 rnd]), .inr (0, [q2 2, q2 3, q2 4, q2 5, q2 6, q2 7, q2 8, q1 rbu0, q1 rbu1, q1 rbu2, q1 rbu3, q1 rbu4]), .inl (0, 8, .inl rbf1), .inl (0, 8, .inl rbf2), .inl (0, 4, .inl rbf3), .inl (0, 32, .inl rbf4), .inl (0, 6, .inl rbf5), .inl (0, 6, .inl rbf6), .inl (0, 6, .inl rbf7)] ∧ (CB rbf1 rbf2 rbf3 rbf4 rbf5 rbf6 rbf7 rbu0 rbu1 rbu2 rbu3 rbu4 gD) ∧ (NPR rnp gf) ∧ (0 ≤ a ∧ a ≤ 7) ∧ (0 ≤ b ∧ b ≤ 7) ∧ (∀ (x_rbf2 : Nat → Int) (x_rnp : Int), (CB rbf1 x_rbf2 rbf3 rbf4 rbf5 rbf6 rbf7 rbu0 rbu1 rbu2 rbu3 rbu4 (tel 5 a b gv2 gD) ∧ NPR x_rnp (fpN 5 a b gf)) → Q none ([.inr (6, [q2 1, q2 9, q2 10, q2 11, q2 12, q2 13, q1 rln, q1 rfa, q1 rpl, q1 rst, q1 rnx, q1 rtk, q1 rnm, q1 x_rnp, q1 rnd]), .inr (0, [q2 2, q2 3, q2 4, q2 5, q2 6, q2 7, q2 8, q1 rbu0, q1 rbu1, q1 rbu2, q1 rbu3, q1 rbu4]), .inl (0, 8, .inl rbf1), .inl (0, 8, .inl x_rbf2), .inl (0, 4, .inl rbf3), .inl (0, 32, .inl rbf4), .inl (0, 6, .inl rbf5), .inl (0, 6, .inl rbf6), .inl (0, 6, .inl rbf7)]))
set_option maxHeartbeats 4000000 in
set_option maxRecDepth 100000 in
theorem m_F6_tellChild (l : Launch) : q_M l yX6_tellChild cX6_tellChild 3 none 0 0 sp_F6_tellChild := by
  refine q_meth (by decide) (fun av w Q h => by obtain ⟨rln, rfa, rpl, rst, rnx, rtk, rnm, rnp, rnd, rbf1, rbf2, rbf3, rbf4, rbf5, rbf6, rbf7, rbu0, rbu1, rbu2, rbu3, rbu4, gD, gf, gv2, a, b, rfl, rfl, hC, hN, ha, hb, hQ⟩ := h; exact Nat.le_of_ble_eq_true rfl) ?_
  intro p e R s m args below meth c dC dI k g A av w Q hsp oka okw X
  obtain ⟨rln, rfa, rpl, rst, rnx, rtk, rnm, rnp, rnd, rbf1, rbf2, rbf3, rbf4, rbf5, rbf6, rbf7, rbu0, rbu1, rbu2, rbu3, rbu4, gD, gf, gv2, a, b, rfl, rfl, hC, hN, ha, hb, hQ⟩ := hsp
  have o_a : -2147483648 ≤ a ∧ a ≤ 2147483647 := oka _ (List.mem_of_getElem? (i := 1) rfl)
  have o_b : -2147483648 ≤ b ∧ b ≤ 2147483647 := oka _ (List.mem_of_getElem? (i := 2) rfl)
  refine s_mono (s_F6_tellChild_0 X (J := fun _ _ _ _ => False) (fun d => s_cutF)) ?_
  rintro lv st w' ⟨rfl, rfl, rfl⟩
  apply And.intro
  · intro hq_1
    exact hQ _ _ (by first | exact ⟨CB_w5 hC ha, (by rw [e_orI2 hq_27 hq_30 hq_31 hq_32, fpN_5]; exact NPR_or (NPR_or hN ha) hb)⟩ | (exfalso; omega))
  · intro hq_1
    apply And.intro
    · intro hq_7
      exact hQ _ _ (by first | exact ⟨CB_w5 hC ha, (by rw [e_orI2 hq_27 hq_30 hq_31 hq_32, fpN_5]; exact NPR_or (NPR_or hN ha) hb)⟩ | (exfalso; omega))
    · intro hq_7
      apply And.intro
      · exact ⟨by omega, by omega⟩
      intro zq_27 hq_27
      skip
      intro zq_30 hq_30
      skip
      intro zq_31 hq_31
      skip
      intro zq_32 hq_32
      skip
      apply And.intro
      · exact trivial
      exact hQ _ _ (by first | exact ⟨CB_w5 hC ha, (by rw [e_orI2 hq_27 hq_30 hq_31 hq_32, fpN_5]; exact NPR_or (NPR_or hN ha) hb)⟩ | (exfalso; omega))

theorem dF6_tellPass_0 : decode cX6_tellPass 0 = .ok (.iload_n 2, 1) := by decide +kernel
theorem dF6_tellPass_1 : decode cX6_tellPass 1 = .ok (.ifCond .lt 48, 3) := by decide +kernel
theorem dF6_tellPass_4 : decode cX6_tellPass 4 = .ok (.iload_n 2, 1) := by decide +kernel
theorem dF6_tellPass_5 : decode cX6_tellPass 5 = .ok (.bipush 6, 2) := by decide +kernel
theorem dF6_tellPass_7 : decode cX6_tellPass 7 = .ok (.if_icmp .ge 42, 3) := by decide +kernel
theorem dF6_tellPass_10 : decode cX6_tellPass 10 = .ok (.aload_n 0, 1) := by decide +kernel
theorem dF6_tellPass_11 : decode cX6_tellPass 11 = .ok (.getfield 12, 3) := by decide +kernel
theorem dF6_tellPass_14 : decode cX6_tellPass 14 = .ok (.getfield 276, 3) := by decide +kernel
theorem dF6_tellPass_17 : decode cX6_tellPass 17 = .ok (.iload_n 2, 1) := by decide +kernel
theorem dF6_tellPass_18 : decode cX6_tellPass 18 = .ok (.dup2, 1) := by decide +kernel
theorem dF6_tellPass_19 : decode cX6_tellPass 19 = .ok (.iaload, 1) := by decide +kernel
theorem dF6_tellPass_20 : decode cX6_tellPass 20 = .ok (.iconst 1, 1) := by decide +kernel
theorem dF6_tellPass_21 : decode cX6_tellPass 21 = .ok (.iload_n 1, 1) := by decide +kernel
theorem dF6_tellPass_22 : decode cX6_tellPass 22 = .ok (.ishl, 1) := by decide +kernel
theorem dF6_tellPass_23 : decode cX6_tellPass 23 = .ok (.ior, 1) := by decide +kernel
theorem dF6_tellPass_24 : decode cX6_tellPass 24 = .ok (.iastore, 1) := by decide +kernel
theorem dF6_tellPass_25 : decode cX6_tellPass 25 = .ok (.aload_n 0, 1) := by decide +kernel
theorem dF6_tellPass_26 : decode cX6_tellPass 26 = .ok (.dup, 1) := by decide +kernel
theorem dF6_tellPass_27 : decode cX6_tellPass 27 = .ok (.getfield 97, 3) := by decide +kernel
theorem dF6_tellPass_30 : decode cX6_tellPass 30 = .ok (.iconst 1, 1) := by decide +kernel
theorem dF6_tellPass_31 : decode cX6_tellPass 31 = .ok (.iload_n 1, 1) := by decide +kernel
theorem dF6_tellPass_32 : decode cX6_tellPass 32 = .ok (.ishl, 1) := by decide +kernel
theorem dF6_tellPass_33 : decode cX6_tellPass 33 = .ok (.ior, 1) := by decide +kernel
theorem dF6_tellPass_34 : decode cX6_tellPass 34 = .ok (.putfield 97, 3) := by decide +kernel
theorem dF6_tellPass_37 : decode cX6_tellPass 37 = .ok (.aload_n 0, 1) := by decide +kernel
theorem dF6_tellPass_38 : decode cX6_tellPass 38 = .ok (.dup, 1) := by decide +kernel
theorem dF6_tellPass_39 : decode cX6_tellPass 39 = .ok (.getfield 100, 3) := by decide +kernel
theorem dF6_tellPass_42 : decode cX6_tellPass 42 = .ok (.iconst 1, 1) := by decide +kernel
theorem dF6_tellPass_43 : decode cX6_tellPass 43 = .ok (.iload_n 2, 1) := by decide +kernel
theorem dF6_tellPass_44 : decode cX6_tellPass 44 = .ok (.ishl, 1) := by decide +kernel
theorem dF6_tellPass_45 : decode cX6_tellPass 45 = .ok (.ior, 1) := by decide +kernel
theorem dF6_tellPass_46 : decode cX6_tellPass 46 = .ok (.putfield 100, 3) := by decide +kernel
theorem dF6_tellPass_49 : decode cX6_tellPass 49 = .ok (.return_, 1) := by decide +kernel
def is_F6_tellPass : Nat → List Nat := fun d => []
set_option maxRecDepth 100000 in
def b_F6_tellPass_49 (J : Nat → List qV → List qV → qW → Prop) (Q : qR) : qK := x_vret Q
set_option maxRecDepth 100000 in
theorem s_F6_tellPass_49 {p : Program} {l : Launch} {e : Env} {R : Room} {s : State} {m : MethodId} {args : Array Value} {below : List Frame} {meth : Method} {c : Code} {nW : Nat} {dC : Nat → ClassId} {dI : Nat → Nat → Nat} {k : Nat → ClassId} {g : Nat → Nat} {A : Nat → Prop} {J : Nat → List qV → List qV → qW → Prop} {Q : qR} (X : q_X p R s m args meth c cX6_tellPass 3 nW 0 0 RX6 none dC dI k g A) (hJ : ∀ d : Nat, q_Sd p l e R s m args below meth c 3 nW dC dI k g A (MQ below (q_post (dC, dI) k g nW Q A) args s 0 0 A) d (x_cut (is_F6_tellPass d) (J d))) : q_Sd p l e R s m args below meth c 3 nW dC dI k g A (MQ below (q_post (dC, dI) k g nW Q A) args s 0 0 A) 49 (b_F6_tellPass_49 J Q) := by
  unfold b_F6_tellPass_49
  exact s_vret X dF6_tellPass_49
set_option maxRecDepth 100000 in
def b_F6_tellPass_37 (J : Nat → List qV → List qV → qW → Prop) (Q : qR) : qK := x_aload 0 (x_dup (x_get 6 14 (x_int 1 (x_iload 2 (x_ishl (x_ior (x_put 6 14 q_oki (x_nw (b_F6_tellPass_49 J Q)))))))))
set_option maxRecDepth 100000 in
theorem s_F6_tellPass_37 {p : Program} {l : Launch} {e : Env} {R : Room} {s : State} {m : MethodId} {args : Array Value} {below : List Frame} {meth : Method} {c : Code} {nW : Nat} {dC : Nat → ClassId} {dI : Nat → Nat → Nat} {k : Nat → ClassId} {g : Nat → Nat} {A : Nat → Prop} {J : Nat → List qV → List qV → qW → Prop} {Q : qR} (X : q_X p R s m args meth c cX6_tellPass 3 nW 0 0 RX6 none dC dI k g A) (hJ : ∀ d : Nat, q_Sd p l e R s m args below meth c 3 nW dC dI k g A (MQ below (q_post (dC, dI) k g nW Q A) args s 0 0 A) d (x_cut (is_F6_tellPass d) (J d))) : q_Sd p l e R s m args below meth c 3 nW dC dI k g A (MQ below (q_post (dC, dI) k g nW Q A) args s 0 0 A) 37 (b_F6_tellPass_37 J Q) := by
  unfold b_F6_tellPass_37
  refine s_aload_n X rfl dF6_tellPass_37 ?_
  refine s_dup X dF6_tellPass_38 ?_
  refine s_get X (T := TX6) (C := RX6) (N := 15) tu_X6 rfl (by decide) tw_287 dF6_tellPass_39 ?_
  refine s_iconst X ⟨by decide, by decide⟩ dF6_tellPass_42 ?_
  refine s_iload_n X rfl dF6_tellPass_43 ?_
  refine s_ishl X dF6_tellPass_44 ?_
  refine s_ior X dF6_tellPass_45 ?_
  refine s_put X (T := TX6) (C := RX6) (N := 15) tu_X6 tyX6_ok nmX6 rfl (by decide) tw_287 rfl (by decide +kernel) q_oki_t dF6_tellPass_46 ?_
  refine s_nw ?_
  exact s_F6_tellPass_49 X hJ
set_option maxRecDepth 100000 in
def b_F6_tellPass_0 (J : Nat → List qV → List qV → qW → Prop) (Q : qR) : qK := x_iload 2 (x_if_lt (b_F6_tellPass_49 J Q) (x_iload 2 (x_int 6 (x_icmp_ge (b_F6_tellPass_49 J Q) (x_aload 0 (x_get 6 0 (x_get 0 5 (x_iload 2 (x_dup2 (x_iald (x_int 1 (x_iload 1 (x_ishl (x_ior (x_iast (x_nw (x_aload 0 (x_dup (x_get 6 13 (x_int 1 (x_iload 1 (x_ishl (x_ior (x_put 6 13 q_oki (x_nw (b_F6_tellPass_37 J Q))))))))))))))))))))))))))
set_option maxRecDepth 100000 in
theorem s_F6_tellPass_0 {p : Program} {l : Launch} {e : Env} {R : Room} {s : State} {m : MethodId} {args : Array Value} {below : List Frame} {meth : Method} {c : Code} {nW : Nat} {dC : Nat → ClassId} {dI : Nat → Nat → Nat} {k : Nat → ClassId} {g : Nat → Nat} {A : Nat → Prop} {J : Nat → List qV → List qV → qW → Prop} {Q : qR} (X : q_X p R s m args meth c cX6_tellPass 3 nW 0 0 RX6 none dC dI k g A) (hJ : ∀ d : Nat, q_Sd p l e R s m args below meth c 3 nW dC dI k g A (MQ below (q_post (dC, dI) k g nW Q A) args s 0 0 A) d (x_cut (is_F6_tellPass d) (J d))) : q_Sd p l e R s m args below meth c 3 nW dC dI k g A (MQ below (q_post (dC, dI) k g nW Q A) args s 0 0 A) 0 (b_F6_tellPass_0 J Q) := by
  unfold b_F6_tellPass_0
  refine s_iload_n X rfl dF6_tellPass_0 ?_
  refine s_if_lt X (tgt := 49) dF6_tellPass_1 (by decide) ?_ ?_
  · exact s_F6_tellPass_49 X hJ
  · refine s_iload_n X rfl dF6_tellPass_4 ?_
    refine s_bipush X ⟨by decide, by decide⟩ (by decide) dF6_tellPass_5 ?_
    refine s_icmp_ge X (tgt := 49) dF6_tellPass_7 (by decide) ?_ ?_
    · exact s_F6_tellPass_49 X hJ
    · refine s_aload_n X rfl dF6_tellPass_10 ?_
      refine s_get X (T := TX6) (C := RX6) (N := 15) tu_X6 rfl (by decide) tw_267 dF6_tellPass_11 ?_
      refine s_get X (T := TX0) (C := RX0) (N := 12) tu_X0 rfl (by decide) tw_186 dF6_tellPass_14 ?_
      refine s_iload_n X rfl dF6_tellPass_17 ?_
      refine s_dup2 X dF6_tellPass_18 ?_
      refine s_iald X dF6_tellPass_19 ?_
      refine s_iconst X ⟨by decide, by decide⟩ dF6_tellPass_20 ?_
      refine s_iload_n X rfl dF6_tellPass_21 ?_
      refine s_ishl X dF6_tellPass_22 ?_
      refine s_ior X dF6_tellPass_23 ?_
      refine s_iast X dF6_tellPass_24 ?_
      refine s_nw ?_
      refine s_aload_n X rfl dF6_tellPass_25 ?_
      refine s_dup X dF6_tellPass_26 ?_
      refine s_get X (T := TX6) (C := RX6) (N := 15) tu_X6 rfl (by decide) tw_286 dF6_tellPass_27 ?_
      refine s_iconst X ⟨by decide, by decide⟩ dF6_tellPass_30 ?_
      refine s_iload_n X rfl dF6_tellPass_31 ?_
      refine s_ishl X dF6_tellPass_32 ?_
      refine s_ior X dF6_tellPass_33 ?_
      refine s_put X (T := TX6) (C := RX6) (N := 15) tu_X6 tyX6_ok nmX6 rfl (by decide) tw_286 rfl (by decide +kernel) q_oki_t dF6_tellPass_34 ?_
      refine s_nw ?_
      exact s_F6_tellPass_37 X hJ

def sp_F6_tellPass : qS := fun av w Q => ∃ (rln : Int) (rfa : Int) (rpl : Int) (rst : Int) (rnx : Int) (rtk : Int) (rnm : Int) (rnp : Int) (rnd : Int) (rbf1 : Nat → Int) (rbf2 : Nat → Int) (rbf3 : Nat → Int) (rbf4 : Nat → Int) (rbf5 : Nat → Int) (rbf6 : Nat → Int) (rbf7 : Nat → Int) (rbu0 : Int) (rbu1 : Int) (rbu2 : Int) (rbu3 : Int) (rbu4 : Int) (gD : Nat → Int) (gf : Int) (gd : Int) (gv2 : Int) (a : Int) (b : Int), av = [q2 0, q1 a, q1 b] ∧ w = [.inr (6, [q2 1, q2 9, q2 10, q2 11, q2 12, q2 13, q1 rln, q1 rfa, q1 rpl, q1 rst, q1 rnx, q1 rtk, q1 rnm, q1 rnp, q1 rnd]), .inr (0, [q2 2, q2 3, q2 4, q2 5, q2 6, q2 7, q2 8, q1 rbu0, q1 rbu1, q1 rbu2, q1 rbu3, q1 rbu4]), .inl (0, 8, .inl rbf1), .inl (0, 8, .inl rbf2), .inl (0, 4, .inl rbf3), .inl (0, 32, .inl rbf4), .inl (0, 6, .inl rbf5), .inl (0, 6, .inl rbf6), .inl (0, 6, .inl rbf7)] ∧ (CB rbf1 rbf2 rbf3 rbf4 rbf5 rbf6 rbf7 rbu0 rbu1 rbu2 rbu3 rbu4 gD) ∧ (NPR rnp gf) ∧ (NPR rnd gd) ∧ (0 ≤ a ∧ a ≤ 7) ∧ (0 ≤ b ∧ b ≤ 5) ∧ (∀ (x_rbf6 : Nat → Int) (x_rnp : Int) (x_rnd : Int), (CB rbf1 rbf2 rbf3 rbf4 rbf5 x_rbf6 rbf7 rbu0 rbu1 rbu2 rbu3 rbu4 (tel 6 a b gv2 gD) ∧ NPR x_rnp (fpN 6 a b gf) ∧ NPR x_rnd (fdN 6 b gd)) → Q none ([.inr (6, [q2 1, q2 9, q2 10, q2 11, q2 12, q2 13, q1 rln, q1 rfa, q1 rpl, q1 rst, q1 rnx, q1 rtk, q1 rnm, q1 x_rnp, q1 x_rnd]), .inr (0, [q2 2, q2 3, q2 4, q2 5, q2 6, q2 7, q2 8, q1 rbu0, q1 rbu1, q1 rbu2, q1 rbu3, q1 rbu4]), .inl (0, 8, .inl rbf1), .inl (0, 8, .inl rbf2), .inl (0, 4, .inl rbf3), .inl (0, 32, .inl rbf4), .inl (0, 6, .inl rbf5), .inl (0, 6, .inl x_rbf6), .inl (0, 6, .inl rbf7)]))
set_option maxHeartbeats 4000000 in
set_option maxRecDepth 100000 in
theorem m_F6_tellPass (l : Launch) : q_M l yX6_tellPass cX6_tellPass 3 none 0 0 sp_F6_tellPass := by
  refine q_meth (by decide) (fun av w Q h => by obtain ⟨rln, rfa, rpl, rst, rnx, rtk, rnm, rnp, rnd, rbf1, rbf2, rbf3, rbf4, rbf5, rbf6, rbf7, rbu0, rbu1, rbu2, rbu3, rbu4, gD, gf, gd, gv2, a, b, rfl, rfl, hC, hN, hM, ha, hb, hQ⟩ := h; exact Nat.le_of_ble_eq_true rfl) ?_
  intro p e R s m args below meth c dC dI k g A av w Q hsp oka okw X
  obtain ⟨rln, rfa, rpl, rst, rnx, rtk, rnm, rnp, rnd, rbf1, rbf2, rbf3, rbf4, rbf5, rbf6, rbf7, rbu0, rbu1, rbu2, rbu3, rbu4, gD, gf, gd, gv2, a, b, rfl, rfl, hC, hN, hM, ha, hb, hQ⟩ := hsp
  have o_a : -2147483648 ≤ a ∧ a ≤ 2147483647 := oka _ (List.mem_of_getElem? (i := 1) rfl)
  have o_b : -2147483648 ≤ b ∧ b ≤ 2147483647 := oka _ (List.mem_of_getElem? (i := 2) rfl)
  refine s_mono (s_F6_tellPass_0 X (J := fun _ _ _ _ => False) (fun d => s_cutF)) ?_
  rintro lv st w' ⟨rfl, rfl, rfl⟩
  apply And.intro
  · intro hq_1
    exact hQ _ _ _ (by first | exact ⟨(by rw [e_orI hq_22 hq_23, hq_19]; exact CB_w6 hC hb), (by rw [e_orI hq_32 hq_33, fpN_1 (by omega)]; exact NPR_or hN ha), (by rw [e_orI hq_44 hq_45, fdN_6]; exact NPR_or hM (by omega))⟩ | (exfalso; omega))
  · intro hq_1
    apply And.intro
    · intro hq_7
      exact hQ _ _ _ (by first | exact ⟨(by rw [e_orI hq_22 hq_23, hq_19]; exact CB_w6 hC hb), (by rw [e_orI hq_32 hq_33, fpN_1 (by omega)]; exact NPR_or hN ha), (by rw [e_orI hq_44 hq_45, fdN_6]; exact NPR_or hM (by omega))⟩ | (exfalso; omega))
    · intro hq_7
      apply And.intro
      · exact ⟨by omega, by omega⟩
      intro zq_19 hq_19
      intro zq_22 hq_22
      skip
      intro zq_23 hq_23
      skip
      apply And.intro
      · exact ⟨by omega, by omega⟩
      intro zq_32 hq_32
      skip
      intro zq_33 hq_33
      skip
      apply And.intro
      · exact trivial
      intro zq_44 hq_44
      skip
      intro zq_45 hq_45
      skip
      apply And.intro
      · exact trivial
      exact hQ _ _ _ (by first | exact ⟨(by rw [e_orI hq_22 hq_23, hq_19]; exact CB_w6 hC hb), (by rw [e_orI hq_32 hq_33, fpN_1 (by omega)]; exact NPR_or hN ha), (by rw [e_orI hq_44 hq_45, fdN_6]; exact NPR_or hM (by omega))⟩ | (exfalso; omega))

theorem dF6_tellFine_0 : decode cX6_tellFine 0 = .ok (.iload_n 1, 1) := by decide +kernel
theorem dF6_tellFine_1 : decode cX6_tellFine 1 = .ok (.ifCond .lt 18, 3) := by decide +kernel
theorem dF6_tellFine_4 : decode cX6_tellFine 4 = .ok (.iload_n 1, 1) := by decide +kernel
theorem dF6_tellFine_5 : decode cX6_tellFine 5 = .ok (.iconst 4, 1) := by decide +kernel
theorem dF6_tellFine_6 : decode cX6_tellFine 6 = .ok (.if_icmp .ge 13, 3) := by decide +kernel
theorem dF6_tellFine_9 : decode cX6_tellFine 9 = .ok (.aload_n 0, 1) := by decide +kernel
theorem dF6_tellFine_10 : decode cX6_tellFine 10 = .ok (.getfield 12, 3) := by decide +kernel
theorem dF6_tellFine_13 : decode cX6_tellFine 13 = .ok (.getfield 278, 3) := by decide +kernel
theorem dF6_tellFine_16 : decode cX6_tellFine 16 = .ok (.iload_n 1, 1) := by decide +kernel
theorem dF6_tellFine_17 : decode cX6_tellFine 17 = .ok (.iload_n 2, 1) := by decide +kernel
theorem dF6_tellFine_18 : decode cX6_tellFine 18 = .ok (.iastore, 1) := by decide +kernel
theorem dF6_tellFine_19 : decode cX6_tellFine 19 = .ok (.return_, 1) := by decide +kernel
def is_F6_tellFine : Nat → List Nat := fun d => []
set_option maxRecDepth 100000 in
def b_F6_tellFine_19 (J : Nat → List qV → List qV → qW → Prop) (Q : qR) : qK := x_vret Q
set_option maxRecDepth 100000 in
theorem s_F6_tellFine_19 {p : Program} {l : Launch} {e : Env} {R : Room} {s : State} {m : MethodId} {args : Array Value} {below : List Frame} {meth : Method} {c : Code} {nW : Nat} {dC : Nat → ClassId} {dI : Nat → Nat → Nat} {k : Nat → ClassId} {g : Nat → Nat} {A : Nat → Prop} {J : Nat → List qV → List qV → qW → Prop} {Q : qR} (X : q_X p R s m args meth c cX6_tellFine 3 nW 0 0 RX6 none dC dI k g A) (hJ : ∀ d : Nat, q_Sd p l e R s m args below meth c 3 nW dC dI k g A (MQ below (q_post (dC, dI) k g nW Q A) args s 0 0 A) d (x_cut (is_F6_tellFine d) (J d))) : q_Sd p l e R s m args below meth c 3 nW dC dI k g A (MQ below (q_post (dC, dI) k g nW Q A) args s 0 0 A) 19 (b_F6_tellFine_19 J Q) := by
  unfold b_F6_tellFine_19
  exact s_vret X dF6_tellFine_19
set_option maxRecDepth 100000 in
def b_F6_tellFine_0 (J : Nat → List qV → List qV → qW → Prop) (Q : qR) : qK := x_iload 1 (x_if_lt (b_F6_tellFine_19 J Q) (x_iload 1 (x_int 4 (x_icmp_ge (b_F6_tellFine_19 J Q) (x_aload 0 (x_get 6 0 (x_get 0 2 (x_iload 1 (x_iload 2 (x_iast (x_nw (b_F6_tellFine_19 J Q))))))))))))
set_option maxRecDepth 100000 in
theorem s_F6_tellFine_0 {p : Program} {l : Launch} {e : Env} {R : Room} {s : State} {m : MethodId} {args : Array Value} {below : List Frame} {meth : Method} {c : Code} {nW : Nat} {dC : Nat → ClassId} {dI : Nat → Nat → Nat} {k : Nat → ClassId} {g : Nat → Nat} {A : Nat → Prop} {J : Nat → List qV → List qV → qW → Prop} {Q : qR} (X : q_X p R s m args meth c cX6_tellFine 3 nW 0 0 RX6 none dC dI k g A) (hJ : ∀ d : Nat, q_Sd p l e R s m args below meth c 3 nW dC dI k g A (MQ below (q_post (dC, dI) k g nW Q A) args s 0 0 A) d (x_cut (is_F6_tellFine d) (J d))) : q_Sd p l e R s m args below meth c 3 nW dC dI k g A (MQ below (q_post (dC, dI) k g nW Q A) args s 0 0 A) 0 (b_F6_tellFine_0 J Q) := by
  unfold b_F6_tellFine_0
  refine s_iload_n X rfl dF6_tellFine_0 ?_
  refine s_if_lt X (tgt := 19) dF6_tellFine_1 (by decide) ?_ ?_
  · exact s_F6_tellFine_19 X hJ
  · refine s_iload_n X rfl dF6_tellFine_4 ?_
    refine s_iconst X ⟨by decide, by decide⟩ dF6_tellFine_5 ?_
    refine s_icmp_ge X (tgt := 19) dF6_tellFine_6 (by decide) ?_ ?_
    · exact s_F6_tellFine_19 X hJ
    · refine s_aload_n X rfl dF6_tellFine_9 ?_
      refine s_get X (T := TX6) (C := RX6) (N := 15) tu_X6 rfl (by decide) tw_267 dF6_tellFine_10 ?_
      refine s_get X (T := TX0) (C := RX0) (N := 12) tu_X0 rfl (by decide) tw_178 dF6_tellFine_13 ?_
      refine s_iload_n X rfl dF6_tellFine_16 ?_
      refine s_iload_n X rfl dF6_tellFine_17 ?_
      refine s_iast X dF6_tellFine_18 ?_
      refine s_nw ?_
      exact s_F6_tellFine_19 X hJ

def sp_F6_tellFine : qS := fun av w Q => ∃ (rln : Int) (rfa : Int) (rpl : Int) (rst : Int) (rnx : Int) (rtk : Int) (rnm : Int) (rnp : Int) (rnd : Int) (rbf1 : Nat → Int) (rbf2 : Nat → Int) (rbf3 : Nat → Int) (rbf4 : Nat → Int) (rbf5 : Nat → Int) (rbf6 : Nat → Int) (rbf7 : Nat → Int) (rbu0 : Int) (rbu1 : Int) (rbu2 : Int) (rbu3 : Int) (rbu4 : Int) (gD : Nat → Int) (gv2 : Int) (a : Int) (b : Int), av = [q2 0, q1 a, q1 b] ∧ w = [.inr (6, [q2 1, q2 9, q2 10, q2 11, q2 12, q2 13, q1 rln, q1 rfa, q1 rpl, q1 rst, q1 rnx, q1 rtk, q1 rnm, q1 rnp, q1 rnd]), .inr (0, [q2 2, q2 3, q2 4, q2 5, q2 6, q2 7, q2 8, q1 rbu0, q1 rbu1, q1 rbu2, q1 rbu3, q1 rbu4]), .inl (0, 8, .inl rbf1), .inl (0, 8, .inl rbf2), .inl (0, 4, .inl rbf3), .inl (0, 32, .inl rbf4), .inl (0, 6, .inl rbf5), .inl (0, 6, .inl rbf6), .inl (0, 6, .inl rbf7)] ∧ (CB rbf1 rbf2 rbf3 rbf4 rbf5 rbf6 rbf7 rbu0 rbu1 rbu2 rbu3 rbu4 gD) ∧ (q_rg 0 9 rbf3) ∧ (0 ≤ a ∧ a ≤ 3) ∧ (0 ≤ b ∧ b ≤ 9) ∧ (∀ (x_rbf3 : Nat → Int), (CB rbf1 rbf2 x_rbf3 rbf4 rbf5 rbf6 rbf7 rbu0 rbu1 rbu2 rbu3 rbu4 (tel 7 a b gv2 gD) ∧ q_rg 0 9 x_rbf3) → Q none ([.inr (6, [q2 1, q2 9, q2 10, q2 11, q2 12, q2 13, q1 rln, q1 rfa, q1 rpl, q1 rst, q1 rnx, q1 rtk, q1 rnm, q1 rnp, q1 rnd]), .inr (0, [q2 2, q2 3, q2 4, q2 5, q2 6, q2 7, q2 8, q1 rbu0, q1 rbu1, q1 rbu2, q1 rbu3, q1 rbu4]), .inl (0, 8, .inl rbf1), .inl (0, 8, .inl rbf2), .inl (0, 4, .inl x_rbf3), .inl (0, 32, .inl rbf4), .inl (0, 6, .inl rbf5), .inl (0, 6, .inl rbf6), .inl (0, 6, .inl rbf7)]))
set_option maxHeartbeats 4000000 in
set_option maxRecDepth 100000 in
theorem m_F6_tellFine (l : Launch) : q_M l yX6_tellFine cX6_tellFine 3 none 0 0 sp_F6_tellFine := by
  refine q_meth (by decide) (fun av w Q h => by obtain ⟨rln, rfa, rpl, rst, rnx, rtk, rnm, rnp, rnd, rbf1, rbf2, rbf3, rbf4, rbf5, rbf6, rbf7, rbu0, rbu1, rbu2, rbu3, rbu4, gD, gv2, a, b, rfl, rfl, hC, hf3, ha, hb9, hQ⟩ := h; exact Nat.le_of_ble_eq_true rfl) ?_
  intro p e R s m args below meth c dC dI k g A av w Q hsp oka okw X
  obtain ⟨rln, rfa, rpl, rst, rnx, rtk, rnm, rnp, rnd, rbf1, rbf2, rbf3, rbf4, rbf5, rbf6, rbf7, rbu0, rbu1, rbu2, rbu3, rbu4, gD, gv2, a, b, rfl, rfl, hC, hf3, ha, hb9, hQ⟩ := hsp
  have o_a : -2147483648 ≤ a ∧ a ≤ 2147483647 := oka _ (List.mem_of_getElem? (i := 1) rfl)
  have o_b : -2147483648 ≤ b ∧ b ≤ 2147483647 := oka _ (List.mem_of_getElem? (i := 2) rfl)
  refine s_mono (s_F6_tellFine_0 X (J := fun _ _ _ _ => False) (fun d => s_cutF)) ?_
  rintro lv st w' ⟨rfl, rfl, rfl⟩
  apply And.intro
  · intro hq_1
    exact hQ _ (by first | exact ⟨CB_w7 hC ha, q_rg_up hf3 hb9⟩ | (exfalso; omega))
  · intro hq_1
    apply And.intro
    · intro hq_6
      exact hQ _ (by first | exact ⟨CB_w7 hC ha, q_rg_up hf3 hb9⟩ | (exfalso; omega))
    · intro hq_6
      apply And.intro
      · exact ⟨by omega, by omega⟩
      exact hQ _ (by first | exact ⟨CB_w7 hC ha, q_rg_up hf3 hb9⟩ | (exfalso; omega))

theorem dF6_tellWish_0 : decode cX6_tellWish 0 = .ok (.iconst 4, 1) := by decide +kernel
theorem dF6_tellWish_1 : decode cX6_tellWish 1 = .ok (.iload_n 1, 1) := by decide +kernel
theorem dF6_tellWish_2 : decode cX6_tellWish 2 = .ok (.imul, 1) := by decide +kernel
theorem dF6_tellWish_3 : decode cX6_tellWish 3 = .ok (.iload_n 2, 1) := by decide +kernel
theorem dF6_tellWish_4 : decode cX6_tellWish 4 = .ok (.iadd, 1) := by decide +kernel
theorem dF6_tellWish_5 : decode cX6_tellWish 5 = .ok (.istore 4, 2) := by decide +kernel
theorem dF6_tellWish_7 : decode cX6_tellWish 7 = .ok (.iload 4, 2) := by decide +kernel
theorem dF6_tellWish_9 : decode cX6_tellWish 9 = .ok (.ifCond .lt 39, 3) := by decide +kernel
theorem dF6_tellWish_12 : decode cX6_tellWish 12 = .ok (.iload 4, 2) := by decide +kernel
theorem dF6_tellWish_14 : decode cX6_tellWish 14 = .ok (.aload_n 0, 1) := by decide +kernel
theorem dF6_tellWish_15 : decode cX6_tellWish 15 = .ok (.getfield 12, 3) := by decide +kernel
theorem dF6_tellWish_18 : decode cX6_tellWish 18 = .ok (.getfield 280, 3) := by decide +kernel
theorem dF6_tellWish_21 : decode cX6_tellWish 21 = .ok (.arraylength, 1) := by decide +kernel
theorem dF6_tellWish_22 : decode cX6_tellWish 22 = .ok (.if_icmp .ge 26, 3) := by decide +kernel
theorem dF6_tellWish_25 : decode cX6_tellWish 25 = .ok (.aload_n 0, 1) := by decide +kernel
theorem dF6_tellWish_26 : decode cX6_tellWish 26 = .ok (.getfield 12, 3) := by decide +kernel
theorem dF6_tellWish_29 : decode cX6_tellWish 29 = .ok (.getfield 280, 3) := by decide +kernel
theorem dF6_tellWish_32 : decode cX6_tellWish 32 = .ok (.iload 4, 2) := by decide +kernel
theorem dF6_tellWish_34 : decode cX6_tellWish 34 = .ok (.iload_n 3, 1) := by decide +kernel
theorem dF6_tellWish_35 : decode cX6_tellWish 35 = .ok (.iastore, 1) := by decide +kernel
theorem dF6_tellWish_36 : decode cX6_tellWish 36 = .ok (.aload_n 0, 1) := by decide +kernel
theorem dF6_tellWish_37 : decode cX6_tellWish 37 = .ok (.dup, 1) := by decide +kernel
theorem dF6_tellWish_38 : decode cX6_tellWish 38 = .ok (.getfield 97, 3) := by decide +kernel
theorem dF6_tellWish_41 : decode cX6_tellWish 41 = .ok (.iconst 1, 1) := by decide +kernel
theorem dF6_tellWish_42 : decode cX6_tellWish 42 = .ok (.iload_n 1, 1) := by decide +kernel
theorem dF6_tellWish_43 : decode cX6_tellWish 43 = .ok (.ishl, 1) := by decide +kernel
theorem dF6_tellWish_44 : decode cX6_tellWish 44 = .ok (.ior, 1) := by decide +kernel
theorem dF6_tellWish_45 : decode cX6_tellWish 45 = .ok (.putfield 97, 3) := by decide +kernel
theorem dF6_tellWish_48 : decode cX6_tellWish 48 = .ok (.return_, 1) := by decide +kernel
def is_F6_tellWish : Nat → List Nat := fun d => []
set_option maxRecDepth 100000 in
def b_F6_tellWish_48 (J : Nat → List qV → List qV → qW → Prop) (Q : qR) : qK := x_vret Q
set_option maxRecDepth 100000 in
theorem s_F6_tellWish_48 {p : Program} {l : Launch} {e : Env} {R : Room} {s : State} {m : MethodId} {args : Array Value} {below : List Frame} {meth : Method} {c : Code} {nW : Nat} {dC : Nat → ClassId} {dI : Nat → Nat → Nat} {k : Nat → ClassId} {g : Nat → Nat} {A : Nat → Prop} {J : Nat → List qV → List qV → qW → Prop} {Q : qR} (X : q_X p R s m args meth c cX6_tellWish 5 nW 0 0 RX6 none dC dI k g A) (hJ : ∀ d : Nat, q_Sd p l e R s m args below meth c 5 nW dC dI k g A (MQ below (q_post (dC, dI) k g nW Q A) args s 0 0 A) d (x_cut (is_F6_tellWish d) (J d))) : q_Sd p l e R s m args below meth c 5 nW dC dI k g A (MQ below (q_post (dC, dI) k g nW Q A) args s 0 0 A) 48 (b_F6_tellWish_48 J Q) := by
  unfold b_F6_tellWish_48
  exact s_vret X dF6_tellWish_48
set_option maxRecDepth 100000 in
def b_F6_tellWish_42 (J : Nat → List qV → List qV → qW → Prop) (Q : qR) : qK := x_iload 1 (x_ishl (x_ior (x_put 6 13 q_oki (x_nw (b_F6_tellWish_48 J Q)))))
set_option maxRecDepth 100000 in
theorem s_F6_tellWish_42 {p : Program} {l : Launch} {e : Env} {R : Room} {s : State} {m : MethodId} {args : Array Value} {below : List Frame} {meth : Method} {c : Code} {nW : Nat} {dC : Nat → ClassId} {dI : Nat → Nat → Nat} {k : Nat → ClassId} {g : Nat → Nat} {A : Nat → Prop} {J : Nat → List qV → List qV → qW → Prop} {Q : qR} (X : q_X p R s m args meth c cX6_tellWish 5 nW 0 0 RX6 none dC dI k g A) (hJ : ∀ d : Nat, q_Sd p l e R s m args below meth c 5 nW dC dI k g A (MQ below (q_post (dC, dI) k g nW Q A) args s 0 0 A) d (x_cut (is_F6_tellWish d) (J d))) : q_Sd p l e R s m args below meth c 5 nW dC dI k g A (MQ below (q_post (dC, dI) k g nW Q A) args s 0 0 A) 42 (b_F6_tellWish_42 J Q) := by
  unfold b_F6_tellWish_42
  refine s_iload_n X rfl dF6_tellWish_42 ?_
  refine s_ishl X dF6_tellWish_43 ?_
  refine s_ior X dF6_tellWish_44 ?_
  refine s_put X (T := TX6) (C := RX6) (N := 15) tu_X6 tyX6_ok nmX6 rfl (by decide) tw_286 rfl (by decide +kernel) q_oki_t dF6_tellWish_45 ?_
  refine s_nw ?_
  exact s_F6_tellWish_48 X hJ
set_option maxRecDepth 100000 in
def b_F6_tellWish_0 (J : Nat → List qV → List qV → qW → Prop) (Q : qR) : qK := x_int 4 (x_iload 1 (x_imul (x_iload 2 (x_iadd (x_istore 4 (x_iload 4 (x_if_lt (b_F6_tellWish_48 J Q) (x_iload 4 (x_aload 0 (x_get 6 0 (x_get 0 3 (x_alen (x_icmp_ge (b_F6_tellWish_48 J Q) (x_aload 0 (x_get 6 0 (x_get 0 3 (x_iload 4 (x_iload 3 (x_iast (x_nw (x_aload 0 (x_dup (x_get 6 13 (x_int 1 (b_F6_tellWish_42 J Q)))))))))))))))))))))))))
set_option maxRecDepth 100000 in
theorem s_F6_tellWish_0 {p : Program} {l : Launch} {e : Env} {R : Room} {s : State} {m : MethodId} {args : Array Value} {below : List Frame} {meth : Method} {c : Code} {nW : Nat} {dC : Nat → ClassId} {dI : Nat → Nat → Nat} {k : Nat → ClassId} {g : Nat → Nat} {A : Nat → Prop} {J : Nat → List qV → List qV → qW → Prop} {Q : qR} (X : q_X p R s m args meth c cX6_tellWish 5 nW 0 0 RX6 none dC dI k g A) (hJ : ∀ d : Nat, q_Sd p l e R s m args below meth c 5 nW dC dI k g A (MQ below (q_post (dC, dI) k g nW Q A) args s 0 0 A) d (x_cut (is_F6_tellWish d) (J d))) : q_Sd p l e R s m args below meth c 5 nW dC dI k g A (MQ below (q_post (dC, dI) k g nW Q A) args s 0 0 A) 0 (b_F6_tellWish_0 J Q) := by
  unfold b_F6_tellWish_0
  refine s_iconst X ⟨by decide, by decide⟩ dF6_tellWish_0 ?_
  refine s_iload_n X rfl dF6_tellWish_1 ?_
  refine s_imul X dF6_tellWish_2 ?_
  refine s_iload_n X rfl dF6_tellWish_3 ?_
  refine s_iadd X dF6_tellWish_4 ?_
  refine s_istore X (by decide) dF6_tellWish_5 ?_
  refine s_iload X dF6_tellWish_7 ?_
  refine s_if_lt X (tgt := 48) dF6_tellWish_9 (by decide) ?_ ?_
  · exact s_F6_tellWish_48 X hJ
  · refine s_iload X dF6_tellWish_12 ?_
    refine s_aload_n X rfl dF6_tellWish_14 ?_
    refine s_get X (T := TX6) (C := RX6) (N := 15) tu_X6 rfl (by decide) tw_267 dF6_tellWish_15 ?_
    refine s_get X (T := TX0) (C := RX0) (N := 12) tu_X0 rfl (by decide) tw_180 dF6_tellWish_18 ?_
    refine s_alen X dF6_tellWish_21 ?_
    refine s_icmp_ge X (tgt := 48) dF6_tellWish_22 (by decide) ?_ ?_
    · exact s_F6_tellWish_48 X hJ
    · refine s_aload_n X rfl dF6_tellWish_25 ?_
      refine s_get X (T := TX6) (C := RX6) (N := 15) tu_X6 rfl (by decide) tw_267 dF6_tellWish_26 ?_
      refine s_get X (T := TX0) (C := RX0) (N := 12) tu_X0 rfl (by decide) tw_180 dF6_tellWish_29 ?_
      refine s_iload X dF6_tellWish_32 ?_
      refine s_iload_n X rfl dF6_tellWish_34 ?_
      refine s_iast X dF6_tellWish_35 ?_
      refine s_nw ?_
      refine s_aload_n X rfl dF6_tellWish_36 ?_
      refine s_dup X dF6_tellWish_37 ?_
      refine s_get X (T := TX6) (C := RX6) (N := 15) tu_X6 rfl (by decide) tw_286 dF6_tellWish_38 ?_
      refine s_iconst X ⟨by decide, by decide⟩ dF6_tellWish_41 ?_
      exact s_F6_tellWish_42 X hJ

def sp_F6_tellWish : qS := fun av w Q => ∃ (rln : Int) (rfa : Int) (rpl : Int) (rst : Int) (rnx : Int) (rtk : Int) (rnm : Int) (rnp : Int) (rnd : Int) (rbf1 : Nat → Int) (rbf2 : Nat → Int) (rbf3 : Nat → Int) (rbf4 : Nat → Int) (rbf5 : Nat → Int) (rbf6 : Nat → Int) (rbf7 : Nat → Int) (rbu0 : Int) (rbu1 : Int) (rbu2 : Int) (rbu3 : Int) (rbu4 : Int) (gD : Nat → Int) (gf : Int) (a : Int) (b : Int) (cc : Int), av = [q2 0, q1 a, q1 b, q1 cc] ∧ w = [.inr (6, [q2 1, q2 9, q2 10, q2 11, q2 12, q2 13, q1 rln, q1 rfa, q1 rpl, q1 rst, q1 rnx, q1 rtk, q1 rnm, q1 rnp, q1 rnd]), .inr (0, [q2 2, q2 3, q2 4, q2 5, q2 6, q2 7, q2 8, q1 rbu0, q1 rbu1, q1 rbu2, q1 rbu3, q1 rbu4]), .inl (0, 8, .inl rbf1), .inl (0, 8, .inl rbf2), .inl (0, 4, .inl rbf3), .inl (0, 32, .inl rbf4), .inl (0, 6, .inl rbf5), .inl (0, 6, .inl rbf6), .inl (0, 6, .inl rbf7)] ∧ (CB rbf1 rbf2 rbf3 rbf4 rbf5 rbf6 rbf7 rbu0 rbu1 rbu2 rbu3 rbu4 gD) ∧ (NPR rnp gf) ∧ (0 ≤ a ∧ a ≤ 7) ∧ (0 ≤ b ∧ b ≤ 3) ∧ (∀ (x_rbf4 : Nat → Int) (x_rnp : Int), (CB rbf1 rbf2 rbf3 x_rbf4 rbf5 rbf6 rbf7 rbu0 rbu1 rbu2 rbu3 rbu4 (tel 8 a b cc gD) ∧ NPR x_rnp (fpN 8 a b gf)) → Q none ([.inr (6, [q2 1, q2 9, q2 10, q2 11, q2 12, q2 13, q1 rln, q1 rfa, q1 rpl, q1 rst, q1 rnx, q1 rtk, q1 rnm, q1 x_rnp, q1 rnd]), .inr (0, [q2 2, q2 3, q2 4, q2 5, q2 6, q2 7, q2 8, q1 rbu0, q1 rbu1, q1 rbu2, q1 rbu3, q1 rbu4]), .inl (0, 8, .inl rbf1), .inl (0, 8, .inl rbf2), .inl (0, 4, .inl rbf3), .inl (0, 32, .inl x_rbf4), .inl (0, 6, .inl rbf5), .inl (0, 6, .inl rbf6), .inl (0, 6, .inl rbf7)]))
set_option maxHeartbeats 4000000 in
set_option maxRecDepth 100000 in
theorem m_F6_tellWish (l : Launch) : q_M l yX6_tellWish cX6_tellWish 5 none 0 0 sp_F6_tellWish := by
  refine q_meth (by decide) (fun av w Q h => by obtain ⟨rln, rfa, rpl, rst, rnx, rtk, rnm, rnp, rnd, rbf1, rbf2, rbf3, rbf4, rbf5, rbf6, rbf7, rbu0, rbu1, rbu2, rbu3, rbu4, gD, gf, a, b, cc, rfl, rfl, hC, hN, ha, hb, hQ⟩ := h; exact Nat.le_of_ble_eq_true rfl) ?_
  intro p e R s m args below meth c dC dI k g A av w Q hsp oka okw X
  obtain ⟨rln, rfa, rpl, rst, rnx, rtk, rnm, rnp, rnd, rbf1, rbf2, rbf3, rbf4, rbf5, rbf6, rbf7, rbu0, rbu1, rbu2, rbu3, rbu4, gD, gf, a, b, cc, rfl, rfl, hC, hN, ha, hb, hQ⟩ := hsp
  have o_a : -2147483648 ≤ a ∧ a ≤ 2147483647 := oka _ (List.mem_of_getElem? (i := 1) rfl)
  have o_b : -2147483648 ≤ b ∧ b ≤ 2147483647 := oka _ (List.mem_of_getElem? (i := 2) rfl)
  have o_cc : -2147483648 ≤ cc ∧ cc ≤ 2147483647 := oka _ (List.mem_of_getElem? (i := 3) rfl)
  refine s_mono (s_F6_tellWish_0 X (J := fun _ _ _ _ => False) (fun d => s_cutF)) ?_
  rintro lv st w' ⟨rfl, rfl, rfl⟩
  intro zq_2 hq_2
  first | replace hq_2 := e_mul hq_2 (by omega) | replace hq_2 := e_rng hq_2
  intro zq_4 hq_4
  first | replace hq_4 := e_add hq_4 (by omega) | replace hq_4 := e_rng hq_4
  apply And.intro
  · intro hq_9
    exact hQ _ _ (by first | exact ⟨(by rw [show zq_4 = 4 * a + b by omega]; exact CB_w8 hC ha hb), (by rw [e_orI hq_43 hq_44, fpN_1 (by omega)]; exact NPR_or hN ha)⟩ | (exfalso; omega))
  · intro hq_9
    apply And.intro
    · omega
    apply And.intro
    · intro hq_22
      exact hQ _ _ (by first | exact ⟨(by rw [show zq_4 = 4 * a + b by omega]; exact CB_w8 hC ha hb), (by rw [e_orI hq_43 hq_44, fpN_1 (by omega)]; exact NPR_or hN ha)⟩ | (exfalso; omega))
    · intro hq_22
      apply And.intro
      · exact ⟨by omega, by omega⟩
      intro zq_43 hq_43
      skip
      intro zq_44 hq_44
      skip
      apply And.intro
      · exact trivial
      exact hQ _ _ (by first | exact ⟨(by rw [show zq_4 = 4 * a + b by omega]; exact CB_w8 hC ha hb), (by rw [e_orI hq_43 hq_44, fpN_1 (by omega)]; exact NPR_or hN ha)⟩ | (exfalso; omega))

theorem dF6_tellGot_0 : decode cX6_tellGot 0 = .ok (.iload_n 1, 1) := by decide +kernel
theorem dF6_tellGot_1 : decode cX6_tellGot 1 = .ok (.ifCond .lt 19, 3) := by decide +kernel
theorem dF6_tellGot_4 : decode cX6_tellGot 4 = .ok (.iload_n 1, 1) := by decide +kernel
theorem dF6_tellGot_5 : decode cX6_tellGot 5 = .ok (.bipush 8, 2) := by decide +kernel
theorem dF6_tellGot_7 : decode cX6_tellGot 7 = .ok (.if_icmp .ge 13, 3) := by decide +kernel
theorem dF6_tellGot_10 : decode cX6_tellGot 10 = .ok (.aload_n 0, 1) := by decide +kernel
theorem dF6_tellGot_11 : decode cX6_tellGot 11 = .ok (.getfield 28, 3) := by decide +kernel
theorem dF6_tellGot_14 : decode cX6_tellGot 14 = .ok (.getfield 236, 3) := by decide +kernel
theorem dF6_tellGot_17 : decode cX6_tellGot 17 = .ok (.iload_n 1, 1) := by decide +kernel
theorem dF6_tellGot_18 : decode cX6_tellGot 18 = .ok (.iload_n 2, 1) := by decide +kernel
theorem dF6_tellGot_19 : decode cX6_tellGot 19 = .ok (.iastore, 1) := by decide +kernel
theorem dF6_tellGot_20 : decode cX6_tellGot 20 = .ok (.return_, 1) := by decide +kernel
def is_F6_tellGot : Nat → List Nat := fun d => []
set_option maxRecDepth 100000 in
def b_F6_tellGot_20 (J : Nat → List qV → List qV → qW → Prop) (Q : qR) : qK := x_vret Q
set_option maxRecDepth 100000 in
theorem s_F6_tellGot_20 {p : Program} {l : Launch} {e : Env} {R : Room} {s : State} {m : MethodId} {args : Array Value} {below : List Frame} {meth : Method} {c : Code} {nW : Nat} {dC : Nat → ClassId} {dI : Nat → Nat → Nat} {k : Nat → ClassId} {g : Nat → Nat} {A : Nat → Prop} {J : Nat → List qV → List qV → qW → Prop} {Q : qR} (X : q_X p R s m args meth c cX6_tellGot 3 nW 0 0 RX6 none dC dI k g A) (hJ : ∀ d : Nat, q_Sd p l e R s m args below meth c 3 nW dC dI k g A (MQ below (q_post (dC, dI) k g nW Q A) args s 0 0 A) d (x_cut (is_F6_tellGot d) (J d))) : q_Sd p l e R s m args below meth c 3 nW dC dI k g A (MQ below (q_post (dC, dI) k g nW Q A) args s 0 0 A) 20 (b_F6_tellGot_20 J Q) := by
  unfold b_F6_tellGot_20
  exact s_vret X dF6_tellGot_20
set_option maxRecDepth 100000 in
def b_F6_tellGot_0 (J : Nat → List qV → List qV → qW → Prop) (Q : qR) : qK := x_iload 1 (x_if_lt (b_F6_tellGot_20 J Q) (x_iload 1 (x_int 8 (x_icmp_ge (b_F6_tellGot_20 J Q) (x_aload 0 (x_get 6 2 (x_get 3 0 (x_iload 1 (x_iload 2 (x_iast (x_nw (b_F6_tellGot_20 J Q))))))))))))
set_option maxRecDepth 100000 in
theorem s_F6_tellGot_0 {p : Program} {l : Launch} {e : Env} {R : Room} {s : State} {m : MethodId} {args : Array Value} {below : List Frame} {meth : Method} {c : Code} {nW : Nat} {dC : Nat → ClassId} {dI : Nat → Nat → Nat} {k : Nat → ClassId} {g : Nat → Nat} {A : Nat → Prop} {J : Nat → List qV → List qV → qW → Prop} {Q : qR} (X : q_X p R s m args meth c cX6_tellGot 3 nW 0 0 RX6 none dC dI k g A) (hJ : ∀ d : Nat, q_Sd p l e R s m args below meth c 3 nW dC dI k g A (MQ below (q_post (dC, dI) k g nW Q A) args s 0 0 A) d (x_cut (is_F6_tellGot d) (J d))) : q_Sd p l e R s m args below meth c 3 nW dC dI k g A (MQ below (q_post (dC, dI) k g nW Q A) args s 0 0 A) 0 (b_F6_tellGot_0 J Q) := by
  unfold b_F6_tellGot_0
  refine s_iload_n X rfl dF6_tellGot_0 ?_
  refine s_if_lt X (tgt := 20) dF6_tellGot_1 (by decide) ?_ ?_
  · exact s_F6_tellGot_20 X hJ
  · refine s_iload_n X rfl dF6_tellGot_4 ?_
    refine s_bipush X ⟨by decide, by decide⟩ (by decide) dF6_tellGot_5 ?_
    refine s_icmp_ge X (tgt := 20) dF6_tellGot_7 (by decide) ?_ ?_
    · exact s_F6_tellGot_20 X hJ
    · refine s_aload_n X rfl dF6_tellGot_10 ?_
      refine s_get X (T := TX6) (C := RX6) (N := 15) tu_X6 rfl (by decide) tw_271 dF6_tellGot_11 ?_
      refine s_get X (T := TX3) (C := RX3) (N := 2) tu_X3 rfl (by decide) tw_233 dF6_tellGot_14 ?_
      refine s_iload_n X rfl dF6_tellGot_17 ?_
      refine s_iload_n X rfl dF6_tellGot_18 ?_
      refine s_iast X dF6_tellGot_19 ?_
      refine s_nw ?_
      exact s_F6_tellGot_20 X hJ

def sp_F6_tellGot : qS := fun av w Q => ∃ (rln : Int) (rfa : Int) (rpl : Int) (rst : Int) (rnx : Int) (rtk : Int) (rnm : Int) (rnp : Int) (rnd : Int) (rlg : Nat → Int) (rlo : Int) (gD : Nat → Int) (gv2 : Int) (a : Int) (b : Int), av = [q2 0, q1 a, q1 b] ∧ w = [.inr (6, [q2 3, q2 4, q2 1, q2 5, q2 6, q2 7, q1 rln, q1 rfa, q1 rpl, q1 rst, q1 rnx, q1 rtk, q1 rnm, q1 rnp, q1 rnd]), .inr (3, [q2 2, q1 rlo]), .inl (0, 8, .inl rlg)] ∧ (CL rlg rlo gD) ∧ (0 ≤ a ∧ a ≤ 7) ∧ (∀ (x_rlg : Nat → Int), CL x_rlg rlo (tel 14 a b gv2 gD) → Q none ([.inr (6, [q2 3, q2 4, q2 1, q2 5, q2 6, q2 7, q1 rln, q1 rfa, q1 rpl, q1 rst, q1 rnx, q1 rtk, q1 rnm, q1 rnp, q1 rnd]), .inr (3, [q2 2, q1 rlo]), .inl (0, 8, .inl x_rlg)]))
set_option maxHeartbeats 4000000 in
set_option maxRecDepth 100000 in
theorem m_F6_tellGot (l : Launch) : q_M l yX6_tellGot cX6_tellGot 3 none 0 0 sp_F6_tellGot := by
  refine q_meth (by decide) (fun av w Q h => by obtain ⟨rln, rfa, rpl, rst, rnx, rtk, rnm, rnp, rnd, rlg, rlo, gD, gv2, a, b, rfl, rfl, hC, ha, hQ⟩ := h; exact Nat.le_of_ble_eq_true rfl) ?_
  intro p e R s m args below meth c dC dI k g A av w Q hsp oka okw X
  obtain ⟨rln, rfa, rpl, rst, rnx, rtk, rnm, rnp, rnd, rlg, rlo, gD, gv2, a, b, rfl, rfl, hC, ha, hQ⟩ := hsp
  have o_a : -2147483648 ≤ a ∧ a ≤ 2147483647 := oka _ (List.mem_of_getElem? (i := 1) rfl)
  have o_b : -2147483648 ≤ b ∧ b ≤ 2147483647 := oka _ (List.mem_of_getElem? (i := 2) rfl)
  refine s_mono (s_F6_tellGot_0 X (J := fun _ _ _ _ => False) (fun d => s_cutF)) ?_
  rintro lv st w' ⟨rfl, rfl, rfl⟩
  apply And.intro
  · intro hq_1
    exact hQ _ (by first | exact CL_g hC ha | (exfalso; omega))
  · intro hq_1
    apply And.intro
    · intro hq_7
      exact hQ _ (by first | exact CL_g hC ha | (exfalso; omega))
    · intro hq_7
      apply And.intro
      · exact ⟨by omega, by omega⟩
      exact hQ _ (by first | exact CL_g hC ha | (exfalso; omega))

theorem dF10_add_0 : decode cX10_add 0 = .ok (.aload_n 0, 1) := by decide +kernel
theorem dF10_add_1 : decode cX10_add 1 = .ok (.getfield 30, 3) := by decide +kernel
theorem dF10_add_4 : decode cX10_add 4 = .ok (.bipush 40, 2) := by decide +kernel
theorem dF10_add_6 : decode cX10_add 6 = .ok (.if_icmp .ge 54, 3) := by decide +kernel
theorem dF10_add_9 : decode cX10_add 9 = .ok (.aload_n 0, 1) := by decide +kernel
theorem dF10_add_10 : decode cX10_add 10 = .ok (.getfield 9, 3) := by decide +kernel
theorem dF10_add_13 : decode cX10_add 13 = .ok (.aload_n 0, 1) := by decide +kernel
theorem dF10_add_14 : decode cX10_add 14 = .ok (.getfield 30, 3) := by decide +kernel
theorem dF10_add_17 : decode cX10_add 17 = .ok (.iload_n 1, 1) := by decide +kernel
theorem dF10_add_18 : decode cX10_add 18 = .ok (.iastore, 1) := by decide +kernel
theorem dF10_add_19 : decode cX10_add 19 = .ok (.aload_n 0, 1) := by decide +kernel
theorem dF10_add_20 : decode cX10_add 20 = .ok (.getfield 15, 3) := by decide +kernel
theorem dF10_add_23 : decode cX10_add 23 = .ok (.aload_n 0, 1) := by decide +kernel
theorem dF10_add_24 : decode cX10_add 24 = .ok (.getfield 30, 3) := by decide +kernel
theorem dF10_add_27 : decode cX10_add 27 = .ok (.iload_n 2, 1) := by decide +kernel
theorem dF10_add_28 : decode cX10_add 28 = .ok (.iastore, 1) := by decide +kernel
theorem dF10_add_29 : decode cX10_add 29 = .ok (.aload_n 0, 1) := by decide +kernel
theorem dF10_add_30 : decode cX10_add 30 = .ok (.getfield 18, 3) := by decide +kernel
theorem dF10_add_33 : decode cX10_add 33 = .ok (.aload_n 0, 1) := by decide +kernel
theorem dF10_add_34 : decode cX10_add 34 = .ok (.getfield 30, 3) := by decide +kernel
theorem dF10_add_37 : decode cX10_add 37 = .ok (.iload_n 3, 1) := by decide +kernel
theorem dF10_add_38 : decode cX10_add 38 = .ok (.iastore, 1) := by decide +kernel
theorem dF10_add_39 : decode cX10_add 39 = .ok (.aload_n 0, 1) := by decide +kernel
theorem dF10_add_40 : decode cX10_add 40 = .ok (.getfield 21, 3) := by decide +kernel
theorem dF10_add_43 : decode cX10_add 43 = .ok (.aload_n 0, 1) := by decide +kernel
theorem dF10_add_44 : decode cX10_add 44 = .ok (.getfield 30, 3) := by decide +kernel
theorem dF10_add_47 : decode cX10_add 47 = .ok (.iload 4, 2) := by decide +kernel
theorem dF10_add_49 : decode cX10_add 49 = .ok (.iastore, 1) := by decide +kernel
theorem dF10_add_50 : decode cX10_add 50 = .ok (.aload_n 0, 1) := by decide +kernel
theorem dF10_add_51 : decode cX10_add 51 = .ok (.dup, 1) := by decide +kernel
theorem dF10_add_52 : decode cX10_add 52 = .ok (.getfield 30, 3) := by decide +kernel
theorem dF10_add_55 : decode cX10_add 55 = .ok (.iconst 1, 1) := by decide +kernel
theorem dF10_add_56 : decode cX10_add 56 = .ok (.iadd, 1) := by decide +kernel
theorem dF10_add_57 : decode cX10_add 57 = .ok (.putfield 30, 3) := by decide +kernel
theorem dF10_add_60 : decode cX10_add 60 = .ok (.return_, 1) := by decide +kernel
def is_F10_add : Nat → List Nat := fun d => []
set_option maxRecDepth 100000 in
def b_F10_add_60 (J : Nat → List qV → List qV → qW → Prop) (Q : qR) : qK := x_vret Q
set_option maxRecDepth 100000 in
theorem s_F10_add_60 {p : Program} {l : Launch} {e : Env} {R : Room} {s : State} {m : MethodId} {args : Array Value} {below : List Frame} {meth : Method} {c : Code} {nW : Nat} {dC : Nat → ClassId} {dI : Nat → Nat → Nat} {k : Nat → ClassId} {g : Nat → Nat} {A : Nat → Prop} {J : Nat → List qV → List qV → qW → Prop} {Q : qR} (X : q_X p R s m args meth c cX10_add 5 nW 0 0 RX10 none dC dI k g A) (hJ : ∀ d : Nat, q_Sd p l e R s m args below meth c 5 nW dC dI k g A (MQ below (q_post (dC, dI) k g nW Q A) args s 0 0 A) d (x_cut (is_F10_add d) (J d))) : q_Sd p l e R s m args below meth c 5 nW dC dI k g A (MQ below (q_post (dC, dI) k g nW Q A) args s 0 0 A) 60 (b_F10_add_60 J Q) := by
  unfold b_F10_add_60
  exact s_vret X dF10_add_60
set_option maxRecDepth 100000 in
def b_F10_add_43 (J : Nat → List qV → List qV → qW → Prop) (Q : qR) : qK := x_aload 0 (x_get 10 4 (x_iload 4 (x_iast (x_nw (x_aload 0 (x_dup (x_get 10 4 (x_int 1 (x_iadd (x_put 10 4 q_oki (x_nw (b_F10_add_60 J Q))))))))))))
set_option maxRecDepth 100000 in
theorem s_F10_add_43 {p : Program} {l : Launch} {e : Env} {R : Room} {s : State} {m : MethodId} {args : Array Value} {below : List Frame} {meth : Method} {c : Code} {nW : Nat} {dC : Nat → ClassId} {dI : Nat → Nat → Nat} {k : Nat → ClassId} {g : Nat → Nat} {A : Nat → Prop} {J : Nat → List qV → List qV → qW → Prop} {Q : qR} (X : q_X p R s m args meth c cX10_add 5 nW 0 0 RX10 none dC dI k g A) (hJ : ∀ d : Nat, q_Sd p l e R s m args below meth c 5 nW dC dI k g A (MQ below (q_post (dC, dI) k g nW Q A) args s 0 0 A) d (x_cut (is_F10_add d) (J d))) : q_Sd p l e R s m args below meth c 5 nW dC dI k g A (MQ below (q_post (dC, dI) k g nW Q A) args s 0 0 A) 43 (b_F10_add_43 J Q) := by
  unfold b_F10_add_43
  refine s_aload_n X rfl dF10_add_43 ?_
  refine s_get X (T := TX10) (C := RX10) (N := 5) tu_X10 rfl (by decide) tw_223 dF10_add_44 ?_
  refine s_iload X dF10_add_47 ?_
  refine s_iast X dF10_add_49 ?_
  refine s_nw ?_
  refine s_aload_n X rfl dF10_add_50 ?_
  refine s_dup X dF10_add_51 ?_
  refine s_get X (T := TX10) (C := RX10) (N := 5) tu_X10 rfl (by decide) tw_223 dF10_add_52 ?_
  refine s_iconst X ⟨by decide, by decide⟩ dF10_add_55 ?_
  refine s_iadd X dF10_add_56 ?_
  refine s_put X (T := TX10) (C := RX10) (N := 5) tu_X10 tyX10_ok nmX10 rfl (by decide) tw_223 rfl (by decide +kernel) q_oki_t dF10_add_57 ?_
  refine s_nw ?_
  exact s_F10_add_60 X hJ
set_option maxRecDepth 100000 in
def b_F10_add_0 (J : Nat → List qV → List qV → qW → Prop) (Q : qR) : qK := x_aload 0 (x_get 10 4 (x_int 40 (x_icmp_ge (b_F10_add_60 J Q) (x_aload 0 (x_get 10 0 (x_aload 0 (x_get 10 4 (x_iload 1 (x_iast (x_nw (x_aload 0 (x_get 10 1 (x_aload 0 (x_get 10 4 (x_iload 2 (x_iast (x_nw (x_aload 0 (x_get 10 2 (x_aload 0 (x_get 10 4 (x_iload 3 (x_iast (x_nw (x_aload 0 (x_get 10 3 (b_F10_add_43 J Q)))))))))))))))))))))))))))
set_option maxRecDepth 100000 in
theorem s_F10_add_0 {p : Program} {l : Launch} {e : Env} {R : Room} {s : State} {m : MethodId} {args : Array Value} {below : List Frame} {meth : Method} {c : Code} {nW : Nat} {dC : Nat → ClassId} {dI : Nat → Nat → Nat} {k : Nat → ClassId} {g : Nat → Nat} {A : Nat → Prop} {J : Nat → List qV → List qV → qW → Prop} {Q : qR} (X : q_X p R s m args meth c cX10_add 5 nW 0 0 RX10 none dC dI k g A) (hJ : ∀ d : Nat, q_Sd p l e R s m args below meth c 5 nW dC dI k g A (MQ below (q_post (dC, dI) k g nW Q A) args s 0 0 A) d (x_cut (is_F10_add d) (J d))) : q_Sd p l e R s m args below meth c 5 nW dC dI k g A (MQ below (q_post (dC, dI) k g nW Q A) args s 0 0 A) 0 (b_F10_add_0 J Q) := by
  unfold b_F10_add_0
  refine s_aload_n X rfl dF10_add_0 ?_
  refine s_get X (T := TX10) (C := RX10) (N := 5) tu_X10 rfl (by decide) tw_223 dF10_add_1 ?_
  refine s_bipush X ⟨by decide, by decide⟩ (by decide) dF10_add_4 ?_
  refine s_icmp_ge X (tgt := 60) dF10_add_6 (by decide) ?_ ?_
  · exact s_F10_add_60 X hJ
  · refine s_aload_n X rfl dF10_add_9 ?_
    refine s_get X (T := TX10) (C := RX10) (N := 5) tu_X10 rfl (by decide) tw_215 dF10_add_10 ?_
    refine s_aload_n X rfl dF10_add_13 ?_
    refine s_get X (T := TX10) (C := RX10) (N := 5) tu_X10 rfl (by decide) tw_223 dF10_add_14 ?_
    refine s_iload_n X rfl dF10_add_17 ?_
    refine s_iast X dF10_add_18 ?_
    refine s_nw ?_
    refine s_aload_n X rfl dF10_add_19 ?_
    refine s_get X (T := TX10) (C := RX10) (N := 5) tu_X10 rfl (by decide) tw_217 dF10_add_20 ?_
    refine s_aload_n X rfl dF10_add_23 ?_
    refine s_get X (T := TX10) (C := RX10) (N := 5) tu_X10 rfl (by decide) tw_223 dF10_add_24 ?_
    refine s_iload_n X rfl dF10_add_27 ?_
    refine s_iast X dF10_add_28 ?_
    refine s_nw ?_
    refine s_aload_n X rfl dF10_add_29 ?_
    refine s_get X (T := TX10) (C := RX10) (N := 5) tu_X10 rfl (by decide) tw_219 dF10_add_30 ?_
    refine s_aload_n X rfl dF10_add_33 ?_
    refine s_get X (T := TX10) (C := RX10) (N := 5) tu_X10 rfl (by decide) tw_223 dF10_add_34 ?_
    refine s_iload_n X rfl dF10_add_37 ?_
    refine s_iast X dF10_add_38 ?_
    refine s_nw ?_
    refine s_aload_n X rfl dF10_add_39 ?_
    refine s_get X (T := TX10) (C := RX10) (N := 5) tu_X10 rfl (by decide) tw_221 dF10_add_40 ?_
    exact s_F10_add_43 X hJ

def sp_F10_add : qS := fun av w Q => ∃ (k1 : Nat → Int) (k2 : Nat → Int) (k3 : Nat → Int) (k4 : Nat → Int) (d : Int) (gD : Nat → Int) (gw : Int) (a : Int) (b : Int) (e : Int) (f : Int), av = [q2 0, q1 a, q1 b, q1 e, q1 f] ∧ w = (wYo 0 k1 k2 k3 k4 d) ∧ (CY k1 k2 k3 k4 d gD) ∧ (0 ≤ d ∧ d < 40) ∧ (9 ≤ gw ∧ gw ≤ 13) ∧ (a = gw - 9) ∧ (∀ (g1 : Nat → Int) (g2 : Nat → Int) (g3 : Nat → Int) (g4 : Nat → Int) (t : Int), (CY g1 g2 g3 g4 t (tel gw b e f gD) ∧ (0 ≤ t ∧ t ≤ 40)) → Q none ((wYo 0 g1 g2 g3 g4 t)))
set_option maxHeartbeats 4000000 in
set_option maxRecDepth 100000 in
theorem m_F10_add (l : Launch) : q_M l yX10_add cX10_add 5 none 0 0 sp_F10_add := by
  refine q_meth (by decide) (fun av w Q h => by obtain ⟨k1, k2, k3, k4, d, gD, gw, a, b, e, f, rfl, rfl, hC, hd, hw, hx, hQ⟩ := h; exact Nat.le_of_ble_eq_true rfl) ?_
  intro p e R s m args below meth c dC dI k g A av w Q hsp oka okw X
  obtain ⟨k1, k2, k3, k4, d, gD, gw, a, b, e, f, rfl, rfl, hC, hd, hw, hx, hQ⟩ := hsp
  have o_a : -2147483648 ≤ a ∧ a ≤ 2147483647 := oka _ (List.mem_of_getElem? (i := 1) rfl)
  have o_b : -2147483648 ≤ b ∧ b ≤ 2147483647 := oka _ (List.mem_of_getElem? (i := 2) rfl)
  have o_e : -2147483648 ≤ e ∧ e ≤ 2147483647 := oka _ (List.mem_of_getElem? (i := 3) rfl)
  have o_f : -2147483648 ≤ f ∧ f ≤ 2147483647 := oka _ (List.mem_of_getElem? (i := 4) rfl)
  refine s_mono (s_F10_add_0 X (J := fun _ _ _ _ => False) (fun d => s_cutF)) ?_
  rintro lv st w' ⟨rfl, rfl, rfl⟩
  apply And.intro
  · intro hq_6
    exact hQ _ _ _ _ _ (by first | exact ⟨CY_w hC hd hw hx, by omega, by omega⟩ | (exfalso; omega))
  · intro hq_6
    apply And.intro
    · exact ⟨by omega, by omega⟩
    apply And.intro
    · exact ⟨by omega, by omega⟩
    apply And.intro
    · exact ⟨by omega, by omega⟩
    apply And.intro
    · exact ⟨by omega, by omega⟩
    intro zq_56 hq_56
    replace hq_56 := e_add hq_56 (by omega)
    subst hq_56
    apply And.intro
    · exact trivial
    exact hQ _ _ _ _ _ (by first | exact ⟨CY_w hC hd hw hx, by omega, by omega⟩ | (exfalso; omega))

theorem dF7_add_0 : decode cX7_add 0 = .ok (.aload_n 0, 1) := by decide +kernel
theorem dF7_add_1 : decode cX7_add 1 = .ok (.getfield 24, 3) := by decide +kernel
theorem dF7_add_4 : decode cX7_add 4 = .ok (.bipush 10, 2) := by decide +kernel
theorem dF7_add_6 : decode cX7_add 6 = .ok (.if_icmp .ge 33, 3) := by decide +kernel
theorem dF7_add_9 : decode cX7_add 9 = .ok (.aload_n 0, 1) := by decide +kernel
theorem dF7_add_10 : decode cX7_add 10 = .ok (.getfield 9, 3) := by decide +kernel
theorem dF7_add_13 : decode cX7_add 13 = .ok (.aload_n 0, 1) := by decide +kernel
theorem dF7_add_14 : decode cX7_add 14 = .ok (.getfield 24, 3) := by decide +kernel
theorem dF7_add_17 : decode cX7_add 17 = .ok (.iload_n 1, 1) := by decide +kernel
theorem dF7_add_18 : decode cX7_add 18 = .ok (.iastore, 1) := by decide +kernel
theorem dF7_add_19 : decode cX7_add 19 = .ok (.aload_n 0, 1) := by decide +kernel
theorem dF7_add_20 : decode cX7_add 20 = .ok (.getfield 15, 3) := by decide +kernel
theorem dF7_add_23 : decode cX7_add 23 = .ok (.aload_n 0, 1) := by decide +kernel
theorem dF7_add_24 : decode cX7_add 24 = .ok (.getfield 24, 3) := by decide +kernel
theorem dF7_add_27 : decode cX7_add 27 = .ok (.iload_n 2, 1) := by decide +kernel
theorem dF7_add_28 : decode cX7_add 28 = .ok (.iastore, 1) := by decide +kernel
theorem dF7_add_29 : decode cX7_add 29 = .ok (.aload_n 0, 1) := by decide +kernel
theorem dF7_add_30 : decode cX7_add 30 = .ok (.dup, 1) := by decide +kernel
theorem dF7_add_31 : decode cX7_add 31 = .ok (.getfield 24, 3) := by decide +kernel
theorem dF7_add_34 : decode cX7_add 34 = .ok (.iconst 1, 1) := by decide +kernel
theorem dF7_add_35 : decode cX7_add 35 = .ok (.iadd, 1) := by decide +kernel
theorem dF7_add_36 : decode cX7_add 36 = .ok (.putfield 24, 3) := by decide +kernel
theorem dF7_add_39 : decode cX7_add 39 = .ok (.return_, 1) := by decide +kernel
def is_F7_add : Nat → List Nat := fun d => []
set_option maxRecDepth 100000 in
def b_F7_add_39 (J : Nat → List qV → List qV → qW → Prop) (Q : qR) : qK := x_vret Q
set_option maxRecDepth 100000 in
theorem s_F7_add_39 {p : Program} {l : Launch} {e : Env} {R : Room} {s : State} {m : MethodId} {args : Array Value} {below : List Frame} {meth : Method} {c : Code} {nW : Nat} {dC : Nat → ClassId} {dI : Nat → Nat → Nat} {k : Nat → ClassId} {g : Nat → Nat} {A : Nat → Prop} {J : Nat → List qV → List qV → qW → Prop} {Q : qR} (X : q_X p R s m args meth c cX7_add 3 nW 0 0 RX7 none dC dI k g A) (hJ : ∀ d : Nat, q_Sd p l e R s m args below meth c 3 nW dC dI k g A (MQ below (q_post (dC, dI) k g nW Q A) args s 0 0 A) d (x_cut (is_F7_add d) (J d))) : q_Sd p l e R s m args below meth c 3 nW dC dI k g A (MQ below (q_post (dC, dI) k g nW Q A) args s 0 0 A) 39 (b_F7_add_39 J Q) := by
  unfold b_F7_add_39
  exact s_vret X dF7_add_39
set_option maxRecDepth 100000 in
def b_F7_add_0 (J : Nat → List qV → List qV → qW → Prop) (Q : qR) : qK := x_aload 0 (x_get 7 2 (x_int 10 (x_icmp_ge (b_F7_add_39 J Q) (x_aload 0 (x_get 7 0 (x_aload 0 (x_get 7 2 (x_iload 1 (x_iast (x_nw (x_aload 0 (x_get 7 1 (x_aload 0 (x_get 7 2 (x_iload 2 (x_iast (x_nw (x_aload 0 (x_dup (x_get 7 2 (x_int 1 (x_iadd (x_put 7 2 q_oki (x_nw (b_F7_add_39 J Q)))))))))))))))))))))))))
set_option maxRecDepth 100000 in
theorem s_F7_add_0 {p : Program} {l : Launch} {e : Env} {R : Room} {s : State} {m : MethodId} {args : Array Value} {below : List Frame} {meth : Method} {c : Code} {nW : Nat} {dC : Nat → ClassId} {dI : Nat → Nat → Nat} {k : Nat → ClassId} {g : Nat → Nat} {A : Nat → Prop} {J : Nat → List qV → List qV → qW → Prop} {Q : qR} (X : q_X p R s m args meth c cX7_add 3 nW 0 0 RX7 none dC dI k g A) (hJ : ∀ d : Nat, q_Sd p l e R s m args below meth c 3 nW dC dI k g A (MQ below (q_post (dC, dI) k g nW Q A) args s 0 0 A) d (x_cut (is_F7_add d) (J d))) : q_Sd p l e R s m args below meth c 3 nW dC dI k g A (MQ below (q_post (dC, dI) k g nW Q A) args s 0 0 A) 0 (b_F7_add_0 J Q) := by
  unfold b_F7_add_0
  refine s_aload_n X rfl dF7_add_0 ?_
  refine s_get X (T := TX7) (C := RX7) (N := 3) tu_X7 rfl (by decide) tw_245 dF7_add_1 ?_
  refine s_bipush X ⟨by decide, by decide⟩ (by decide) dF7_add_4 ?_
  refine s_icmp_ge X (tgt := 39) dF7_add_6 (by decide) ?_ ?_
  · exact s_F7_add_39 X hJ
  · refine s_aload_n X rfl dF7_add_9 ?_
    refine s_get X (T := TX7) (C := RX7) (N := 3) tu_X7 rfl (by decide) tw_241 dF7_add_10 ?_
    refine s_aload_n X rfl dF7_add_13 ?_
    refine s_get X (T := TX7) (C := RX7) (N := 3) tu_X7 rfl (by decide) tw_245 dF7_add_14 ?_
    refine s_iload_n X rfl dF7_add_17 ?_
    refine s_iast X dF7_add_18 ?_
    refine s_nw ?_
    refine s_aload_n X rfl dF7_add_19 ?_
    refine s_get X (T := TX7) (C := RX7) (N := 3) tu_X7 rfl (by decide) tw_243 dF7_add_20 ?_
    refine s_aload_n X rfl dF7_add_23 ?_
    refine s_get X (T := TX7) (C := RX7) (N := 3) tu_X7 rfl (by decide) tw_245 dF7_add_24 ?_
    refine s_iload_n X rfl dF7_add_27 ?_
    refine s_iast X dF7_add_28 ?_
    refine s_nw ?_
    refine s_aload_n X rfl dF7_add_29 ?_
    refine s_dup X dF7_add_30 ?_
    refine s_get X (T := TX7) (C := RX7) (N := 3) tu_X7 rfl (by decide) tw_245 dF7_add_31 ?_
    refine s_iconst X ⟨by decide, by decide⟩ dF7_add_34 ?_
    refine s_iadd X dF7_add_35 ?_
    refine s_put X (T := TX7) (C := RX7) (N := 3) tu_X7 tyX7_ok nmX7 rfl (by decide) tw_245 rfl (by decide +kernel) q_oki_t dF7_add_36 ?_
    refine s_nw ?_
    exact s_F7_add_39 X hJ

def sp_F7_add : qS := fun av w Q => ∃ (p1 : Nat → Int) (p2 : Nat → Int) (c1 : Int) (gD : Nat → Int) (gv2 : Int) (a : Int) (b : Int), av = [q2 0, q1 a, q1 b] ∧ w = (wSo 0 p1 p2 c1) ∧ (CS p1 p2 c1 gD) ∧ (0 ≤ c1 ∧ c1 < 10) ∧ (∀ (g1 : Nat → Int) (g2 : Nat → Int) (t : Int), (CS g1 g2 t (tel 16 a b gv2 gD) ∧ (0 ≤ t ∧ t ≤ 10)) → Q none ((wSo 0 g1 g2 t)))
set_option maxHeartbeats 4000000 in
set_option maxRecDepth 100000 in
theorem m_F7_add (l : Launch) : q_M l yX7_add cX7_add 3 none 0 0 sp_F7_add := by
  refine q_meth (by decide) (fun av w Q h => by obtain ⟨p1, p2, c1, gD, gv2, a, b, rfl, rfl, hC, hc, hQ⟩ := h; exact Nat.le_of_ble_eq_true rfl) ?_
  intro p e R s m args below meth c dC dI k g A av w Q hsp oka okw X
  obtain ⟨p1, p2, c1, gD, gv2, a, b, rfl, rfl, hC, hc, hQ⟩ := hsp
  have o_a : -2147483648 ≤ a ∧ a ≤ 2147483647 := oka _ (List.mem_of_getElem? (i := 1) rfl)
  have o_b : -2147483648 ≤ b ∧ b ≤ 2147483647 := oka _ (List.mem_of_getElem? (i := 2) rfl)
  refine s_mono (s_F7_add_0 X (J := fun _ _ _ _ => False) (fun d => s_cutF)) ?_
  rintro lv st w' ⟨rfl, rfl, rfl⟩
  apply And.intro
  · intro hq_6
    exact hQ _ _ _ (by first | exact ⟨CS_w hC hc, by omega, by omega⟩ | (exfalso; omega))
  · intro hq_6
    apply And.intro
    · exact ⟨by omega, by omega⟩
    apply And.intro
    · exact ⟨by omega, by omega⟩
    intro zq_35 hq_35
    replace hq_35 := e_add hq_35 (by omega)
    subst hq_35
    apply And.intro
    · exact trivial
    exact hQ _ _ _ (by first | exact ⟨CS_w hC hc, by omega, by omega⟩ | (exfalso; omega))
