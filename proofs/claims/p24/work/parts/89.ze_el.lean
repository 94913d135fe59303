/-! ===== elder: both sides alike ===== -/
theorem pch_rwD {f : Nat → Int} {B : Nat} : pch (rwD f B) 0 = pch f B := by
  funext n
  induction n with
  | zero => rfl
  | succ n ih =>
    funext o
    show (if pch (rwD f B) 0 n o = -1 then -1 else rwD f B (0 + 13 + (pch (rwD f B) 0 n o).toNat)) = (if pch f B n o = -1 then -1 else f (B + 13 + (pch f B n o).toNat))
    rw [ih]
    unfold rwD
    rw [show B + (0 + 13 + (pch f B n o).toNat) = B + 13 + (pch f B n o).toNat by omega]
theorem ScR_rw {f : Nat → Int} {B : Nat} {a t r : Int} : ScR (rwD f B) 0 a t r ↔ ScR f B a t r := by
  unfold ScR
  rw [pch_rwD]
theorem pch_add {f : Nat → Int} {b m : Nat} {a : Int} : ∀ k : Nat, pch f b (m + k) a = pch f b k (pch f b m a) := by
  intro k
  induction k with
  | zero => rfl
  | succ k ih =>
    show (if pch f b (m + k) a = -1 then -1 else f (b + 13 + (pch f b (m + k) a).toNat)) = (if pch f b k (pch f b m a) = -1 then -1 else f (b + 13 + (pch f b k (pch f b m a)).toNat))
    rw [ih]
theorem pch_inj {f : Nat → Int} {b i j : Nat} {a : Int} (h8 : pch f b 8 a = -1) (hi : ¬ pch f b i a = -1) (he : pch f b i a = pch f b j a) : i = j := by
  have key : ∀ (p q : Nat), p < q → pch f b p a = pch f b q a → pch f b p a = -1 := by
    intro p q hpq e
    obtain ⟨d, rfl⟩ : ∃ d, q = p + d := ⟨q - p, by omega⟩
    rw [pch_add] at e
    have hk : ∀ k : Nat, pch f b (d * k) (pch f b p a) = pch f b p a := by
      intro k
      induction k with
      | zero => rfl
      | succ k ih => rw [Nat.mul_succ, pch_add, ih]; exact e.symm
    have h9 : pch f b (p + d * 8) a = -1 := pch_le h8 (by omega)
    rw [pch_add, hk 8] at h9
    exact h9
  rcases (show i < j ∨ i = j ∨ j < i by omega) with h | h | h
  · exact absurd (key i j h he) hi
  · exact h
  · exact absurd (he.trans (key j i h he.symm)) hi
/-- the first step that comes to t -/
theorem ScR_ex {f : Nat → Int} {b n : Nat} {a t : Int} (h8 : pch f b 8 a = -1) (ht : 0 ≤ t) (h : pch f b n a = t) : ScR f b a t n := by
  have hn : n ≤ 7 := by
    by_cases c : n ≤ 7
    · exact c
    · have h9 : pch f b n a = -1 := pch_le h8 (by omega)
      omega
  refine Or.inl ⟨by omega, h, fun j hj e => ?_⟩
  have := pch_inj (i := j) (j := n) h8 (by rw [e]; omega) (e.trans h.symm)
  omega
theorem bk_E {D f : Nat → Int} {u : Int} (hB : BOK D) (hf : ∀ i : Nat, i < 8 → f i = D (13 + i)) (hu : u = D 0) (h8 : D 0 ≤ 8) {a : Int} (ha : -1 ≤ a ∧ a ≤ 7) (j : Nat) : pch (g2 f) 0 j a = pch D 0 j a := by
  refine pch_eq (f := D) (g := g2 f) (b := 0) (c := 0) (fun i hi => ?_) (fun i hi => ?_) ha j
  · have := hB.2.1 i hi
    rw [show 0 + 13 + i = 13 + i by omega]; omega
  · show f (0 + 13 + i - 13) = D (0 + 13 + i)
    rw [show 0 + 13 + i - 13 = i by omega, show 0 + 13 + i = 13 + i by omega]; exact hf i hi
theorem bk_R {D f : Nat → Int} {u : Int} (hB : BOK D) (hf : ∀ i : Nat, i < 8 → f i = D (13 + i)) (hu : u = D 0) (h8 : D 0 ≤ 8) {a : Int} (ha : 0 ≤ a ∧ a < D 0) : ∀ j : Nat, pch D 0 j a = -1 ∨ (0 ≤ pch D 0 j a ∧ pch D 0 j a < D 0) := by
  intro j
  induction j with
  | zero => exact Or.inr ha
  | succ j ih =>
    rcases ih with h | h
    · exact Or.inl (pch_le h (by omega))
    · rw [pch_s (by omega)]
      have := hB.2.1 (pch D 0 j a).toNat (by omega)
      rw [show 0 + 13 + (pch D 0 j a).toNat = 13 + (pch D 0 j a).toNat by omega]
      omega
theorem bk_8 {D f : Nat → Int} {u : Int} (hB : BOK D) (hf : ∀ i : Nat, i < 8 → f i = D (13 + i)) (hu : u = D 0) (h8 : D 0 ≤ 8) {a : Int} (ha : 0 ≤ a ∧ a < D 0) : pch D 0 8 a = -1 := by
  have := hB.2.2 a.toNat (by omega)
  rw [show ((a.toNat : Nat) : Int) = a by omega] at this
  exact this
theorem bk_L {D f : Nat → Int} {u : Int} (hB : BOK D) (hf : ∀ i : Nat, i < 8 → f i = D (13 + i)) (hu : u = D 0) (h8 : D 0 ≤ 8) {a : Int} (ha : 0 ≤ a ∧ a < D 0) : pch D 0 (D 0).toNat a = -1 := by
  by_cases c : pch D 0 (D 0).toNat a = -1
  · exact c
  · exfalso
    obtain ⟨i, j, h1, h2, h3⟩ := pgh (D 0).toNat (fun j => (pch D 0 j a).toNat) (fun i hi => by
      have hn : ¬ pch D 0 i a = -1 := fun h9 => c (pch_le h9 hi)
      have := bk_R hB hf hu h8 ha i
      show (pch D 0 i a).toNat < (D 0).toNat
      omega)
    have hi : ¬ pch D 0 i a = -1 := fun h9 => c (pch_le h9 (by omega))
    have hj : ¬ pch D 0 j a = -1 := fun h9 => c (pch_le h9 (by omega))
    have ri := bk_R hB hf hu h8 ha i
    have rj := bk_R hB hf hu h8 ha j
    have h3 : (pch D 0 i a).toNat = (pch D 0 j a).toNat := h3
    have := pch_inj (i := i) (j := j) (bk_8 hB hf hu h8 ha) hi (by omega)
    omega
/-- where the class stops, the way up has ended -/
theorem bk_end {D f : Nat → Int} {u : Int} (hB : BOK D) (hf : ∀ i : Nat, i < 8 → f i = D (13 + i)) (hu : u = D 0) (h8 : D 0 ≤ 8) {a : Int} (ha : 0 ≤ a ∧ a < D 0) {m : Nat} (h : (m : Int) = u ∨ ¬ isP u (pch (g2 f) 0 m a)) : pch D 0 m a = -1 := by
  rcases h with h | h
  · have := bk_L hB hf hu h8 ha
    rw [show (D 0).toNat = m by omega] at this
    exact this
  · rw [bk_E hB hf hu h8 (by omega)] at h
    rcases bk_R hB hf hu h8 ha m with h9 | h9
    · exact h9
    · exact absurd ⟨h9.1, by omega, by omega⟩ h
theorem Sc_cv {D f : Nat → Int} {u : Int} (hB : BOK D) (hf : ∀ i : Nat, i < 8 → f i = D (13 + i)) (hu : u = D 0) (h8 : D 0 ≤ 8) {a t r : Int} (ha : 0 ≤ a ∧ a < D 0) (ht : 0 ≤ t) (h : ScC f u a t r) : ScR D 0 a t r := by
  rcases h with ⟨h1, h2, h3, h4⟩ | ⟨h1, m, h2, h3⟩
  · refine Or.inl ⟨by omega, by rw [← bk_E hB hf hu h8 (by omega)]; exact h2, fun j hj => ?_⟩
    rw [← bk_E hB hf hu h8 (by omega)]; exact (h4 j hj).2
  · refine Or.inr ⟨h1, fun j => ?_⟩
    by_cases c : j < m
    · rw [← bk_E hB hf hu h8 (by omega)]; exact (h2 j c).2
    · rw [pch_le (bk_end hB hf hu h8 ha h3) (by omega)]; omega
theorem El_eq {D f : Nat → Int} {u : Int} (hB : BOK D) (hf : ∀ i : Nat, i < 8 → f i = D (13 + i)) (hu : u = D 0) (h8 : D 0 ≤ 8) {x y r1 r2 l : Int} (hx : 0 ≤ x ∧ x < D 0) (hy : 0 ≤ y ∧ y < D 0) (h1 : CfC f u x y r1) (h2 : ElI D 0 x y (D 0) r2 l) : r1 = r2 := by
  have x8 := bk_8 hB hf hu h8 hx
  have y8 := bk_8 hB hf hu h8 hy
  have E : ∀ j : Nat, pch (g2 f) 0 j x = pch D 0 j x := fun j => bk_E hB hf hu h8 (by omega) j
  rcases h1 with ⟨n, e1, p1, ⟨q, hq, s1⟩, a1⟩ | ⟨e1, m, a1, b1⟩
  · have s1 := Sc_cv hB hf hu h8 hy p1.1 s1
    have s2 := ScR_ex (n := n) x8 p1.1 (by rw [← E]; exact e1.symm)
    rcases h2 with ⟨-, -, c1⟩ | ⟨c0, c1, i, j, c2, c3, c4, c5, c6⟩
    · have := c1 r1 _ _ p1.1 (by have := p1.2.1; omega) s2 s1
      omega
    · have k1 := c6 r1 _ _ p1.1 (by have := p1.2.1; omega) s2 s1
      have hq0 := ScR_rg s1
      rcases c2 with ⟨d1, d2, -⟩ | ⟨d1, -⟩
      · by_cases g1 : i.toNat < n
        · exfalso
          have h9 := (a1 i.toNat g1).2
          rw [E, d2] at h9
          have := ScR_u (Sc_cv hB hf hu h8 hy c0 h9) c3
          omega
        · have hXn : pch D 0 n x = r1 := by rw [← E]; exact e1.symm
          have d3 : pch D 0 (i.toNat - n) r1 = r2 := by
            rw [← hXn, ← pch_add, show n + (i.toNat - n) = i.toNat by omega]; exact d2
          rcases s1 with ⟨f1, f2, -⟩ | ⟨f1, -⟩
          · have d4 : pch D 0 (q.toNat + (i.toNat - n)) y = r2 := by rw [pch_add, f2]; exact d3
            have d5 := ScR_u (ScR_ex y8 c0 d4) c3
            have : i.toNat = n := by omega
            rw [this] at d2
            rw [← hXn]; exact d2
          · exact absurd f1 hq
      · omega
  · have hend := bk_end hB hf hu h8 hx b1
    rcases h2 with ⟨c1, -⟩ | ⟨c0, c1, i, j, c2, c3, c4, c5, c6⟩
    · omega
    · exfalso
      rcases c2 with ⟨d1, d2, -⟩ | ⟨d1, -⟩
      · by_cases g1 : i.toNat < m
        · have h9 := (a1 i.toNat g1).2
          rw [E, d2] at h9
          have := ScR_u (Sc_cv hB hf hu h8 hy c0 h9) c3
          omega
        · rw [pch_le hend (by omega)] at d2
          omega
      · omega
