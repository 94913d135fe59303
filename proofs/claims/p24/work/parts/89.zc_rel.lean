/-! ===== borough, deed, fact: both sides alike ===== -/
def rBoC : (Nat → Nat → Int) → (Nat → Nat → Int) → List qV → Option qV → Prop := fun F U av r => ∃ a b z : Int, av = [q2 0, q1 a, q1 b] ∧ r = some (q1 z) ∧ boC F U a b z
def rlBoC := stV rBoC
theorem rlBoC_z {γ γ' : qG} {av : List qV} {r : Option qV} (h : rlBoC γ av r γ') : ∃ z : Int, r = some (q1 z) := by obtain ⟨-, _, _, z, _, h, _⟩ := h; exact ⟨z, h⟩
def rBoM : (Nat → Nat → Int) → (Nat → Nat → Int) → List qV → Option qV → Prop := fun F U av r => ∃ a b z : Int, av = [q2 85, q1 a, q1 b] ∧ r = some (q1 z) ∧ boM F a b z
def rlBoM := stV rBoM
theorem rlBoM_z {γ γ' : qG} {av : List qV} {r : Option qV} (h : rlBoM γ av r γ') : ∃ z : Int, r = some (q1 z) := by obtain ⟨-, _, _, z, _, h, _⟩ := h; exact ⟨z, h⟩
def rDeC : (Nat → Nat → Int) → (Nat → Nat → Int) → List qV → Option qV → Prop := fun F U av r => ∃ a b c z : Int, av = [q2 0, q1 a, q1 b, q1 c] ∧ r = some (q1 z) ∧ deC F U a b c z
def rlDeC := stV rDeC
theorem rlDeC_z {γ γ' : qG} {av : List qV} {r : Option qV} (h : rlDeC γ av r γ') : ∃ z : Int, r = some (q1 z) := by obtain ⟨-, _, _, _, z, _, h, _⟩ := h; exact ⟨z, h⟩
def rDeM : (Nat → Nat → Int) → (Nat → Nat → Int) → List qV → Option qV → Prop := fun F U av r => ∃ a b c z : Int, av = [q2 85, q1 a, q1 b, q1 c] ∧ r = some (q1 z) ∧ deM F a b c z
def rlDeM := stV rDeM
theorem rlDeM_z {γ γ' : qG} {av : List qV} {r : Option qV} (h : rlDeM γ av r γ') : ∃ z : Int, r = some (q1 z) := by obtain ⟨-, _, _, _, z, _, h, _⟩ := h; exact ⟨z, h⟩
def rFtC : (Nat → Nat → Int) → (Nat → Nat → Int) → List qV → Option qV → Prop := fun F U av r => ∃ a b c z : Int, av = [q2 0, q1 a, q1 b, q1 c] ∧ r = some (q1 z) ∧ ftC F U a b c z
def rlFtC := stV rFtC
theorem rlFtC_z {γ γ' : qG} {av : List qV} {r : Option qV} (h : rlFtC γ av r γ') : ∃ z : Int, r = some (q1 z) := by obtain ⟨-, _, _, _, z, _, h, _⟩ := h; exact ⟨z, h⟩
def rFtM : (Nat → Nat → Int) → (Nat → Nat → Int) → List qV → Option qV → Prop := fun F U av r => ∃ a b c z : Int, av = [q2 85, q1 a, q1 b, q1 c] ∧ r = some (q1 z) ∧ ftM F a b c z
def rlFtM := stV rFtM
theorem rlFtM_z {γ γ' : qG} {av : List qV} {r : Option qV} (h : rlFtM γ av r γ') : ∃ z : Int, r = some (q1 z) := by obtain ⟨-, _, _, _, z, _, h, _⟩ := h; exact ⟨z, h⟩
theorem RLBo {γ γ1 γ2 : qG} {a b a' b' z1 z2 : Int} (ha : a = a') (hb : b = b') (hR : REL γ) (h1 : rlBoC γ [q2 0, q1 a, q1 b] (some (q1 z1)) γ1) (h2 : rlBoM γ1 [q2 85, q1 a', q1 b'] (some (q1 z2)) γ2) : REL γ2 ∧ z1 = z2 := by
  subst ha hb
  obtain ⟨rfl, _, _, _, d1, r1, h1⟩ := h1
  obtain ⟨rfl, _, _, _, d2, r2, h2⟩ := h2
  cases d1
  cases d2
  cases r1
  cases r2
  refine ⟨hR, ?_⟩
  obtain ⟨⟨-, -, xc⟩, kB, kY, kL, kS⟩ := id hR.1
  have x0 : γ2.1 3 0 = γ2.1 90 0 := xc 0 (by decide)
  have kk : ∀ k : Nat, k < 2 → (k : Int) < γ2.1 90 0 → CBp γ2.1 γ2.2.1 (1 + 7 + 8 * k) (rowD γ2.1 91 (2 * 75 * 0 + 75 * k)) := kB
  rcases h1 with ⟨p1, h1⟩ | ⟨p1, e1⟩ <;> rcases h2 with ⟨p2, h2⟩ | ⟨p2, e2⟩
  · rcases h1 with ⟨rfl, h1⟩ | ⟨rfl, h1⟩
    · have hC : CBp γ2.1 γ2.2.1 8 (rwD (γ2.1 91) (75 * (0 : Int)).toNat) := kk 0 (by decide) (by have := p2.2; omega)
      obtain ⟨hu, e1, e2, e3, e4, e5, e6, e7⟩ := hC
      exact BoR_e h1 h2 hu e1 e2 e3 e4 e5 e6 e7
    · have hC : CBp γ2.1 γ2.2.1 16 (rwD (γ2.1 91) (75 * (1 : Int)).toNat) := kk 1 (by decide) (by have := p2.2; omega)
      obtain ⟨hu, e1, e2, e3, e4, e5, e6, e7⟩ := hC
      exact BoR_e h1 h2 hu e1 e2 e3 e4 e5 e6 e7
  · exact absurd ⟨p1.1, by rw [← x0]; exact p1.2⟩ p2
  · exact absurd ⟨p2.1, by rw [x0]; exact p2.2⟩ p1
  · rw [e1, e2]
theorem RLDe {γ γ1 γ2 : qG} {a b c a' b' c' z1 z2 : Int} (ha : a = a') (hb : b = b') (hc : c = c') (hR : REL γ) (h1 : rlDeC γ [q2 0, q1 a, q1 b, q1 c] (some (q1 z1)) γ1) (h2 : rlDeM γ1 [q2 85, q1 a', q1 b', q1 c'] (some (q1 z2)) γ2) : REL γ2 ∧ z1 = z2 := by
  subst ha hb hc
  obtain ⟨rfl, _, _, _, _, d1, r1, h1⟩ := h1
  obtain ⟨rfl, _, _, _, _, d2, r2, h2⟩ := h2
  cases d1
  cases d2
  cases r1
  cases r2
  refine ⟨hR, ?_⟩
  obtain ⟨⟨-, -, xc⟩, kB, kY, kL, kS⟩ := id hR.1
  have x0 : γ2.1 3 1 = γ2.1 90 1 := xc 1 (by decide)
  have kk : ∀ k : Nat, k < 2 → (k : Int) < γ2.1 90 1 → CYp γ2.1 γ2.2.1 (1 + 23 + 5 * k) (rowD γ2.1 92 (2 * 161 * 0 + 161 * k)) := kY
  rcases h1 with ⟨p1, h1⟩ | ⟨p1, e1⟩ <;> rcases h2 with ⟨p2, h2⟩ | ⟨p2, e2⟩
  · rcases h1 with ⟨rfl, h1⟩ | ⟨rfl, h1⟩
    · have hC : CYp γ2.1 γ2.2.1 24 (rwD (γ2.1 92) (161 * (0 : Int)).toNat) := kk 0 (by decide) (by have := p2.2; omega)
      obtain ⟨⟨hu, he⟩, -⟩ := hC
      exact DeR_e h1 h2 hu (fun i hi => he i (by rw [← hu]; exact hi))
    · have hC : CYp γ2.1 γ2.2.1 29 (rwD (γ2.1 92) (161 * (1 : Int)).toNat) := kk 1 (by decide) (by have := p2.2; omega)
      obtain ⟨⟨hu, he⟩, -⟩ := hC
      exact DeR_e h1 h2 hu (fun i hi => he i (by rw [← hu]; exact hi))
  · exact absurd ⟨p1.1, by rw [← x0]; exact p1.2⟩ p2
  · exact absurd ⟨p2.1, by rw [x0]; exact p2.2⟩ p1
  · rw [e1, e2]
theorem RLFt {γ γ1 γ2 : qG} {a b c a' b' c' z1 z2 : Int} (ha : a = a') (hb : b = b') (hc : c = c') (hR : REL γ) (h1 : rlFtC γ [q2 0, q1 a, q1 b, q1 c] (some (q1 z1)) γ1) (h2 : rlFtM γ1 [q2 85, q1 a', q1 b', q1 c'] (some (q1 z2)) γ2) : REL γ2 ∧ z1 = z2 := by
  subst ha hb hc
  obtain ⟨rfl, _, _, _, _, d1, r1, h1⟩ := h1
  obtain ⟨rfl, _, _, _, _, d2, r2, h2⟩ := h2
  cases d1
  cases d2
  cases r1
  cases r2
  refine ⟨hR, ?_⟩
  obtain ⟨⟨-, -, xc⟩, kB, kY, kL, kS⟩ := id hR.1
  have x0 : γ2.1 3 3 = γ2.1 90 3 := xc 3 (by decide)
  have kk : ∀ k : Nat, k < 2 → (k : Int) < γ2.1 90 3 → CSp γ2.1 γ2.2.1 (1 + 37 + 3 * k) (rowD γ2.1 94 (2 * 21 * 0 + 21 * k)) := kS
  rcases h1 with ⟨p1, h1⟩ | ⟨p1, e1⟩ <;> rcases h2 with ⟨p2, h2⟩ | ⟨p2, e2⟩
  · rcases h1 with ⟨rfl, h1⟩ | ⟨rfl, h1⟩
    · have hC : CSp γ2.1 γ2.2.1 38 (rwD (γ2.1 94) (21 * (0 : Int)).toNat) := kk 0 (by decide) (by have := p2.2; omega)
      obtain ⟨⟨hu, he⟩, -⟩ := hC
      exact FtR_e h1 h2 hu (fun i hi => he i (by rw [← hu]; exact hi))
    · have hC : CSp γ2.1 γ2.2.1 41 (rwD (γ2.1 94) (21 * (1 : Int)).toNat) := kk 1 (by decide) (by have := p2.2; omega)
      obtain ⟨⟨hu, he⟩, -⟩ := hC
      exact FtR_e h1 h2 hu (fun i hi => he i (by rw [← hu]; exact hi))
  · exact absurd ⟨p1.1, by rw [← x0]; exact p1.2⟩ p2
  · exact absurd ⟨p2.1, by rw [x0]; exact p2.2⟩ p1
  · rw [e1, e2]
