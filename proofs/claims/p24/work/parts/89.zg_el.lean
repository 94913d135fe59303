/-! ===== elder, the calls of both sides ===== -/
theorem ElI_rw {f : Nat → Int} {B : Nat} {x y p best least : Int} (h : ElI f B x y p best least) : ElI (rwD f B) 0 x y p best least := by
  unfold ElI at h ⊢
  simp only [ScR_rw]
  exact h
def rElC : (Nat → Nat → Int) → (Nat → Nat → Int) → List qV → Option qV → Prop := fun F U av r => ∃ a b c z : Int, av = [q2 0, q1 a, q1 b, q1 c] ∧ r = some (q1 z) ∧ elC F U a b c z
def rlElC := stV rElC
theorem rlElC_z {γ γ' : qG} {av : List qV} {r : Option qV} (h : rlElC γ av r γ') : ∃ z : Int, r = some (q1 z) := by obtain ⟨-, _, _, _, z, _, h, _⟩ := h; exact ⟨z, h⟩
def rElM : (Nat → Nat → Int) → (Nat → Nat → Int) → List qV → Option qV → Prop := fun F U av r => ∃ a b c z : Int, av = [q2 85, q1 a, q1 b, q1 c] ∧ r = some (q1 z) ∧ elM F a b c z
def rlElM := stV rElM
theorem rlElM_z {γ γ' : qG} {av : List qV} {r : Option qV} (h : rlElM γ av r γ') : ∃ z : Int, r = some (q1 z) := by obtain ⟨-, _, _, _, z, _, h, _⟩ := h; exact ⟨z, h⟩
/-- one borough -/
theorem El_one {F U : Nat → Nat → Int} {f : Nat → Int} {u a b c z1 z2 : Int} {D : Nat → Int} (hD : D = rwD (F 91) (75 * a).toNat) (ha : 0 ≤ a) (hB : BOK D) (hf : ∀ i : Nat, i < 8 → f i = D (13 + i)) (hu : u = D 0) (h1 : ElX f u b c z1) (h2 : ElM (F 91) a b c z2) : z1 = z2 := by
  have e0 : ofR (F 91) a 0 = D 0 := by rw [hD]; exact of_D (j := 0) rfl rfl rfl ha
  obtain ⟨h8, h2⟩ := h2
  rw [e0] at h8 h2
  rcases h1 with ⟨⟨p1, p2⟩, h1⟩ | ⟨p, e1⟩
  · rcases h2 with ⟨⟨q1, q2⟩, l, h2⟩ | ⟨q, e2⟩
    · have h3 := ElI_rw h2
      rw [show 75 * a.toNat = (75 * a).toNat by omega, ← hD] at h3
      exact El_eq hB hf hu h8.2 q1 q2 h1 h3
    · exact absurd ⟨⟨p1.1, by have := p1.2.1; omega⟩, p2.1, by have := p2.2.1; omega⟩ q
  · rcases h2 with ⟨⟨q1, q2⟩, l, h2⟩ | ⟨q, e2⟩
    · exact absurd ⟨⟨q1.1, by omega, by omega⟩, q2.1, by omega, by omega⟩ p
    · rw [e1, e2]
theorem RL2El {γ γ1 γ2 : qG} {a b c a' b' c' z1 z2 : Int} (ha : a = a') (hb : b = b') (hc : c = c') (hR : REL2 γ) (h1 : rlElC γ [q2 0, q1 a, q1 b, q1 c] (some (q1 z1)) γ1) (h2 : rlElM γ1 [q2 85, q1 a', q1 b', q1 c'] (some (q1 z2)) γ2) : REL2 γ2 ∧ z1 = z2 := by
  subst ha hb hc
  obtain ⟨rfl, _, _, _, _, d1, r1, h1⟩ := h1
  obtain ⟨rfl, _, _, _, _, d2, r2, h2⟩ := h2
  cases d1
  cases d2
  cases r1
  cases r2
  refine ⟨hR, ?_⟩
  obtain ⟨⟨-, -, xc⟩, kB, -, -, -⟩ := id hR.1.1
  have x0 : γ2.1 3 0 = γ2.1 90 0 := xc 0 (by decide)
  have kk : ∀ k : Nat, k < 2 → (k : Int) < γ2.1 90 0 → CBp γ2.1 γ2.2.1 (1 + 7 + 8 * k) (rowD γ2.1 91 (2 * 75 * 0 + 75 * k)) := kB
  have ok : ∀ k : Nat, k < 2 → (k : Int) < γ2.1 90 0 → OKD 0 75 (rowD γ2.1 91 (2 * 75 * 0 + 75 * k)) := (hR.2 0 (by decide)).2.1
  rcases h1 with ⟨p1, h1⟩ | ⟨p1, e1⟩ <;> rcases h2 with ⟨p2, h2⟩ | ⟨p2, e2⟩
  · rcases h1 with ⟨rfl, h1⟩ | ⟨rfl, h1⟩
    · have hC : CBp γ2.1 γ2.2.1 8 (rwD (γ2.1 91) (75 * (0 : Int)).toNat) := kk 0 (by decide) (by have := p2.2; omega)
      have hO : OKD 0 75 (rwD (γ2.1 91) (75 * (0 : Int)).toNat) := ok 0 (by decide) (by have := p2.2; omega)
      obtain ⟨hu, e1, e2, -⟩ := hC
      have h8 : rwD (γ2.1 91) (75 * (0 : Int)).toNat 0 ≤ 8 := by have := h2.1.2; rwa [show ofR (γ2.1 91) 0 0 = rwD (γ2.1 91) (75 * (0 : Int)).toNat 0 from of_D (j := 0) rfl rfl rfl (by decide)] at this
      exact El_one (U := γ2.2.1) rfl (by decide) (OKD_B hO h8) e2 hu.1 h1 h2
    · have hC : CBp γ2.1 γ2.2.1 16 (rwD (γ2.1 91) (75 * (1 : Int)).toNat) := kk 1 (by decide) (by have := p2.2; omega)
      have hO : OKD 0 75 (rwD (γ2.1 91) (75 * (1 : Int)).toNat) := ok 1 (by decide) (by have := p2.2; omega)
      obtain ⟨hu, e1, e2, -⟩ := hC
      have h8 : rwD (γ2.1 91) (75 * (1 : Int)).toNat 0 ≤ 8 := by have := h2.1.2; rwa [show ofR (γ2.1 91) 1 0 = rwD (γ2.1 91) (75 * (1 : Int)).toNat 0 from of_D (j := 0) rfl rfl rfl (by decide)] at this
      exact El_one (U := γ2.2.1) rfl (by decide) (OKD_B hO h8) e2 hu.1 h1 h2
  · exact absurd ⟨p1.1, by rw [← x0]; exact p1.2⟩ p2
  · exact absurd ⟨p2.1, by rw [x0]; exact p2.2⟩ p1
  · rw [e1, e2]
