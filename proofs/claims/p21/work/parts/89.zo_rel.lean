def rFmC : (Nat → Nat → Int) → (Nat → Nat → Int) → List qV → Option qV → Prop := fun F U av r => ∃ a b c z : Int, av = [q2 0, q1 a, q1 b, q1 c] ∧ r = some (q1 z) ∧ (RGA F U → rFmc F a b c z)
def rlFmC := stV rFmC
theorem rlFmC_z {γ γ' : qG} {av : List qV} {r : Option qV} (h : rlFmC γ av r γ') : ∃ z : Int, r = some (q1 z) := by obtain ⟨-, _, _, _, z, _, h, _⟩ := h; exact ⟨z, h⟩
def rFmM : (Nat → Nat → Int) → (Nat → Nat → Int) → List qV → Option qV → Prop := fun F U av r => ∃ a b c z : Int, av = [q2 85, q1 a, q1 b, q1 c] ∧ r = some (q1 z) ∧ (RGA F U → rFmm F a b c z)
def rlFmM := stV rFmM
theorem rlFmM_z {γ γ' : qG} {av : List qV} {r : Option qV} (h : rlFmM γ av r γ') : ∃ z : Int, r = some (q1 z) := by obtain ⟨-, _, _, _, z, _, h, _⟩ := h; exact ⟨z, h⟩
theorem RL2Fm {γ γ1 γ2 : qG} {a b c a' b' c' z1 z2 : Int} (ea : a = a') (eb : b = b') (ec : c = c') (hR : REL2 γ) (h1 : rlFmC γ [q2 0, q1 a, q1 b, q1 c] (some (q1 z1)) γ1) (h2 : rlFmM γ1 [q2 85, q1 a', q1 b', q1 c'] (some (q1 z2)) γ2) : REL2 γ2 ∧ z1 = z2 := by
  subst ea eb ec
  obtain ⟨rfl, _, _, _, _, d1, r1, h1⟩ := h1
  obtain ⟨rfl, _, _, _, _, d2, r2, h2⟩ := h2
  cases d1
  cases d2
  cases r1
  cases r2
  have hG := REL2_RG hR
  refine ⟨hR, ?_⟩
  have h1 := h1 hG
  have h2 := h2 hG
  exact bo_eq _ hG h1 h2 (fun D hK z z' h h' => FmA_u _ _ z z' h h')
