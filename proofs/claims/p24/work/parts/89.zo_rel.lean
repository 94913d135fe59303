def rHtC : (Nat → Nat → Int) → (Nat → Nat → Int) → List qV → Option qV → Prop := fun F U av r => ∃ a b z : Int, av = [q2 0, q1 a, q1 b] ∧ r = some (q1 z) ∧ (RGA F U → rHtc F a b z)
def rlHtC := stV rHtC
theorem rlHtC_z {γ γ' : qG} {av : List qV} {r : Option qV} (h : rlHtC γ av r γ') : ∃ z : Int, r = some (q1 z) := by obtain ⟨-, _, _, z, _, h, _⟩ := h; exact ⟨z, h⟩
def rHtM : (Nat → Nat → Int) → (Nat → Nat → Int) → List qV → Option qV → Prop := fun F U av r => ∃ a b z : Int, av = [q2 85, q1 a, q1 b] ∧ r = some (q1 z) ∧ (RGA F U → rHtm F a b z)
def rlHtM := stV rHtM
theorem rlHtM_z {γ γ' : qG} {av : List qV} {r : Option qV} (h : rlHtM γ av r γ') : ∃ z : Int, r = some (q1 z) := by obtain ⟨-, _, _, z, _, h, _⟩ := h; exact ⟨z, h⟩
theorem RL2Ht {γ γ1 γ2 : qG} {a b a' b' z1 z2 : Int} (ea : a = a') (eb : b = b') (hR : REL2 γ) (h1 : rlHtC γ [q2 0, q1 a, q1 b] (some (q1 z1)) γ1) (h2 : rlHtM γ1 [q2 85, q1 a', q1 b'] (some (q1 z2)) γ2) : REL2 γ2 ∧ z1 = z2 := by
  subst ea eb
  obtain ⟨rfl, _, _, _, d1, r1, h1⟩ := h1
  obtain ⟨rfl, _, _, _, d2, r2, h2⟩ := h2
  cases d1
  cases d2
  cases r1
  cases r2
  have hG := REL2_RG hR
  refine ⟨hR, ?_⟩
  have h1 := h1 hG
  have h2 := h2 hG
  exact bo_eq _ hG h1 h2 (fun D hK z z' h h' => HtA_u h h')
