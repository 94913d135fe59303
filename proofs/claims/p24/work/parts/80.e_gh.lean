/-! ===== what calls change ===== -/
def feC (F U F' U' : Nat → Nat → Int) (a b c d e z : Int) : Prop := ((580 < U 1 0 ∧ z = -1 ∧ U' 1 0 = U 1 0 ∧ F' 2 = F 2) ∨ (U 1 0 ≤ 580 ∧ z = U 1 0 + 20 ∧ U' 1 0 = U 1 0 + 20 ∧ F' 2 = fd5 (F 2) (U 1 0) a b c d e)) ∧ (U' 1 1 = U 1 1 ∧ U' 1 2 = U 1 2) ∧ (∀ p : Nat, ¬ p = 2 → F' p = F p) ∧ (∀ p : Nat, ¬ p = 1 → U' p = U p)
def enC (F U F' U' : Nat → Nat → Int) (a z : Int) : Prop := (((a < 0 ∨ U 1 0 < a) ∧ z = -1 ∧ U' 1 0 = U 1 0) ∨ (0 ≤ a ∧ a ≤ U 1 0 ∧ z = a ∧ U' 1 0 = a)) ∧ (U' 1 1 = U 1 1 ∧ U' 1 2 = U 1 2) ∧ (∀ p : Nat, F' p = F p) ∧ (∀ p : Nat, ¬ p = 1 → U' p = U p)
theorem fu_3 {F : Nat → Nat → Int} {p : Nat} {f g : Nat → Int} (hg : g = F 3) (h : ¬ p = 2) : fu (fu F 2 f) 3 g p = F p := by
  by_cases c : p = 3
  · rw [c, fu_h]; exact hg
  · rw [fu_n c, fu_n h]
theorem feC_of {F U : Nat → Nat → Int} {ln fa pl x_ln x_fa x_pl a b c d e z : Int} {tp ct x_tp x_ct : Nat → Int} (hT : ln = U 1 0 ∧ fa = U 1 1 ∧ pl = U 1 2) (h2 : tp = F 2) (h3 : ct = F 3) (h : ((580 < ln ∧ z = -1 ∧ x_ln = ln ∧ x_tp = tp) ∨ (ln ≤ 580 ∧ z = ln + 20 ∧ x_ln = ln + 20 ∧ x_tp = fd5 tp ln a b c d e)) ∧ x_ct = ct ∧ x_fa = fa ∧ x_pl = pl) : feC F U (fu (fu F 2 x_tp) 3 x_ct) (fu U 1 (vL [x_ln, x_fa, x_pl])) a b c d e z := by
  obtain ⟨rfl, rfl, rfl⟩ := hT
  subst h2
  subst h3
  obtain ⟨h1, rfl, rfl, rfl⟩ := h
  refine ⟨?_, ⟨rfl, rfl⟩, fun p hp => fu_3 rfl hp, fun p hp => fu_n hp⟩
  rcases h1 with ⟨a1, a2, a3, a4⟩ | ⟨a1, a2, a3, a4⟩
  · exact Or.inl ⟨a1, a2, a3, by rw [fu_n (by decide), fu_h]; exact a4⟩
  · exact Or.inr ⟨a1, a2, a3, by rw [fu_n (by decide), fu_h]; exact a4⟩
theorem enC_of {F U : Nat → Nat → Int} {ln fa pl x_ln x_fa x_pl a z : Int} {tp ct x_tp x_ct : Nat → Int} (hT : ln = U 1 0 ∧ fa = U 1 1 ∧ pl = U 1 2) (h2 : tp = F 2) (h3 : ct = F 3) (h : (((a < 0 ∨ ln < a) ∧ z = -1 ∧ x_ln = ln) ∨ (0 ≤ a ∧ a ≤ ln ∧ z = a ∧ x_ln = a)) ∧ x_tp = tp ∧ x_ct = ct ∧ x_fa = fa ∧ x_pl = pl) : enC F U (fu (fu F 2 x_tp) 3 x_ct) (fu U 1 (vL [x_ln, x_fa, x_pl])) a z := by
  obtain ⟨rfl, rfl, rfl⟩ := hT
  subst h2
  subst h3
  obtain ⟨h1, rfl, rfl, rfl, rfl⟩ := h
  refine ⟨h1, ⟨rfl, rfl⟩, fun p => ?_, fun p hp => fu_n hp⟩
  by_cases c : p = 2
  · rw [c, fu_n (by decide), fu_h]
  · exact fu_3 rfl c
/-! the reference: rows at places 86 .. 94, 110; its number are scratch -/
def feM (F U F' U' : Nat → Nat → Int) (a b c d e z : Int) : Prop := ((580 < F 87 0 ∧ z = -1 ∧ F' 87 0 = F 87 0 ∧ F' 86 = F 86) ∨ (F 87 0 ≤ 580 ∧ z = F 87 0 + 20 ∧ F' 87 0 = F 87 0 + 20 ∧ F' 86 = fd5 (F 86) (F 87 0) a b c d e)) ∧ szK (F 87) (F' 87) ∧ (∀ p : Nat, ¬ p = 86 → ¬ p = 87 → F' p = F p) ∧ U' = U
def enM (F U F' U' : Nat → Nat → Int) (a z : Int) : Prop := (((a < 0 ∨ F 87 0 < a) ∧ z = -1 ∧ F' 87 0 = F 87 0) ∨ (0 ≤ a ∧ a ≤ F 87 0 ∧ z = a ∧ F' 87 0 = a)) ∧ szK (F 87) (F' 87) ∧ (∀ p : Nat, ¬ p = 87 → F' p = F p) ∧ U' = U
def txM (F U F' U' : Nat → Nat → Int) (a b z : Int) : Prop := TxM (tc (F 86)) a b z (F 87) (F 88) (F 89) (F 90) (F 91) (F 92) (F 93) (F 94) (F' 87) (F' 88) (F' 89) (F' 90) (F' 91) (F' 92) (F' 93) (F' 94) ∧ (∀ p : Nat, ¬ (87 ≤ p ∧ p ≤ 94) → F' p = F p) ∧ U' = U
def imM (F U F' U' : Nat → Nat → Int) (a z : Int) : Prop := ImM a z (F 110) (F' 110) (F 86) (F 87) (F 88) (F 89) (F 90) (F 91) (F 92) (F 93) (F 94) (F' 86) (F' 87) (F' 88) (F' 89) (F' 90) (F' 91) (F' 92) (F' 93) (F' 94) ∧ (∀ p : Nat, ¬ (86 ≤ p ∧ p ≤ 94) → ¬ p = 110 → F' p = F p) ∧ U' = U
def agM (F U F' U' : Nat → Nat → Int) (a z : Int) : Prop := AgM a z (F 110) (F 86) (F 87) (F 88) (F 89) (F 90) (F 91) (F 92) (F 93) (F 94) (F' 86) (F' 87) (F' 88) (F' 89) (F' 90) (F' 91) (F' 92) (F' 93) (F' 94) ∧ (∀ p : Nat, ¬ (86 ≤ p ∧ p ≤ 94) → F' p = F p) ∧ U' = U
