/-! what the two sides have in common: the tape's length, the images' lengths, which images are there -/
def imE (γ : qG) (j : Nat) : Prop := (γ.2.2.2.2 j = none ∧ γ.2.2.1 j = 0) ∨ ∃ q : Nat, γ.2.2.2.2 j = some (111 + 43 * q) ∧ ¬ γ.2.2.1 j = 0 ∧ γ.2.2.2.1 q = γ.2.1 (j + 1)
def imD (γ : qG) (i j : Nat) : Prop := γ.2.2.2.2 i = none ∨ ¬ γ.2.2.2.2 i = γ.2.2.2.2 j
def REL (γ : qG) : Prop := γ.1 = γ.2.1 0 ∧ (imE γ 0 ∧ imE γ 1 ∧ imE γ 2) ∧ (imD γ 0 1 ∧ imD γ 0 2 ∧ imD γ 1 0 ∧ imD γ 1 2 ∧ imD γ 2 0 ∧ imD γ 2 1)
theorem REL_0 {γ : qG} (h : REL γ) : γ.1 = γ.2.1 0 := h.1
theorem REL_E {γ : qG} (h : REL γ) {j : Nat} (hj : j < 3) : imE γ j := by
  rcases (show j = 0 ∨ j = 1 ∨ j = 2 by omega) with rfl | rfl | rfl
  · exact h.2.1.1
  · exact h.2.1.2.1
  · exact h.2.1.2.2
theorem REL_D {γ : qG} (h : REL γ) {i j : Nat} (hi : i < 3) (hj : j < 3) (hn : ¬ i = j) : imD γ i j := by
  obtain ⟨d1, d2, d3, d4, d5, d6⟩ := h.2.2
  rcases (show i = 0 ∨ i = 1 ∨ i = 2 by omega) with rfl | rfl | rfl <;> rcases (show j = 0 ∨ j = 1 ∨ j = 2 by omega) with rfl | rfl | rfl
  · exact absurd rfl hn
  · exact d1
  · exact d2
  · exact d3
  · exact absurd rfl hn
  · exact d4
  · exact d5
  · exact d6
  · exact absurd rfl hn
theorem REL_of {γ : qG} (h0 : γ.1 = γ.2.1 0) (hE : ∀ j : Nat, j < 3 → imE γ j) (hD : ∀ i j : Nat, i < 3 → j < 3 → ¬ i = j → imD γ i j) : REL γ := ⟨h0, ⟨hE 0 (by omega), hE 1 (by omega), hE 2 (by omega)⟩, ⟨hD 0 1 (by omega) (by omega) (by omega), hD 0 2 (by omega) (by omega) (by omega), hD 1 0 (by omega) (by omega) (by omega), hD 1 2 (by omega) (by omega) (by omega), hD 2 0 (by omega) (by omega) (by omega), hD 2 1 (by omega) (by omega) (by omega)⟩⟩
/-- the tape's length and the reference's row of lengths change together, behind the first -/
theorem REL_sz {γ : qG} {ln : Int} {siz : Nat → Int} (h : REL γ) (hz : szK γ.2.1 siz) (h0 : ln = siz 0) : REL (ln, siz, γ.2.2.1, γ.2.2.2.1, γ.2.2.2.2) := by
  refine REL_of h0 (fun j hj => ?_) (fun i j hi hj hn => REL_D h hi hj hn)
  rcases REL_E h hj with ⟨a, b⟩ | ⟨q, a, b, c⟩
  · exact Or.inl ⟨a, b⟩
  · exact Or.inr ⟨q, a, b, by show γ.2.2.2.1 q = siz (j + 1); rw [hz (j + 1) (by omega)]; exact c⟩
def rlFeC (γ : qG) (_ : List qV) (r : Option qV) (γ' : qG) : Prop := ∃ z ln' : Int, r = some (q1 z) ∧ γ' = (ln', γ.2.1, γ.2.2.1, γ.2.2.2.1, γ.2.2.2.2) ∧ feG γ.1 z ln'
def rlFeM (γ : qG) (_ : List qV) (r : Option qV) (γ' : qG) : Prop := ∃ (z : Int) (siz' : Nat → Int), r = some (q1 z) ∧ γ' = (γ.1, siz', γ.2.2.1, γ.2.2.2.1, γ.2.2.2.2) ∧ feG (γ.2.1 0) z (siz' 0) ∧ szK γ.2.1 siz'
def rlEnC (γ : qG) (av : List qV) (r : Option qV) (γ' : qG) : Prop := ∃ a z ln' : Int, av = [q2 0, q1 a] ∧ r = some (q1 z) ∧ γ' = (ln', γ.2.1, γ.2.2.1, γ.2.2.2.1, γ.2.2.2.2) ∧ enG a γ.1 z ln'
def rlEnM (γ : qG) (av : List qV) (r : Option qV) (γ' : qG) : Prop := ∃ (a z : Int) (siz' : Nat → Int), av = [q2 85, q1 a] ∧ r = some (q1 z) ∧ γ' = (γ.1, siz', γ.2.2.1, γ.2.2.2.1, γ.2.2.2.2) ∧ enG a (γ.2.1 0) z (siz' 0) ∧ szK γ.2.1 siz'
def rlTxC (γ : qG) (_ : List qV) (r : Option qV) (γ' : qG) : Prop := (∃ z : Int, r = some (q1 z)) ∧ γ' = (0, γ.2.1, γ.2.2.1, γ.2.2.2.1, γ.2.2.2.2)
def rlTxM (γ : qG) (_ : List qV) (r : Option qV) (γ' : qG) : Prop := ∃ (z : Int) (siz' : Nat → Int), r = some (q1 z) ∧ γ' = (γ.1, siz', γ.2.2.1, γ.2.2.2.1, γ.2.2.2.2) ∧ siz' 0 = 0 ∧ szK γ.2.1 siz'
def rlAgC (γ : qG) (av : List qV) (r : Option qV) (γ' : qG) : Prop := ∃ a z : Int, av = [q2 0, q1 a] ∧ r = some (q1 z) ∧ agC γ a z γ'
def rlAgM (γ : qG) (av : List qV) (r : Option qV) (γ' : qG) : Prop := ∃ (a z : Int) (siz' : Nat → Int), av = [q2 85, q1 a] ∧ r = some (q1 z) ∧ γ' = (γ.1, siz', γ.2.2.1, γ.2.2.2.1, γ.2.2.2.2) ∧ agR a z γ.2.2.1 γ.2.1 siz'
def rlImM (γ : qG) (av : List qV) (r : Option qV) (γ' : qG) : Prop := ∃ (a z : Int) (siz' kp' : Nat → Int), av = [q2 85, q1 a] ∧ r = some (q1 z) ∧ γ' = (γ.1, siz', kp', γ.2.2.2.1, γ.2.2.2.2) ∧ imR a z γ.2.1 siz' γ.2.2.1 kp'
theorem rlFeC_z {γ γ' : qG} {av : List qV} {r : Option qV} (h : rlFeC γ av r γ') : ∃ z : Int, r = some (q1 z) := by obtain ⟨z, _, h, _⟩ := h; exact ⟨z, h⟩
theorem rlFeM_z {γ γ' : qG} {av : List qV} {r : Option qV} (h : rlFeM γ av r γ') : ∃ z : Int, r = some (q1 z) := by obtain ⟨z, _, h, _⟩ := h; exact ⟨z, h⟩
theorem rlEnC_z {γ γ' : qG} {av : List qV} {r : Option qV} (h : rlEnC γ av r γ') : ∃ z : Int, r = some (q1 z) := by obtain ⟨_, z, _, _, h, _⟩ := h; exact ⟨z, h⟩
theorem rlEnM_z {γ γ' : qG} {av : List qV} {r : Option qV} (h : rlEnM γ av r γ') : ∃ z : Int, r = some (q1 z) := by obtain ⟨_, z, _, _, h, _⟩ := h; exact ⟨z, h⟩
theorem rlTxC_z {γ γ' : qG} {av : List qV} {r : Option qV} (h : rlTxC γ av r γ') : ∃ z : Int, r = some (q1 z) := h.1
theorem rlTxM_z {γ γ' : qG} {av : List qV} {r : Option qV} (h : rlTxM γ av r γ') : ∃ z : Int, r = some (q1 z) := by obtain ⟨z, _, h, _⟩ := h; exact ⟨z, h⟩
theorem rlAgC_z {γ γ' : qG} {av : List qV} {r : Option qV} (h : rlAgC γ av r γ') : ∃ z : Int, r = some (q1 z) := by obtain ⟨_, z, _, h, _⟩ := h; exact ⟨z, h⟩
theorem rlAgM_z {γ γ' : qG} {av : List qV} {r : Option qV} (h : rlAgM γ av r γ') : ∃ z : Int, r = some (q1 z) := by obtain ⟨_, z, _, _, h, _⟩ := h; exact ⟨z, h⟩
theorem rlImM_z {γ γ' : qG} {av : List qV} {r : Option qV} (h : rlImM γ av r γ') : ∃ z : Int, r = some (q1 z) := by obtain ⟨_, z, _, _, _, h, _⟩ := h; exact ⟨z, h⟩
theorem feG_u {t z t' z2 t2 : Int} (h : feG t z t') (h2 : feG t z2 t2) : z = z2 ∧ t' = t2 := by unfold feG at h h2; omega
theorem enG_u {a t z t' z2 t2 : Int} (h : enG a t z t') (h2 : enG a t z2 t2) : z = z2 ∧ t' = t2 := by unfold enG at h h2; omega
theorem RLFe {γ γ1 γ2 : qG} {av1 av2 : List qV} {z1 z2 : Int} (hR : REL γ) (h1 : rlFeC γ av1 (some (q1 z1)) γ1) (h2 : rlFeM γ1 av2 (some (q1 z2)) γ2) : REL γ2 ∧ z1 = z2 := by
  obtain ⟨y1, ln', e1, rfl, f1⟩ := h1
  obtain ⟨y2, siz', e2, rfl, f2, hz⟩ := h2
  cases e1
  cases e2
  have f1 : feG (γ.2.1 0) z1 ln' := by rw [← REL_0 hR]; exact f1
  have f2 : feG (γ.2.1 0) z2 (siz' 0) := f2
  obtain ⟨q1, q2⟩ := feG_u f1 f2
  exact ⟨REL_sz (γ := γ) hR hz q2, q1⟩
theorem RLEn {γ γ1 γ2 : qG} {a1 a2 z1 z2 : Int} (ha : a1 = a2) (hR : REL γ) (h1 : rlEnC γ [q2 0, q1 a1] (some (q1 z1)) γ1) (h2 : rlEnM γ1 [q2 85, q1 a2] (some (q1 z2)) γ2) : REL γ2 ∧ z1 = z2 := by
  obtain ⟨b1, y1, ln', d1, e1, rfl, f1⟩ := h1
  obtain ⟨b2, y2, siz', d2, e2, rfl, f2, hz⟩ := h2
  cases d1
  cases d2
  cases e1
  cases e2
  subst ha
  have f1 : enG a1 (γ.2.1 0) z1 ln' := by rw [← REL_0 hR]; exact f1
  have f2 : enG a1 (γ.2.1 0) z2 (siz' 0) := f2
  obtain ⟨q1, q2⟩ := enG_u f1 f2
  exact ⟨REL_sz (γ := γ) hR hz q2, q1⟩
theorem RLTx {γ γ1 γ2 : qG} {av1 av2 : List qV} {r1 r2 : Option qV} (hR : REL γ) (h1 : rlTxC γ av1 r1 γ1) (h2 : rlTxM γ1 av2 r2 γ2) : REL γ2 := by
  obtain ⟨-, rfl⟩ := h1
  obtain ⟨y2, siz', -, rfl, f2, hz⟩ := h2
  exact REL_sz (γ := γ) hR hz f2.symm
theorem cp0 {f h : Nat → Int} {a : Int} (ha : 0 ≤ a) (hc : cpR 1 f h (a + 1) 0) : h 0 = f (a.toNat + 1) ∧ szK f h := by
  refine ⟨?_, fun j hj => ?_⟩
  · have h0 := hc 0
    rw [if_pos (by omega)] at h0
    rw [h0]
    congr 1
    omega
  · have h0 := hc j
    rw [if_neg (by omega)] at h0
    exact h0
theorem RLAg {γ γ1 γ2 : qG} {a1 a2 z1 z2 : Int} (ha : a1 = a2) (hR : REL γ) (h1 : rlAgC γ [q2 0, q1 a1] (some (q1 z1)) γ1) (h2 : rlAgM γ1 [q2 85, q1 a2] (some (q1 z2)) γ2) : REL γ2 ∧ z1 = z2 := by
  obtain ⟨b1, y1, d1, e1, f1⟩ := h1
  obtain ⟨b2, y2, siz', d2, e2, rfl, f2⟩ := h2
  cases d1
  cases d2
  cases e1
  cases e2
  subst ha
  rcases f1 with ⟨rfl, ha, q, hE, rfl⟩ | ⟨rfl, hn, rfl⟩
  · have hj : a1.toNat < 3 := by omega
    rcases REL_E hR hj with ⟨x1, x2⟩ | ⟨q', x1, x2, x3⟩
    · rw [x1] at hE; cases hE
    · rw [hE] at x1
      have hq : q = q' := by have := Option.some.inj x1; omega
      subst hq
      rcases f2 with ⟨rfl, -, -, hc⟩ | ⟨rfl, hn, -⟩
      · obtain ⟨c1, c2⟩ := cp0 ha.1 hc
        refine ⟨REL_sz (γ := γ) hR c2 ?_, rfl⟩
        rw [c1]; exact x3
      · exact absurd ⟨ha, x2⟩ hn
  · rcases f2 with ⟨rfl, ha, hk, hc⟩ | ⟨rfl, -, rfl⟩
    · exfalso
      apply hn
      refine ⟨ha, fun h9 => ?_⟩
      rcases REL_E hR (show a1.toNat < 3 by omega) with ⟨x1, x2⟩ | ⟨q', x1, x2, x3⟩
      · exact hk x2
      · rw [h9] at x1; cases x1
    · exact ⟨hR, rfl⟩
theorem cp1 {f h : Nat → Int} {a : Int} (ha : 0 ≤ a) (hc : cpR 1 f h 0 (a + 1)) : h (a.toNat + 1) = f 0 ∧ ∀ j : Nat, ¬ j = a.toNat + 1 → h j = f j := by
  refine ⟨?_, fun j hj => ?_⟩
  · have h0 := hc (a.toNat + 1)
    rw [if_pos (by omega)] at h0
    rw [h0]
    congr 1
    omega
  · have h0 := hc j
    rw [if_neg (by omega)] at h0
    exact h0
/-- an image taken: its block (old or new) has the tape's length -/
theorem REL_im {γ : qG} {a : Int} {q : Nat} {siz' : Nat → Int} (ha : 0 ≤ a ∧ a ≤ 2) (hR : REL γ) (hc : cpR 1 γ.2.1 siz' 0 (a + 1)) (hq : ∀ j : Nat, j < 3 → ¬ j = a.toNat → γ.2.2.2.2 j = none ∨ ¬ γ.2.2.2.2 j = some (111 + 43 * q)) (E : Nat → Option Nat) (hE : E a.toNat = some (111 + 43 * q)) (hE2 : ∀ j : Nat, j < 3 → ¬ j = a.toNat → E j = γ.2.2.2.2 j) : REL (γ.1, siz', q_up γ.2.2.1 a.toNat 1, q_up γ.2.2.2.1 q γ.1, E) := by
  obtain ⟨c1, c2⟩ := cp1 ha.1 hc
  have hn : ∀ j : Nat, j < 3 → ¬ j = a.toNat → E j = none ∨ ¬ E j = some (111 + 43 * q) := fun j hj hn => by rw [hE2 j hj hn]; exact hq j hj hn
  refine REL_of ?_ (fun j hj => ?_) (fun i j hi hj hne => ?_)
  · show γ.1 = siz' 0
    rw [c2 0 (by omega)]; exact REL_0 hR
  · by_cases e : j = a.toNat
    · subst e
      refine Or.inr ⟨q, hE, ?_, ?_⟩
      · show ¬ q_up γ.2.2.1 a.toNat 1 a.toNat = 0
        rw [q_up_s]; decide
      · show q_up γ.2.2.2.1 q γ.1 q = siz' (a.toNat + 1)
        rw [q_up_s, c1]; exact REL_0 hR
    · rcases REL_E hR hj with ⟨x1, x2⟩ | ⟨q', x1, x2, x3⟩
      · refine Or.inl ⟨?_, ?_⟩
        · show E j = none
          rw [hE2 j hj e]; exact x1
        · show q_up γ.2.2.1 a.toNat 1 j = 0
          rw [q_up_n e]; exact x2
      · have hqq : q' ≠ q := fun h9 => by
          rcases hq j hj e with y | y
          · rw [y] at x1; cases x1
          · exact y (by rw [← h9]; exact x1)
        refine Or.inr ⟨q', ?_, ?_, ?_⟩
        · show E j = some (111 + 43 * q')
          rw [hE2 j hj e]; exact x1
        · show ¬ q_up γ.2.2.1 a.toNat 1 j = 0
          rw [q_up_n e]; exact x2
        · show q_up γ.2.2.2.1 q γ.1 q' = siz' (j + 1)
          rw [q_up_n hqq, c2 (j + 1) (by omega)]; exact x3
  · show E i = none ∨ ¬ E i = E j
    by_cases ei : i = a.toNat
    · subst ei
      right
      rw [hE]
      rcases hn j hj (fun h => hne h.symm) with y | y
      · rw [y]; intro h; cases h
      · exact fun h => y h.symm
    · by_cases ej : j = a.toNat
      · subst ej
        rw [hE]
        exact hn i hi ei
      · rw [hE2 i hi ei, hE2 j hj ej]
        exact REL_D hR hi hj hne
