theorem slB_n {t : Nat → Int} {n w j v0 p : Int} (h : ¬ slT w j = 1) : ¬ slB t n w j v0 p := fun h9 => h h9.1
theorem ntF_n {P : Prop} {f fa : Int} (h : ¬ P) : ntF P f fa = fa := pif_f (fun h9 => h h9.2)
theorem ntP_n {P : Prop} {x fa pl : Int} (h : ¬ P) : ntP P x fa pl = pl := pif_f (fun h9 => h h9.2)
theorem ntF_y {P : Prop} {f fa fa' pl' x pl : Int} (h : P) (hn : fa = 0 ∧ fa' = f ∧ pl' = x ∨ ¬ fa = 0 ∧ fa' = fa ∧ pl' = pl) : fa' = ntF P f fa ∧ pl' = ntP P x fa pl := by
  rcases hn with ⟨h1, h2, h3⟩ | ⟨h1, h2, h3⟩
  · exact ⟨by unfold ntF; rw [pif_t ⟨h1, h⟩]; exact h2, by unfold ntP; rw [pif_t ⟨h1, h⟩]; exact h3⟩
  · exact ⟨by unfold ntF; rw [pif_f (fun h9 => h1 h9.1)]; exact h2, by unfold ntP; rw [pif_f (fun h9 => h1 h9.1)]; exact h3⟩
/-! ===== a text, line by line: position, FAULT, its place, what is told, the greatest PERSON, DOOR named ===== -/
noncomputable def pifT {α : Type} (P : Prop) (a b : α) : α := @ite α P (Classical.propDecidable P) a b
theorem pifT_t {α : Type} {P : Prop} {a b : α} (h : P) : pifT P a b = a := by unfold pifT; exact if_pos h
theorem pifT_f {α : Type} {P : Prop} {a b : α} (h : ¬ P) : pifT P a b = b := by unfold pifT; exact if_neg h
abbrev qS6 : Type := Int × Int × Int × (Nat → Int) × Int × Int
noncomputable def sW (t : Nat → Int) (n s : Int) (S : qS6) : Int := liW t n S.1 s
noncomputable def f1S (t : Nat → Int) (n s : Int) (S : qS6) : Int := ntF (fulP (sW t n s S) S.2.2.2.1) 3 S.2.1
noncomputable def p1S (t : Nat → Int) (n s : Int) (S : qS6) : Int := ntP (fulP (sW t n s S) S.2.2.2.1) (tB t n S.1) S.2.1 S.2.2.1
noncomputable def fS (t : Nat → Int) (n s : Int) (S : qS6) : Int := lfa t n (sW t n s S) S.1 (f1S t n s S) 3
noncomputable def pS (t : Nat → Int) (n s : Int) (S : qS6) : Int := lpl t n (sW t n s S) S.1 (f1S t n s S) (p1S t n s S) 3
noncomputable def vS (t : Nat → Int) (n s : Int) (S : qS6) (j : Nat) : Int := lvs t n (sW t n s S) S.1 j
noncomputable def dS (t : Nat → Int) (n s : Int) (S : qS6) : Nat → Int := tel (sW t n s S) (vS t n s S 0) (vS t n s S 1) (vS t n s S 2) S.2.2.2.1
noncomputable def gS (t : Nat → Int) (n s : Int) (S : qS6) : Int := fpN (sW t n s S) (vS t n s S 0) (vS t n s S 1) S.2.2.2.2.1
noncomputable def hS (t : Nat → Int) (n s : Int) (S : qS6) : Int := fdN (sW t n s S) (vS t n s S 1) S.2.2.2.2.2
def hlt (t : Nat → Int) (n s : Int) (S : qS6) : Prop := tK t n S.1 = 0 ∨ ¬ lnOk t n (sW t n s S) S.1
noncomputable def nxS (t : Nat → Int) (n s : Int) (S : qS6) : qS6 := pifT (hlt t n s S) S (lnP t n (sW t n s S) S.1, fS t n s S, pS t n s S, pifT (fS t n s S = 0) (dS t n s S) S.2.2.2.1, pif (fS t n s S = 0) (gS t n s S) S.2.2.2.2.1, pif (fS t n s S = 0) (hS t n s S) S.2.2.2.2.2)
def blk (s : Int) : Nat → Int := fun j => if s = 0 then (if 13 ≤ j ∧ j ≤ 20 then -1 else if j = 2 then 5 else if j = 21 then 6 else if j = 22 then 3 else if j = 23 then 1 else if j = 24 then 2 else 0) else 0
noncomputable def stS (t : Nat → Int) (n s : Int) : Nat → qS6
  | 0 => (0, 0, -1, blk s, -1, -1)
  | k + 1 => nxS t n s (stS t n s k)
theorem stS_h {t : Nat → Int} {n s : Int} {k : Nat} (h : hlt t n s (stS t n s k)) : ∀ d : Nat, stS t n s (k + d) = stS t n s k := by
  intro d
  induction d with
  | zero => rfl
  | succ d ih =>
    show nxS t n s (stS t n s (k + d)) = _
    rw [ih]
    exact pifT_t h
theorem stS_u {t : Nat → Int} {n s : Int} {k m : Nat} (h : hlt t n s (stS t n s k)) (h2 : hlt t n s (stS t n s m)) : stS t n s k = stS t n s m := by
  by_cases c : k ≤ m
  · obtain ⟨d, rfl⟩ := Nat.exists_eq_add_of_le c
    exact (stS_h h d).symm
  · obtain ⟨d, rfl⟩ := Nat.exists_eq_add_of_le (show m ≤ k by omega)
    exact stS_h h2 d
/-- some way up of as many steps as one likes does not end -/
def grD (D : Nat → Int) : Prop := ∃ p : Nat, (p : Int) < D 0 ∧ ¬ pch D 0 8 p = -1
noncomputable def clF (s : Int) (D : Nat → Int) (fp fd : Int) : Int := pif (s = 0 ∧ D 0 ≤ fp) 4 (pif (s = 0 ∧ D 3 ≤ fd) 5 (pif (s = 0 ∧ grD D) 6 0))
noncomputable def enF (t : Nat → Int) (n s : Int) (S : qS6) : Int := if tK t n S.1 = 0 then (if S.2.1 = 0 then clF s S.2.2.2.1 S.2.2.2.2.1 S.2.2.2.2.2 else S.2.1) else 1
noncomputable def enP (t : Nat → Int) (n s : Int) (S : qS6) : Int := if tK t n S.1 = 0 then (if S.2.1 = 0 then (if clF s S.2.2.2.1 S.2.2.2.2.1 S.2.2.2.2.2 = 0 then -1 else n) else S.2.2.1) else lnB t n (sW t n s S) S.1
/-- what a reading of a text comes to -/
def RdO (t : Nat → Int) (n s fa pl : Int) (D : Nat → Int) : Prop := ∃ k : Nat, hlt t n s (stS t n s k) ∧ fa = enF t n s (stS t n s k) ∧ pl = enP t n s (stS t n s k) ∧ D = (stS t n s k).2.2.2.1
theorem RdO_u {t : Nat → Int} {n s fa pl fa' pl' : Int} {D D' : Nat → Int} (h : RdO t n s fa pl D) (h' : RdO t n s fa' pl' D') : fa = fa' ∧ pl = pl' ∧ D = D' := by
  obtain ⟨k, a1, rfl, rfl, rfl⟩ := h
  obtain ⟨m, b1, rfl, rfl, rfl⟩ := h'
  rw [stS_u a1 b1]
  exact ⟨rfl, rfl, rfl⟩
theorem nxS_n {t : Nat → Int} {n s : Int} {S : qS6} (h : ¬ hlt t n s S) : nxS t n s S = (lnP t n (sW t n s S) S.1, fS t n s S, pS t n s S, pifT (fS t n s S = 0) (dS t n s S) S.2.2.2.1, pif (fS t n s S = 0) (gS t n s S) S.2.2.2.2.1, pif (fS t n s S = 0) (hS t n s S) S.2.2.2.2.2) := pifT_f h
/-! slots of a line, once more -/
theorem slB_c {t : Nat → Int} {n w j v v' p : Int} (h : ¬ j = 1) : slB t n w j v p ↔ slB t n w j v' p := by
  unfold slB
  constructor
  · rintro ⟨h1, h2 | h2 | ⟨-, h2, -⟩⟩
    · exact ⟨h1, Or.inl h2⟩
    · exact ⟨h1, Or.inr (Or.inl h2)⟩
    · exact absurd h2 h
  · rintro ⟨h1, h2 | h2 | ⟨-, h2, -⟩⟩
    · exact ⟨h1, Or.inl h2⟩
    · exact ⟨h1, Or.inr (Or.inl h2)⟩
    · exact absurd h2 h
theorem ntF_i {P P' : Prop} {f fa : Int} (h : P ↔ P') : ntF P f fa = ntF P' f fa := by rw [propext h]
theorem ntP_i {P P' : Prop} {x fa pl : Int} (h : P ↔ P') : ntP P x fa pl = ntP P' x fa pl := by rw [propext h]
theorem ntF_0 {P : Prop} {f fa : Int} (hf : ¬ f = 0) (h : ntF P f fa = 0) : fa = 0 ∧ ¬ P := by
  unfold ntF at h
  by_cases c : fa = 0 ∧ P
  · rw [pif_t c] at h; exact absurd h hf
  · rw [pif_f c] at h; exact ⟨h, fun h9 => c ⟨h, h9⟩⟩
theorem ntF_k {P : Prop} {f fa : Int} (h : ¬ fa = 0) : ntF P f fa = fa := pif_f (fun h9 => h h9.1)
theorem ntP_k {P : Prop} {x fa pl : Int} (h : ¬ fa = 0) : ntP P x fa pl = pl := pif_f (fun h9 => h h9.1)
theorem lps_r {t : Nat → Int} {n w p : Int} (h : p ≤ n) : ∀ j : Nat, tE t n p ≤ lps t n w p j ∧ lps t n w p j ≤ n := by
  intro j
  induction j with
  | zero => exact ⟨Int.le_refl _, (tE_r h).2.1⟩
  | succ j ih =>
    have h1 := tE_r (t := t) (p := lps t n w p j) ih.2
    have h2 := tB_r (t := t) (p := lps t n w p j) ih.2
    show tE t n p ≤ slP t n w j (lps t n w p j) ∧ slP t n w j (lps t n w p j) ≤ n
    unfold slP
    split
    · exact ih
    · omega
theorem lnB_0 {t : Nat → Int} {n w p : Int} (h : w = -1) : lnB t n w p = tB t n p := pif_t h
theorem lnB_j {t : Nat → Int} {n w p : Int} {j : Nat} (hw : ¬ w = -1) (hj : j < 3) (hl : lok t n w p j) (hn : ¬ slOk t n w j (lps t n w p j)) : lnB t n w p = tB t n (lps t n w p j) := by
  unfold lnB
  rw [pif_f hw]
  rcases (show j = 0 ∨ j = 1 ∨ j = 2 by omega) with rfl | rfl | rfl
  · exact pif_t hn
  · rw [pif_f (fun h => h hl.2)]; exact pif_t hn
  · rw [pif_f (fun h => h hl.1.2), pif_f (fun h => h hl.2)]; exact pif_t hn
theorem lnB_3 {t : Nat → Int} {n w p : Int} (hw : ¬ w = -1) (hl : lok t n w p 3) : lnB t n w p = tB t n (lps t n w p 3) := by
  unfold lnB
  rw [pif_f hw, pif_f (fun h => h hl.1.1.2), pif_f (fun h => h hl.1.2), pif_f (fun h => h hl.2)]
theorem lok_n {t : Nat → Int} {n w p : Int} {j : Nat} (hj : j < 3) (hn : ¬ slOk t n w j (lps t n w p j)) : ¬ lok t n w p 3 := by
  intro h
  rcases (show j = 0 ∨ j = 1 ∨ j = 2 by omega) with rfl | rfl | rfl
  · exact hn h.1.1.2
  · exact hn h.1.2
  · exact hn h.2
/-- a slot that is none -/
theorem sl_0 {t : Nat → Int} {n w p fa pl : Int} {j : Nat} (h : slT w j = 0) : lps t n w p (j + 1) = lps t n w p j ∧ lfa t n w p fa (j + 1) = lfa t n w p fa j ∧ lpl t n w p fa pl (j + 1) = lpl t n w p fa pl j ∧ lvs t n w p j = -1 ∧ (lok t n w p j → lok t n w p (j + 1)) := by
  have hb : ¬ slB t n w j (lvs t n w p 0) (lps t n w p j) := slB_n (by omega)
  refine ⟨?_, ntF_n hb, ntP_n hb, ?_, fun h1 => ⟨h1, Or.inl h⟩⟩
  · show slP t n w j (lps t n w p j) = _
    unfold slP; rw [if_pos h]
  · unfold lvs slV; rw [if_pos h]
theorem lps_1 {t : Nat → Int} {n w p : Int} {j : Nat} (h : ¬ slT w j = 0) : lps t n w p (j + 1) = tE t n (lps t n w p j) := by
  show slP t n w j (lps t n w p j) = _
  unfold slP; rw [if_neg h]
/-- values in range while there is no FAULT -/
theorem of_r {t : Nat → Int} {n p : Int} : -1 ≤ ofW t n p ∧ ofW t n p ≤ 3 := by
  unfold ofW ofP pif
  split
  · exact ⟨by decide, by decide⟩
  · split
    · exact ⟨by decide, by decide⟩
    · split
      · exact ⟨by decide, by decide⟩
      · split
        · exact ⟨by decide, by decide⟩
        · exact ⟨by decide, by decide⟩
theorem lfa_0 {t : Nat → Int} {n w p fa : Int} (h : lfa t n w p fa 3 = 0) : fa = 0 ∧ ∀ j : Nat, j < 3 → ¬ slB t n w j (lvs t n w p 0) (lps t n w p j) := by
  obtain ⟨h2, n2⟩ := ntF_0 (by decide) h
  obtain ⟨h1, n1⟩ := ntF_0 (by decide) h2
  obtain ⟨h0, n0⟩ := ntF_0 (by decide) h1
  refine ⟨h0, fun j hj => ?_⟩
  rcases (show j = 0 ∨ j = 1 ∨ j = 2 by omega) with rfl | rfl | rfl
  · exact n0
  · exact n1
  · exact n2
theorem lvs_r {t : Nat → Int} {n w p fa : Int} {j : Nat} (h : lfa t n w p fa 3 = 0) (hj : j < 3) (hty : slT w j = 1) : slL w j ≤ lvs t n w p j ∧ lvs t n w p j ≤ slG w j := by
  have h1 := (lfa_0 h).2 j hj
  have e : lvs t n w p j = tV t n (lps t n w p j) := by unfold lvs slV; rw [if_neg (by omega), if_neg (by omega)]
  rw [e]
  constructor
  · by_cases c : slL w j ≤ tV t n (lps t n w p j)
    · exact c
    · exact absurd ⟨hty, Or.inl (by omega)⟩ h1
  · by_cases c : tV t n (lps t n w p j) ≤ slG w j
    · exact c
    · exact absurd ⟨hty, Or.inr (Or.inl (by omega))⟩ h1
theorem lvs_o {t : Nat → Int} {n w p : Int} {j : Nat} (hl : lok t n w p 3) (hj : j < 3) (hty : slT w j = 2) : 0 ≤ lvs t n w p j ∧ lvs t n w p j ≤ 3 := by
  have e : lvs t n w p j = ofW t n (lps t n w p j) := by unfold lvs slV; rw [if_neg (by omega), if_pos hty]
  have hr := of_r (t := t) (n := n) (p := lps t n w p j)
  have hok : slOk t n w j (lps t n w p j) := by
    rcases (show j = 0 ∨ j = 1 ∨ j = 2 by omega) with rfl | rfl | rfl
    · exact hl.1.1.2
    · exact hl.1.2
    · exact hl.2
  rw [e]
  rcases hok with h | ⟨-, h⟩ | ⟨h, -⟩
  · omega
  · omega
  · omega
