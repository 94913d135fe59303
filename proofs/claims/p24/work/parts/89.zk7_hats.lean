/-! ===== sets of PEOPLE as numbers ===== -/
theorem hasR_tb : ∀ (m : Fin 256) (k : Fin 8), hasR (m.val : Int) (k.val : Int) = if m.val.testBit k.val then 1 else 0 := by decide +kernel
theorem hasR_e {m k : Int} (hm : 0 ≤ m ∧ m ≤ 255) (hk : 0 ≤ k ∧ k ≤ 7) : hasR m k = if m.toNat.testBit k.toNat then 1 else 0 := by
  have h := hasR_tb ⟨m.toNat, by omega⟩ ⟨k.toNat, by omega⟩
  have e1 : ((m.toNat : Nat) : Int) = m := by omega
  have e2 : ((k.toNat : Nat) : Int) = k := by omega
  rw [show (((⟨m.toNat, by omega⟩ : Fin 256).val : Nat) : Int) = m from e1, show (((⟨k.toNat, by omega⟩ : Fin 8).val : Nat) : Int) = k from e2] at h
  exact h
theorem hasR_01 {m k : Int} : hasR m k = 0 ∨ hasR m k = 1 := by
  unfold hasR
  split
  · exact Or.inr rfl
  · exact Or.inl rfl
theorem hasR_or {m a j : Int} (hm : 0 ≤ m ∧ m ≤ 255) (ha : 0 ≤ a ∧ a ≤ 7) (hj : 0 ≤ j ∧ j ≤ 7) : hasR (orI m a) j = if j = a then 1 else hasR m j := by
  have e := orI_e hm ha
  have r := orI_rg hm ha
  rw [hasR_e r hj, hasR_e hm hj, show (orI m a).toNat = m.toNat ||| 2 ^ a.toNat by omega, Nat.testBit_or, Nat.testBit_two_pow]
  by_cases c : j = a
  · subst c
    rw [if_pos rfl, decide_eq_true rfl, Bool.or_true, if_pos rfl]
  · rw [if_neg c, decide_eq_false (show ¬ a.toNat = j.toNat by omega), Bool.or_false]
theorem hasR_0 {j : Int} (hj : 0 ≤ j ∧ j ≤ 7) : hasR 0 j = 0 := by
  rw [hasR_e (by omega) hj]
  rw [show ((0 : Int).toNat) = 0 from rfl, Nat.zero_testBit]
  rfl
theorem e_or0 {z x : Int} (h : z = (Int32.ofInt x ||| Int32.ofInt 0).toInt) (hx : -2147483648 ≤ x ∧ x ≤ 2147483647) : z = x := by
  rw [h, show Int32.ofInt 0 = 0 from rfl, Int32.or_zero]
  exact q_io hx
theorem e_orJ {z x y a : Int} (h : z = (Int32.ofInt x ||| Int32.ofInt y).toInt) (hy : y = (Int32.ofInt 1 <<< (Int32.ofInt a &&& 31)).toInt) : z = orI x a := by
  rw [h, hy]
  unfold orI
  rw [Int32.ofInt_toInt]
/-- of those with numbers below k, who has it -/
def fmB (s : Nat → Int) : Nat → Int
  | 0 => 0
  | k + 1 => if s k = -1 then fmB s k else orI (fmB s k) k
theorem fmB_rg {s : Nat → Int} : ∀ k : Nat, k ≤ 8 → 0 ≤ fmB s k ∧ fmB s k ≤ 255 := by
  intro k
  induction k with
  | zero => intro _; exact ⟨Int.le_refl 0, (show (0 : Int) ≤ 255 by decide)⟩
  | succ k ih =>
    intro hk
    have h := ih (by omega)
    show 0 ≤ (if s k = -1 then fmB s k else orI (fmB s k) k) ∧ (if s k = -1 then fmB s k else orI (fmB s k) k) ≤ 255
    split
    · exact h
    · exact orI_rg h (by omega)
theorem fmB_has {s : Nat → Int} : ∀ k : Nat, k ≤ 8 → ∀ j : Nat, j < 8 → hasR (fmB s k) j = if j < k ∧ ¬ s j = -1 then 1 else 0 := by
  intro k
  induction k with
  | zero =>
    intro _ j hj
    rw [show fmB s 0 = 0 from rfl, hasR_0 (by omega), if_neg (by omega)]
  | succ k ih =>
    intro hk j hj
    have h := ih (by omega) j hj
    have r := fmB_rg (s := s) k (by omega)
    show hasR (if s k = -1 then fmB s k else orI (fmB s k) k) j = _
    by_cases c : s k = -1
    · rw [if_pos c, h]
      by_cases c2 : j < k ∧ ¬ s j = -1
      · rw [if_pos c2, if_pos ⟨by omega, c2.2⟩]
      · rw [if_neg c2, if_neg (fun h9 => c2 ⟨by
          by_cases e : j = k
          · rw [e] at h9; exact absurd c h9.2
          · omega, h9.2⟩)]
    · rw [if_neg c, hasR_or r (by omega) (by omega), h]
      by_cases e : j = k
      · subst e
        rw [if_pos rfl, if_pos ⟨by omega, c⟩]
      · rw [if_neg (show ¬ (j : Int) = k by omega)]
        by_cases c2 : j < k ∧ ¬ s j = -1
        · rw [if_pos c2, if_pos ⟨by omega, c2.2⟩]
        · rw [if_neg c2, if_neg (fun h9 => c2 ⟨by omega, h9.2⟩)]
/-- what those of a set have together -/
def smS (D : Nat → Int) (m : Int) : Nat → Int
  | 0 => 0
  | k + 1 => smS D m k + (if hasR m (k : Int) = 1 then D (5 + k) else 0)
theorem smS_s {D : Nat → Int} {m v x s k k' : Int} (h : v = smS D m k.toNat) (hk : 0 ≤ k) (hx : x = if hasR m k = 1 then D (5 + k.toNat) else 0) (hs : s = v + x) (e : k' = k + 1) : s = smS D m k'.toNat := by
  subst e
  rw [show (k + 1).toNat = k.toNat + 1 by omega]
  show s = smS D m k.toNat + (if hasR m ((k.toNat : Nat) : Int) = 1 then D (5 + k.toNat) else 0)
  rw [show ((k.toNat : Nat) : Int) = k by omega, ← h, ← hx]
  exact hs
theorem smS_rg {D : Nat → Int} {m : Int} (hK : BK D) : ∀ k : Nat, k ≤ 8 → 0 ≤ smS D m k ∧ smS D m k ≤ 99 * k := by
  intro k
  induction k with
  | zero => intro _; exact ⟨Int.le_refl 0, Int.le_refl 0⟩
  | succ k ih =>
    intro hk
    have h := ih (by omega)
    have i := BK_i hK (i := k) (by omega)
    show 0 ≤ smS D m k + (if hasR m (k : Int) = 1 then D (5 + k) else 0) ∧ smS D m k + (if hasR m (k : Int) = 1 then D (5 + k) else 0) ≤ 99 * ((k + 1 : Nat) : Int)
    split <;> omega
def inW (D : Nat → Int) : Nat → Int := fun i => D (5 + i)
/-! ===== who stands at place k ===== -/
theorem cnA_c {t t' : Nat → Int} {p : Int} (hp : 0 ≤ p ∧ p < 8) (h : ∀ i : Nat, i < 8 → t i = t' i) : ∀ n : Nat, n ≤ 8 → cnA t p n = cnA t' p n := by
  intro n
  induction n with
  | zero => intro _; rfl
  | succ n ih =>
    intro hn
    show cnA t p n + (if t n > t p.toNat ∨ (t n = t p.toNat ∧ (n : Int) < p) then 1 else 0) = cnA t' p n + (if t' n > t' p.toNat ∨ (t' n = t' p.toNat ∧ (n : Int) < p) then 1 else 0)
    rw [ih (by omega), h n (by omega), h p.toNat (by omega)]
/-- who stands at place k -/
def RkT (t : Nat → Int) (n k z : Int) : Prop := ((0 ≤ z ∧ z < n) ∧ cnA t z n.toNat = k ∧ ∀ q : Nat, (q : Int) < z → ¬ cnA t q n.toNat = k) ∨ ((∀ q : Nat, (q : Int) < n → ¬ cnA t q n.toNat = k) ∧ z = -2)
theorem RkT_u {t : Nat → Int} {n k z z' : Int} (h : RkT t n k z) (h' : RkT t n k z') : z = z' := by
  rcases h with ⟨a, b, c⟩ | ⟨a, b⟩ <;> rcases h' with ⟨a', b', c'⟩ | ⟨a', b'⟩
  · rcases (show z < z' ∨ z = z' ∨ z' < z by omega) with g | g | g
    · have h9 := c' z.toNat (by omega)
      rw [show ((z.toNat : Nat) : Int) = z by omega] at h9
      exact absurd b h9
    · exact g
    · have h9 := c z'.toNat (by omega)
      rw [show ((z'.toNat : Nat) : Int) = z' by omega] at h9
      exact absurd b' h9
  · have h9 := a' z.toNat (by omega)
    rw [show ((z.toNat : Nat) : Int) = z by omega] at h9
    exact absurd b h9
  · have h9 := a z'.toNat (by omega)
    rw [show ((z'.toNat : Nat) : Int) = z' by omega] at h9
    exact absurd b' h9
  · rw [b, b']
theorem RkT_c {t t' : Nat → Int} {n k z : Int} (hn : 0 ≤ n ∧ n ≤ 8) (h : ∀ i : Nat, i < 8 → t i = t' i) (q : RkT t n k z) : RkT t' n k z := by
  rcases q with ⟨a, b, c⟩ | ⟨a, b⟩
  · refine Or.inl ⟨a, by rw [← cnA_c (by omega) h n.toNat (by omega)]; exact b, fun q hq => ?_⟩
    rw [← cnA_c (by omega) h n.toNat (by omega)]; exact c q hq
  · refine Or.inr ⟨fun q hq => ?_, b⟩
    rw [← cnA_c (by omega) h n.toNat (by omega)]; exact a q hq
theorem RkT_q {t : Nat → Int} {n k v z v' : Int} (hq : ∀ q : Nat, (q : Int) < v → ¬ cnA t q n.toNat = k) (hz : z = cnA t v n.toNat) (h : ¬ z = k) (hv : 0 ≤ v) (e : v' = v + 1) : ∀ q : Nat, (q : Int) < v' → ¬ cnA t q n.toNat = k := fun q h9 => by
  by_cases c : (q : Int) < v
  · exact hq q c
  · rw [show (q : Int) = v by omega, ← hz]; exact h
theorem RkT_y {t : Nat → Int} {n k v z : Int} (hq : ∀ q : Nat, (q : Int) < v → ¬ cnA t q n.toNat = k) (hz : z = cnA t v n.toNat) (h : z = k) (hv : 0 ≤ v ∧ v < n) : RkT t n k v := Or.inl ⟨hv, by rw [← hz]; exact h, hq⟩
theorem RkT_n {t : Nat → Int} {n k v : Int} (hq : ∀ q : Nat, (q : Int) < v → ¬ cnA t q n.toNat = k) (h : n ≤ v) : RkT t n k (-2) := Or.inr ⟨fun q h9 => hq q (by omega), rfl⟩
/-! ===== hats: who stands where in a rising line ===== -/
/-- how many of the first n are below v -/
def cLt (f : Nat → Int) (v : Int) : Nat → Int
  | 0 => 0
  | k + 1 => cLt f v k + (if f k < v then 1 else 0)
theorem cLt_rg {f : Nat → Int} {v : Int} : ∀ n : Nat, 0 ≤ cLt f v n ∧ cLt f v n ≤ n := by
  intro n
  induction n with
  | zero => exact ⟨Int.le_refl 0, Int.le_refl 0⟩
  | succ n ih =>
    show 0 ≤ cLt f v n + (if f n < v then 1 else 0) ∧ cLt f v n + (if f n < v then 1 else 0) ≤ ((n + 1 : Nat) : Int)
    split <;> omega
theorem cLt_mo {f : Nat → Int} {v w : Int} (h : v ≤ w) : ∀ n : Nat, cLt f v n ≤ cLt f w n := by
  intro n
  induction n with
  | zero => exact Int.le_refl 0
  | succ n ih =>
    show cLt f v n + (if f n < v then 1 else 0) ≤ cLt f w n + (if f n < w then 1 else 0)
    by_cases c : f n < v
    · rw [if_pos c, if_pos (by omega)]; omega
    · rw [if_neg c]
      split <;> omega
theorem cLt_c {f g : Nat → Int} {v : Int} : ∀ n : Nat, (∀ i : Nat, i < n → f i = g i) → cLt f v n = cLt g v n := by
  intro n
  induction n with
  | zero => intro _; rfl
  | succ n ih =>
    intro h
    show cLt f v n + (if f n < v then 1 else 0) = cLt g v n + (if g n < v then 1 else 0)
    rw [ih (fun i hi => h i (by omega)), h n (by omega)]
/-- one number put in another's place -/
theorem cLt_up {f : Nat → Int} {i : Nat} {x v : Int} : ∀ n : Nat, i < n → cLt (q_up f i x) v n + (if f i < v then 1 else 0) = cLt f v n + (if x < v then 1 else 0) := by
  intro n
  induction n with
  | zero => intro h; omega
  | succ n ih =>
    intro h
    show cLt (q_up f i x) v n + (if q_up f i x n < v then 1 else 0) + (if f i < v then 1 else 0) = cLt f v n + (if f n < v then 1 else 0) + (if x < v then 1 else 0)
    by_cases c : i < n
    · have h1 := ih c
      rw [q_up_n (show ¬ n = i by omega)]
      omega
    · have e : i = n := by omega
      subst e
      rw [q_up_s, cLt_c (g := f) i (fun j hj => q_up_n (show ¬ j = i by omega))]
      omega
theorem cLt_le {f : Nat → Int} {v : Int} {p : Nat} : ∀ n : Nat, p ≤ n → (∀ j : Nat, p ≤ j → j < n → ¬ f j < v) → cLt f v n ≤ p := by
  intro n
  induction n with
  | zero => intro _ _; have := (cLt_rg (f := f) (v := v) 0).2; omega
  | succ n ih =>
    intro h1 h2
    by_cases c : p ≤ n
    · show cLt f v n + (if f n < v then 1 else 0) ≤ p
      rw [if_neg (h2 n c (by omega))]
      have := ih c (fun j a b => h2 j a (by omega))
      omega
    · have := (cLt_rg (f := f) (v := v) (n + 1)).2
      omega
theorem cLt_ge {f : Nat → Int} {v : Int} {p : Nat} : ∀ n : Nat, p ≤ n → (∀ j : Nat, j < p → f j < v) → (p : Int) ≤ cLt f v n := by
  intro n
  induction n with
  | zero => intro h1 _; have := (cLt_rg (f := f) (v := v) 0).1; omega
  | succ n ih =>
    intro h1 h2
    by_cases c : p ≤ n
    · show (p : Int) ≤ cLt f v n + (if f n < v then 1 else 0)
      have := ih c h2
      split <;> omega
    · have e : p = n + 1 := by omega
      subst e
      have h3 : ((n : Nat) : Int) ≤ cLt f v n := by
        have h4 : ∀ m : Nat, m ≤ n → ((m : Nat) : Int) ≤ cLt f v m := by
          intro m
          induction m with
          | zero => intro _; exact Int.le_refl 0
          | succ m ih2 =>
            intro hm
            show ((m + 1 : Nat) : Int) ≤ cLt f v m + (if f m < v then 1 else 0)
            rw [if_pos (h2 m (by omega))]
            have := ih2 (by omega)
            omega
        exact h4 n (Nat.le_refl n)
      show ((n + 1 : Nat) : Int) ≤ cLt f v n + (if f n < v then 1 else 0)
      rw [if_pos (h2 n (by omega))]
      omega
/-- v stands at place p of the rising line of the first n -/
def SoP (T : Nat → Int) (n : Nat) (p v : Int) : Prop := cLt T v n ≤ p ∧ p < cLt T (v + 1) n
theorem SoP_u {T : Nat → Int} {n : Nat} {p v v' : Int} (h : SoP T n p v) (h' : SoP T n p v') : v = v' := by
  obtain ⟨a, b⟩ := h
  obtain ⟨a', b'⟩ := h'
  rcases (show v < v' ∨ v = v' ∨ v' < v by omega) with g | g | g
  · have := cLt_mo (f := T) (show v + 1 ≤ v' by omega) n
    omega
  · exact g
  · have := cLt_mo (f := T) (show v' + 1 ≤ v by omega) n
    omega
/-- a line that rises, of the same numbers -/
def LiP (T R : Nat → Int) (k : Nat) : Prop := (∀ i j : Nat, i ≤ j → j < k → R i ≤ R j) ∧ ∀ v : Int, cLt R v k = cLt T v k
theorem LiP_So {T R : Nat → Int} {n : Nat} (h : LiP T R n) {p : Nat} (hp : p < n) : SoP T n (p : Int) (R p) := by
  obtain ⟨a, b⟩ := h
  refine ⟨?_, ?_⟩
  · rw [← b]
    exact cLt_le n (by omega) (fun j h1 h2 => by have := a p j h1 h2; omega)
  · rw [← b]
    have := cLt_ge (f := R) (v := R p + 1) (p := p + 1) n (by omega) (fun j h1 => by have := a j p (by omega) hp; omega)
    omega
/-- while number k looks for its place: at is the gap -/
def LiQ (T R : Nat → Int) (k : Nat) (at9 : Int) : Prop := (0 ≤ at9 ∧ at9 ≤ k) ∧ (∀ i j : Nat, i ≤ j → j ≤ k → ¬ (i : Int) = at9 → ¬ (j : Int) = at9 → R i ≤ R j) ∧ (∀ j : Nat, at9 < (j : Int) → j ≤ k → T k < R j) ∧ ∀ v : Int, cLt (q_up R at9.toNat (T k)) v (k + 1) = cLt T v (k + 1)
theorem LiQ_0 {T R : Nat → Int} {k : Nat} (h : LiP T R k) : LiQ T R k k := by
  obtain ⟨a, b⟩ := h
  refine ⟨by omega, fun i j h1 h2 h3 h4 => a i j h1 (by omega), fun j h1 h2 => by omega, fun v => ?_⟩
  rw [show ((k : Nat) : Int).toNat = k by omega]
  show cLt (q_up R k (T k)) v k + (if q_up R k (T k) k < v then 1 else 0) = cLt T v k + (if T k < v then 1 else 0)
  rw [q_up_s, cLt_c k (fun j hj => q_up_n (show ¬ j = k by omega)), b]
theorem LiQ_s {T R : Nat → Int} {k : Nat} {at9 at8 r : Int} (h : LiQ T R k at9) (h1 : 1 ≤ at9) (hr : r = R at8.toNat) (hx : T k < r) (e : at8 = at9 - 1) : LiQ T (q_up R at9.toNat r) k at8 := by
  obtain ⟨⟨a0, a1⟩, b, c, d⟩ := h
  have hrs : ∀ j : Nat, ¬ (j : Int) = at9 → q_up R at9.toNat r j = R j := fun j hj => q_up_n (by omega)
  have hr2 : q_up R at9.toNat r at9.toNat = r := q_up_s
  refine ⟨by omega, fun i j h2 h3 h4 h5 => ?_, fun j h2 h3 => ?_, fun v => ?_⟩
  · by_cases ci : (i : Int) = at9
    · have ei : i = at9.toNat := by omega
      by_cases cj : (j : Int) = at9
      · have ej : j = at9.toNat := by omega
        rw [ei, ej]; exact Int.le_refl _
      · rw [ei, hr2, hrs j cj, hr]
        exact b at8.toNat j (by omega) h3 (by omega) cj
    · by_cases cj : (j : Int) = at9
      · have ej : j = at9.toNat := by omega
        rw [ej, hr2, hrs i ci, hr]
        exact b i at8.toNat (by omega) (by omega) ci (by omega)
      · rw [hrs i ci, hrs j cj]
        exact b i j h2 h3 ci cj
  · by_cases cj : (j : Int) = at9
    · have ej : j = at9.toNat := by omega
      rw [ej, hr2]; exact hx
    · rw [hrs j cj]; exact c j (by omega) h3
  · have u1 := cLt_up (f := q_up R at9.toNat r) (i := at8.toNat) (x := T k) (v := v) (k + 1) (by omega)
    have u2 := cLt_up (f := R) (i := at9.toNat) (x := r) (v := v) (k + 1) (by omega)
    have u3 := cLt_up (f := R) (i := at9.toNat) (x := T k) (v := v) (k + 1) (by omega)
    rw [hrs at8.toNat (by omega), ← hr] at u1
    have := d v
    omega
theorem LiQ_e {T R : Nat → Int} {k : Nat} {at9 : Int} (h : LiQ T R k at9) (hx : at9 = 0 ∨ R (at9 - 1).toNat ≤ T k) : LiP T (q_up R at9.toNat (T k)) (k + 1) := by
  obtain ⟨⟨a0, a1⟩, b, c, d⟩ := h
  refine ⟨fun i j h2 h3 => ?_, d⟩
  have hrs : ∀ j : Nat, ¬ (j : Int) = at9 → q_up R at9.toNat (T k) j = R j := fun j hj => q_up_n (by omega)
  have hr2 : q_up R at9.toNat (T k) at9.toNat = T k := q_up_s
  by_cases ci : (i : Int) = at9
  · have ei : i = at9.toNat := by omega
    by_cases cj : (j : Int) = at9
    · have ej : j = at9.toNat := by omega
      rw [ei, ej]; exact Int.le_refl _
    · rw [ei, hr2, hrs j cj]
      have := c j (by omega) (by omega)
      omega
  · by_cases cj : (j : Int) = at9
    · have ej : j = at9.toNat := by omega
      rw [ej, hr2, hrs i ci]
      rcases hx with hx | hx
      · omega
      · have := b i (at9 - 1).toNat (by omega) (by omega) ci (by omega)
        omega
    · rw [hrs i ci, hrs j cj]
      exact b i j h2 (by omega) ci cj
/-- heights with hats, and the hats' sum -/
def htH (R : Nat → Int) : Nat → Int
  | 0 => 0
  | p + 1 => max (htH R p + 1) (R p)
def htS (R : Nat → Int) : Nat → Int
  | 0 => 0
  | p + 1 => htS R p + (htH R (p + 1) - R p)
theorem ht_c {R R' : Nat → Int} : ∀ n : Nat, (∀ p : Nat, p < n → R p = R' p) → htH R n = htH R' n ∧ htS R n = htS R' n := by
  intro n
  induction n with
  | zero => intro _; exact ⟨rfl, rfl⟩
  | succ n ih =>
    intro h
    obtain ⟨a, b⟩ := ih (fun p hp => h p (by omega))
    have e := h n (by omega)
    have e1 : htH R (n + 1) = htH R' (n + 1) := by
      show max (htH R n + 1) (R n) = max (htH R' n + 1) (R' n)
      rw [a, e]
    refine ⟨e1, ?_⟩
    show htS R n + (htH R (n + 1) - R n) = htS R' n + (htH R' (n + 1) - R' n)
    rw [b, e, e1]
theorem ht_rg {R : Nat → Int} : ∀ n : Nat, n ≤ 8 → (∀ p : Nat, p < n → 0 ≤ R p ∧ R p ≤ 99) → (0 ≤ htH R n ∧ htH R n ≤ 99 + n) ∧ 0 ≤ htS R n ∧ htS R n ≤ 107 * n := by
  intro n
  induction n with
  | zero => intro _ _; exact ⟨⟨Int.le_refl 0, (show (0 : Int) ≤ 99 + ((0 : Nat) : Int) by decide)⟩, Int.le_refl 0, (show (0 : Int) ≤ 107 * ((0 : Nat) : Int) by decide)⟩
  | succ n ih =>
    intro hn h
    obtain ⟨⟨a, b⟩, c, d⟩ := ih (by omega) (fun p hp => h p (by omega))
    have r := h n (by omega)
    have e1 : htH R (n + 1) = max (htH R n + 1) (R n) := rfl
    have e2 : htS R (n + 1) = htS R n + (htH R (n + 1) - R n) := rfl
    omega
/-- the first p places told, by some line R -/
def HtI (T : Nat → Int) (n : Nat) (p top sum : Int) : Prop := ∃ R : Nat → Int, (∀ q : Nat, (q : Int) < p → SoP T n (q : Int) (R q) ∧ 0 ≤ R q ∧ R q ≤ 99) ∧ top = htH R p.toNat ∧ sum = htS R p.toNat
theorem HtI_0 {T : Nat → Int} {n : Nat} : HtI T n 0 0 0 := ⟨fun _ => 0, fun q hq => by omega, rfl, rfl⟩
theorem HtI_s {T : Nat → Int} {n : Nat} {p p' top sum top' sum' x : Int} (h : HtI T n p top sum) (hp : 0 ≤ p) (hx : SoP T n p x) (rx : 0 ≤ x ∧ x ≤ 99) (ht : top' = max (top + 1) x) (hs : sum' = sum + (top' - x)) (e : p' = p + 1) : HtI T n p' top' sum' := by
  obtain ⟨R, h1, h2, h3⟩ := h
  have hc := ht_c (R := q_up R p.toNat x) (R' := R) p.toNat (fun q hq => q_up_n (by omega))
  have e1 : htH (q_up R p.toNat x) (p.toNat + 1) = max (htH (q_up R p.toNat x) p.toNat + 1) (q_up R p.toNat x p.toNat) := rfl
  have e2 : htS (q_up R p.toNat x) (p.toNat + 1) = htS (q_up R p.toNat x) p.toNat + (htH (q_up R p.toNat x) (p.toNat + 1) - q_up R p.toNat x p.toNat) := rfl
  rw [q_up_s, hc.1] at e1
  rw [q_up_s, hc.2] at e2
  refine ⟨q_up R p.toNat x, fun q hq => ?_, ?_, ?_⟩
  · by_cases c : (q : Int) = p
    · have eq : q = p.toNat := by omega
      rw [eq, q_up_s, show ((p.toNat : Nat) : Int) = p by omega]
      exact ⟨hx, rx⟩
    · rw [q_up_n (by omega)]
      exact h1 q (by omega)
  · rw [e, show (p + 1).toNat = p.toNat + 1 by omega, e1, ← h2]; exact ht
  · rw [e, show (p + 1).toNat = p.toNat + 1 by omega, e2, e1, ← h2, ← h3, ← ht]; exact hs
theorem HtI_rg {T : Nat → Int} {n : Nat} {p top sum : Int} (h : HtI T n p top sum) (hp : 0 ≤ p ∧ p ≤ 8) : (0 ≤ top ∧ top ≤ 99 + p) ∧ 0 ≤ sum ∧ sum ≤ 107 * p := by
  obtain ⟨R, h1, h2, h3⟩ := h
  have h9 := ht_rg (R := R) p.toNat (by omega) (fun q hq => (h1 q (by omega)).2)
  rw [← h2, ← h3] at h9
  omega
theorem HtI_u {T : Nat → Int} {n : Nat} {p t s t' s' : Int} (h : HtI T n p t s) (h' : HtI T n p t' s') : t = t' ∧ s = s' := by
  obtain ⟨R, h1, h2, h3⟩ := h
  obtain ⟨R', g1, g2, g3⟩ := h'
  have hc := ht_c (R := R) (R' := R') p.toNat (fun q hq => SoP_u (h1 q (by omega)).1 (g1 q (by omega)).1)
  rw [h2, h3, g2, g3]
  exact hc
/-- by place in the row: who has k ahead stands at n - 1 - k of the rising line -/
theorem rk_So1 {t : Nat → Int} {r : Nat} : ∀ m : Nat, cLt t (t r) m + cnA t (r : Int) m + (if r < m then 1 else 0) ≤ m := by
  intro m
  induction m with
  | zero => exact Int.le_refl 0
  | succ m ih =>
    show cLt t (t r) m + (if t m < t r then 1 else 0) + (cnA t (r : Int) m + (if t m > t ((r : Int)).toNat ∨ (t m = t ((r : Int)).toNat ∧ (m : Int) < (r : Int)) then 1 else 0)) + (if r < m + 1 then 1 else 0) ≤ ((m + 1 : Nat) : Int)
    rw [show ((r : Int)).toNat = r by omega]
    by_cases c1 : r < m
    · rw [if_pos c1] at ih
      rw [if_pos (show r < m + 1 by omega)]
      by_cases c2 : t m < t r
      · rw [if_pos c2, if_neg (show ¬ (t m > t r ∨ (t m = t r ∧ (m : Int) < (r : Int))) by omega)]; omega
      · rw [if_neg c2]
        split <;> omega
    · rw [if_neg c1] at ih
      by_cases c3 : r = m
      · subst c3
        rw [if_pos (show r < r + 1 by omega), if_neg (show ¬ t r < t r by omega), if_neg (show ¬ (t r > t r ∨ (t r = t r ∧ (r : Int) < (r : Int))) by omega)]
        omega
      · rw [if_neg (show ¬ r < m + 1 by omega)]
        by_cases c2 : t m < t r
        · rw [if_pos c2, if_neg (show ¬ (t m > t r ∨ (t m = t r ∧ (m : Int) < (r : Int))) by omega)]; omega
        · rw [if_neg c2]
          split <;> omega
theorem rk_So2 {t : Nat → Int} {r : Nat} : ∀ m : Nat, (m : Int) ≤ cnA t (r : Int) m + cLt t (t r + 1) m := by
  intro m
  induction m with
  | zero => exact Int.le_refl 0
  | succ m ih =>
    show ((m + 1 : Nat) : Int) ≤ (cnA t (r : Int) m + (if t m > t ((r : Int)).toNat ∨ (t m = t ((r : Int)).toNat ∧ (m : Int) < (r : Int)) then 1 else 0)) + (cLt t (t r + 1) m + (if t m < t r + 1 then 1 else 0))
    rw [show ((r : Int)).toNat = r by omega]
    by_cases c2 : t m < t r + 1
    · rw [if_pos c2]
      split <;> omega
    · rw [if_neg c2, if_pos (show t m > t r ∨ (t m = t r ∧ (m : Int) < (r : Int)) from Or.inl (by omega))]
      omega
theorem rk_So {t T : Nat → Int} {n : Nat} {k r p x : Int} (hT : ∀ i : Nat, i < 8 → t i = T i) (hn : n ≤ 8) (h : (0 ≤ r ∧ r < (n : Int)) ∧ cnA t r n = k) (hp : p = (n : Int) - 1 - k) (hx : x = t r.toNat) : SoP T n p x := by
  obtain ⟨h1, h2⟩ := h
  have a := rk_So1 (t := t) (r := r.toNat) n
  have b := rk_So2 (t := t) (r := r.toNat) n
  rw [if_pos (show r.toNat < n by omega)] at a
  rw [show ((r.toNat : Nat) : Int) = r by omega, h2, ← hx] at a b
  refine ⟨?_, ?_⟩
  · rw [← cLt_c n (fun i hi => hT i (by omega))]; omega
  · rw [← cLt_c n (fun i hi => hT i (by omega))]; omega
def HtA (D : Nat → Int) (b z : Int) : Prop := ∃ top sum : Int, HtI (inW D) (D 0).toNat (D 0) top sum ∧ (¬ b = 0 ∧ z = top ∨ b = 0 ∧ z = sum)
theorem HtA_u {D : Nat → Int} {b z z' : Int} (h : HtA D b z) (h' : HtA D b z') : z = z' := by
  obtain ⟨t, s, a, c⟩ := h
  obtain ⟨t', s', a', c'⟩ := h'
  obtain ⟨e1, e2⟩ := HtI_u a a'
  rcases c with ⟨c, d⟩ | ⟨c, d⟩ <;> rcases c' with ⟨c', d'⟩ | ⟨c', d'⟩
  · rw [d, d', e1]
  · exact absurd c' c
  · exact absurd c c'
  · rw [d, d', e2]
theorem SoP_rg {T : Nat → Int} {n : Nat} {p v : Int} (hT : ∀ i : Nat, i < n → 0 ≤ T i ∧ T i ≤ 99) (h : SoP T n p v) (hp : 0 ≤ p ∧ p < (n : Int)) : 0 ≤ v ∧ v ≤ 99 := by
  obtain ⟨a, b⟩ := h
  refine ⟨?_, ?_⟩
  · by_cases c : 0 ≤ v
    · exact c
    · have := cLt_le (f := T) (v := v + 1) (p := 0) n (by omega) (fun j h1 h2 => by have := hT j h2; omega)
      omega
  · by_cases c : v ≤ 99
    · exact c
    · have := cLt_ge (f := T) (v := v) (p := n) n (Nat.le_refl n) (fun j h1 => by have := hT j h1; omega)
      omega
theorem LiP_0 {T R : Nat → Int} : LiP T R 0 := ⟨fun i j h1 h2 => by omega, fun v => rfl⟩
theorem LiQ_b {T R : Nat → Int} {k : Int} (hk : 0 ≤ k) (h : LiP T R k.toNat) : LiQ T R k.toNat k := by
  have g := LiQ_0 h
  rw [show ((k.toNat : Nat) : Int) = k by omega] at g
  exact g
/-- the one at place p of the line -/
theorem LiP_x {T R : Nat → Int} {n p x : Int} (h : LiP T R n.toNat) (hp : 0 ≤ p ∧ p < n) (hx : x = R p.toNat) : SoP T n.toNat p x := by
  have g := LiP_So h (p := p.toNat) (by omega)
  rw [show ((p.toNat : Nat) : Int) = p by omega, ← hx] at g
  exact g
theorem inW_rg {D : Nat → Int} (hK : BK D) {n : Nat} (hn : n ≤ 8) : ∀ i : Nat, i < n → 0 ≤ inW D i ∧ inW D i ≤ 99 := fun i hi => BK_i hK (i := i) (by omega)
theorem RkT_0 {t : Nat → Int} {n k z : Int} (h : RkT t n k z) (hk : 0 ≤ k ∧ k < n) : (0 ≤ z ∧ z < n) ∧ cnA t z n.toNat = k := by
  rcases h with ⟨a, b, -⟩ | ⟨a, -⟩
  · exact ⟨a, b⟩
  · exact (rk_e a (Int.le_refl n) hk.1 hk.2).elim

theorem dG1_lineUp_0 : decode cX1_lineUp 0 = .ok (.iconst 0, 1) := by decide +kernel
theorem dG1_lineUp_1 : decode cX1_lineUp 1 = .ok (.istore_n 2, 1) := by decide +kernel
theorem dG1_lineUp_2 : decode cX1_lineUp 2 = .ok (.iload_n 2, 1) := by decide +kernel
theorem dG1_lineUp_3 : decode cX1_lineUp 3 = .ok (.aload_n 1, 1) := by decide +kernel
theorem dG1_lineUp_4 : decode cX1_lineUp 4 = .ok (.getfield 22, 3) := by decide +kernel
theorem dG1_lineUp_7 : decode cX1_lineUp 7 = .ok (.if_icmp .ge 64, 3) := by decide +kernel
theorem dG1_lineUp_10 : decode cX1_lineUp 10 = .ok (.iload_n 2, 1) := by decide +kernel
theorem dG1_lineUp_11 : decode cX1_lineUp 11 = .ok (.istore_n 3, 1) := by decide +kernel
theorem dG1_lineUp_12 : decode cX1_lineUp 12 = .ok (.iload_n 3, 1) := by decide +kernel
theorem dG1_lineUp_13 : decode cX1_lineUp 13 = .ok (.ifCond .le 40, 3) := by decide +kernel
theorem dG1_lineUp_16 : decode cX1_lineUp 16 = .ok (.aload_n 0, 1) := by decide +kernel
theorem dG1_lineUp_17 : decode cX1_lineUp 17 = .ok (.getfield 9, 3) := by decide +kernel
theorem dG1_lineUp_20 : decode cX1_lineUp 20 = .ok (.iload_n 3, 1) := by decide +kernel
theorem dG1_lineUp_21 : decode cX1_lineUp 21 = .ok (.iconst 1, 1) := by decide +kernel
theorem dG1_lineUp_22 : decode cX1_lineUp 22 = .ok (.isub, 1) := by decide +kernel
theorem dG1_lineUp_23 : decode cX1_lineUp 23 = .ok (.iaload, 1) := by decide +kernel
theorem dG1_lineUp_24 : decode cX1_lineUp 24 = .ok (.aload_n 1, 1) := by decide +kernel
theorem dG1_lineUp_25 : decode cX1_lineUp 25 = .ok (.getfield 28, 3) := by decide +kernel
theorem dG1_lineUp_28 : decode cX1_lineUp 28 = .ok (.iload_n 2, 1) := by decide +kernel
theorem dG1_lineUp_29 : decode cX1_lineUp 29 = .ok (.iaload, 1) := by decide +kernel
theorem dG1_lineUp_30 : decode cX1_lineUp 30 = .ok (.if_icmp .le 23, 3) := by decide +kernel
theorem dG1_lineUp_33 : decode cX1_lineUp 33 = .ok (.aload_n 0, 1) := by decide +kernel
theorem dG1_lineUp_34 : decode cX1_lineUp 34 = .ok (.getfield 9, 3) := by decide +kernel
theorem dG1_lineUp_37 : decode cX1_lineUp 37 = .ok (.iload_n 3, 1) := by decide +kernel
theorem dG1_lineUp_38 : decode cX1_lineUp 38 = .ok (.aload_n 0, 1) := by decide +kernel
theorem dG1_lineUp_39 : decode cX1_lineUp 39 = .ok (.getfield 9, 3) := by decide +kernel
theorem dG1_lineUp_42 : decode cX1_lineUp 42 = .ok (.iload_n 3, 1) := by decide +kernel
theorem dG1_lineUp_43 : decode cX1_lineUp 43 = .ok (.iconst 1, 1) := by decide +kernel
theorem dG1_lineUp_44 : decode cX1_lineUp 44 = .ok (.isub, 1) := by decide +kernel
theorem dG1_lineUp_45 : decode cX1_lineUp 45 = .ok (.iaload, 1) := by decide +kernel
theorem dG1_lineUp_46 : decode cX1_lineUp 46 = .ok (.iastore, 1) := by decide +kernel
theorem dG1_lineUp_47 : decode cX1_lineUp 47 = .ok (.iinc 3 (-1), 3) := by decide +kernel
theorem dG1_lineUp_50 : decode cX1_lineUp 50 = .ok (.goto (-38), 3) := by decide +kernel
theorem dG1_lineUp_53 : decode cX1_lineUp 53 = .ok (.aload_n 0, 1) := by decide +kernel
theorem dG1_lineUp_54 : decode cX1_lineUp 54 = .ok (.getfield 9, 3) := by decide +kernel
theorem dG1_lineUp_57 : decode cX1_lineUp 57 = .ok (.iload_n 3, 1) := by decide +kernel
theorem dG1_lineUp_58 : decode cX1_lineUp 58 = .ok (.aload_n 1, 1) := by decide +kernel
theorem dG1_lineUp_59 : decode cX1_lineUp 59 = .ok (.getfield 28, 3) := by decide +kernel
theorem dG1_lineUp_62 : decode cX1_lineUp 62 = .ok (.iload_n 2, 1) := by decide +kernel
theorem dG1_lineUp_63 : decode cX1_lineUp 63 = .ok (.iaload, 1) := by decide +kernel
theorem dG1_lineUp_64 : decode cX1_lineUp 64 = .ok (.iastore, 1) := by decide +kernel
theorem dG1_lineUp_65 : decode cX1_lineUp 65 = .ok (.iinc 2 1, 3) := by decide +kernel
theorem dG1_lineUp_68 : decode cX1_lineUp 68 = .ok (.goto (-66), 3) := by decide +kernel
theorem dG1_lineUp_71 : decode cX1_lineUp 71 = .ok (.return_, 1) := by decide +kernel
def is_G1_lineUp : Nat → List Nat := fun d => if d = 2 then [0, 1, 2] else if d = 12 then [0, 1, 2, 3] else []
set_option maxRecDepth 100000 in
def b_G1_lineUp_53 (J : Nat → List qV → List qV → qW → Prop) (Q : qR) : qK := x_aload 0 (x_get 1 0 (x_iload 3 (x_aload 1 (x_get 0 0 (x_iload 2 (x_iald (x_iast (x_nw (x_iinc 2 1 (x_cut [0, 1, 2] (J 2)))))))))))
set_option maxRecDepth 100000 in
theorem s_G1_lineUp_53 {p : Program} {l : Launch} {e : Env} {R : Room} {s : State} {m : MethodId} {args : Array Value} {below : List Frame} {meth : Method} {c : Code} {nW : Nat} {dC : Nat → ClassId} {dI : Nat → Nat → Nat} {k : Nat → ClassId} {g : Nat → Nat} {A : Nat → Prop} {J : Nat → List qV → List qV → qW → Prop} {Q : qR} (X : q_X p R s m args meth c cX1_lineUp 4 nW 0 0 RX1 none dC dI k g A) (hJ : ∀ d : Nat, q_Sd p l e R s m args below meth c 4 nW dC dI k g A (MQ below (q_post (dC, dI) k g nW Q A) args s 0 0 A) d (x_cut (is_G1_lineUp d) (J d))) : q_Sd p l e R s m args below meth c 4 nW dC dI k g A (MQ below (q_post (dC, dI) k g nW Q A) args s 0 0 A) 53 (b_G1_lineUp_53 J Q) := by
  unfold b_G1_lineUp_53
  refine s_aload_n X rfl dG1_lineUp_53 ?_
  refine s_get X (T := TX1) (C := RX1) (N := 3) tu_X1 rfl (by decide) tw_323 dG1_lineUp_54 ?_
  refine s_iload_n X rfl dG1_lineUp_57 ?_
  refine s_aload_n X rfl dG1_lineUp_58 ?_
  refine s_get X (T := TX0) (C := RX0) (N := 12) tu_X0 rfl (by decide) tw_166 dG1_lineUp_59 ?_
  refine s_iload_n X rfl dG1_lineUp_62 ?_
  refine s_iald X dG1_lineUp_63 ?_
  refine s_iast X dG1_lineUp_64 ?_
  refine s_nw ?_
  refine s_iinc X (by decide) dG1_lineUp_65 ?_
  refine s_goto X (tgt := 2) dG1_lineUp_68 (by decide) ?_
  exact hJ 2
set_option maxRecDepth 100000 in
def b_G1_lineUp_50 (J : Nat → List qV → List qV → qW → Prop) (Q : qR) : qK := x_cut [0, 1, 2, 3] (J 12)
set_option maxRecDepth 100000 in
theorem s_G1_lineUp_50 {p : Program} {l : Launch} {e : Env} {R : Room} {s : State} {m : MethodId} {args : Array Value} {below : List Frame} {meth : Method} {c : Code} {nW : Nat} {dC : Nat → ClassId} {dI : Nat → Nat → Nat} {k : Nat → ClassId} {g : Nat → Nat} {A : Nat → Prop} {J : Nat → List qV → List qV → qW → Prop} {Q : qR} (X : q_X p R s m args meth c cX1_lineUp 4 nW 0 0 RX1 none dC dI k g A) (hJ : ∀ d : Nat, q_Sd p l e R s m args below meth c 4 nW dC dI k g A (MQ below (q_post (dC, dI) k g nW Q A) args s 0 0 A) d (x_cut (is_G1_lineUp d) (J d))) : q_Sd p l e R s m args below meth c 4 nW dC dI k g A (MQ below (q_post (dC, dI) k g nW Q A) args s 0 0 A) 50 (b_G1_lineUp_50 J Q) := by
  unfold b_G1_lineUp_50
  refine s_goto X (tgt := 12) dG1_lineUp_50 (by decide) ?_
  exact hJ 12
set_option maxRecDepth 100000 in
def b_G1_lineUp_12 (J : Nat → List qV → List qV → qW → Prop) (Q : qR) : qK := x_iload 3 (x_if_le (b_G1_lineUp_53 J Q) (x_aload 0 (x_get 1 0 (x_iload 3 (x_int 1 (x_isub (x_iald (x_aload 1 (x_get 0 0 (x_iload 2 (x_iald (x_icmp_le (b_G1_lineUp_53 J Q) (x_aload 0 (x_get 1 0 (x_iload 3 (x_aload 0 (x_get 1 0 (x_iload 3 (x_int 1 (x_isub (x_iald (x_iast (x_nw (x_iinc 3 (-1) (b_G1_lineUp_50 J Q)))))))))))))))))))))))))
set_option maxRecDepth 100000 in
theorem s_G1_lineUp_12 {p : Program} {l : Launch} {e : Env} {R : Room} {s : State} {m : MethodId} {args : Array Value} {below : List Frame} {meth : Method} {c : Code} {nW : Nat} {dC : Nat → ClassId} {dI : Nat → Nat → Nat} {k : Nat → ClassId} {g : Nat → Nat} {A : Nat → Prop} {J : Nat → List qV → List qV → qW → Prop} {Q : qR} (X : q_X p R s m args meth c cX1_lineUp 4 nW 0 0 RX1 none dC dI k g A) (hJ : ∀ d : Nat, q_Sd p l e R s m args below meth c 4 nW dC dI k g A (MQ below (q_post (dC, dI) k g nW Q A) args s 0 0 A) d (x_cut (is_G1_lineUp d) (J d))) : q_Sd p l e R s m args below meth c 4 nW dC dI k g A (MQ below (q_post (dC, dI) k g nW Q A) args s 0 0 A) 12 (b_G1_lineUp_12 J Q) := by
  unfold b_G1_lineUp_12
  refine s_iload_n X rfl dG1_lineUp_12 ?_
  refine s_if_le X (tgt := 53) dG1_lineUp_13 (by decide) ?_ ?_
  · exact s_G1_lineUp_53 X hJ
  · refine s_aload_n X rfl dG1_lineUp_16 ?_
    refine s_get X (T := TX1) (C := RX1) (N := 3) tu_X1 rfl (by decide) tw_323 dG1_lineUp_17 ?_
    refine s_iload_n X rfl dG1_lineUp_20 ?_
    refine s_iconst X ⟨by decide, by decide⟩ dG1_lineUp_21 ?_
    refine s_isub X dG1_lineUp_22 ?_
    refine s_iald X dG1_lineUp_23 ?_
    refine s_aload_n X rfl dG1_lineUp_24 ?_
    refine s_get X (T := TX0) (C := RX0) (N := 12) tu_X0 rfl (by decide) tw_166 dG1_lineUp_25 ?_
    refine s_iload_n X rfl dG1_lineUp_28 ?_
    refine s_iald X dG1_lineUp_29 ?_
    refine s_icmp_le X (tgt := 53) dG1_lineUp_30 (by decide) ?_ ?_
    · exact s_G1_lineUp_53 X hJ
    · refine s_aload_n X rfl dG1_lineUp_33 ?_
      refine s_get X (T := TX1) (C := RX1) (N := 3) tu_X1 rfl (by decide) tw_323 dG1_lineUp_34 ?_
      refine s_iload_n X rfl dG1_lineUp_37 ?_
      refine s_aload_n X rfl dG1_lineUp_38 ?_
      refine s_get X (T := TX1) (C := RX1) (N := 3) tu_X1 rfl (by decide) tw_323 dG1_lineUp_39 ?_
      refine s_iload_n X rfl dG1_lineUp_42 ?_
      refine s_iconst X ⟨by decide, by decide⟩ dG1_lineUp_43 ?_
      refine s_isub X dG1_lineUp_44 ?_
      refine s_iald X dG1_lineUp_45 ?_
      refine s_iast X dG1_lineUp_46 ?_
      refine s_nw ?_
      refine s_iinc X (by decide) dG1_lineUp_47 ?_
      exact s_G1_lineUp_50 X hJ
set_option maxRecDepth 100000 in
def b_G1_lineUp_2 (J : Nat → List qV → List qV → qW → Prop) (Q : qR) : qK := x_iload 2 (x_aload 1 (x_get 0 7 (x_icmp_ge (x_vret Q) (x_iload 2 (x_istore 3 (x_cut [0, 1, 2, 3] (J 12)))))))
set_option maxRecDepth 100000 in
theorem s_G1_lineUp_2 {p : Program} {l : Launch} {e : Env} {R : Room} {s : State} {m : MethodId} {args : Array Value} {below : List Frame} {meth : Method} {c : Code} {nW : Nat} {dC : Nat → ClassId} {dI : Nat → Nat → Nat} {k : Nat → ClassId} {g : Nat → Nat} {A : Nat → Prop} {J : Nat → List qV → List qV → qW → Prop} {Q : qR} (X : q_X p R s m args meth c cX1_lineUp 4 nW 0 0 RX1 none dC dI k g A) (hJ : ∀ d : Nat, q_Sd p l e R s m args below meth c 4 nW dC dI k g A (MQ below (q_post (dC, dI) k g nW Q A) args s 0 0 A) d (x_cut (is_G1_lineUp d) (J d))) : q_Sd p l e R s m args below meth c 4 nW dC dI k g A (MQ below (q_post (dC, dI) k g nW Q A) args s 0 0 A) 2 (b_G1_lineUp_2 J Q) := by
  unfold b_G1_lineUp_2
  refine s_iload_n X rfl dG1_lineUp_2 ?_
  refine s_aload_n X rfl dG1_lineUp_3 ?_
  refine s_get X (T := TX0) (C := RX0) (N := 12) tu_X0 rfl (by decide) tw_192 dG1_lineUp_4 ?_
  refine s_icmp_ge X (tgt := 71) dG1_lineUp_7 (by decide) ?_ ?_
  · exact s_vret X dG1_lineUp_71
  · refine s_iload_n X rfl dG1_lineUp_10 ?_
    refine s_istore_n X rfl (by decide) dG1_lineUp_11 ?_
    exact hJ 12
set_option maxRecDepth 100000 in
def b_G1_lineUp_0 (J : Nat → List qV → List qV → qW → Prop) (Q : qR) : qK := x_int 0 (x_istore 2 (x_cut [0, 1, 2] (J 2)))
set_option maxRecDepth 100000 in
theorem s_G1_lineUp_0 {p : Program} {l : Launch} {e : Env} {R : Room} {s : State} {m : MethodId} {args : Array Value} {below : List Frame} {meth : Method} {c : Code} {nW : Nat} {dC : Nat → ClassId} {dI : Nat → Nat → Nat} {k : Nat → ClassId} {g : Nat → Nat} {A : Nat → Prop} {J : Nat → List qV → List qV → qW → Prop} {Q : qR} (X : q_X p R s m args meth c cX1_lineUp 4 nW 0 0 RX1 none dC dI k g A) (hJ : ∀ d : Nat, q_Sd p l e R s m args below meth c 4 nW dC dI k g A (MQ below (q_post (dC, dI) k g nW Q A) args s 0 0 A) d (x_cut (is_G1_lineUp d) (J d))) : q_Sd p l e R s m args below meth c 4 nW dC dI k g A (MQ below (q_post (dC, dI) k g nW Q A) args s 0 0 A) 0 (b_G1_lineUp_0 J Q) := by
  unfold b_G1_lineUp_0
  refine s_iconst X ⟨by decide, by decide⟩ dG1_lineUp_0 ?_
  refine s_istore_n X rfl (by decide) dG1_lineUp_1 ?_
  exact hJ 2

def sp_G1_lineUp : qS := fun av w Q => ∃ (c1 : Nat → Int) (c2 : Nat → Int) (c3 : Nat → Int) (f1 : Nat → Int) (f2 : Nat → Int) (f3 : Nat → Int) (f4 : Nat → Int) (f5 : Nat → Int) (f6 : Nat → Int) (f7 : Nat → Int) (u0 : Int) (u1 : Int) (u2 : Int) (u3 : Int) (u4 : Int) (D : Nat → Int), av = [q2 0, q2 4] ∧ w = (wCo 0 c1 c2 c3 ++ wBo 4 f1 f2 f3 f4 f5 f6 f7 u0 u1 u2 u3 u4) ∧ (0 ≤ u0 ∧ u0 ≤ 8) ∧ (CBK f1 f2 f3 f4 f5 f6 f7 u0 u1 u2 u3 u4 D) ∧ (∀ (x1 : Nat → Int), LiP (inW D) x1 u0.toNat → Q none ((wCo 0 x1 c2 c3 ++ wBo 4 f1 f2 f3 f4 f5 f6 f7 u0 u1 u2 u3 u4)))
def I_G1_lineUp (c1 : Nat → Int) (c2 : Nat → Int) (c3 : Nat → Int) (f1 : Nat → Int) (f2 : Nat → Int) (f3 : Nat → Int) (f4 : Nat → Int) (f5 : Nat → Int) (f6 : Nat → Int) (f7 : Nat → Int) (u0 : Int) (u1 : Int) (u2 : Int) (u3 : Int) (u4 : Int) (D : Nat → Int) : Nat → Nat → List qV → List qV → qW → Prop := fun dz mz vz sz wz => if dz = 2 then (∃ (y1 : Nat → Int) (v2 : Int), vz = [q2 0, q2 4, q1 v2] ∧ sz = [] ∧ wz = (wCo 0 y1 c2 c3 ++ wBo 4 f1 f2 f3 f4 f5 f6 f7 u0 u1 u2 u3 u4) ∧ mz = 100 * (u0 - v2).toNat ∧ (0 ≤ v2 ∧ v2 ≤ u0) ∧ (LiP (inW D) y1 v2.toNat)) else if dz = 12 then (∃ (y1 : Nat → Int) (v2 : Int) (v3 : Int), vz = [q2 0, q2 4, q1 v2, q1 v3] ∧ sz = [] ∧ wz = (wCo 0 y1 c2 c3 ++ wBo 4 f1 f2 f3 f4 f5 f6 f7 u0 u1 u2 u3 u4) ∧ mz = 100 * (u0 - v2).toNat - 50 + v3.toNat ∧ (0 ≤ v2 ∧ v2 < u0 ∧ 0 ≤ v3 ∧ v3 ≤ v2) ∧ (LiQ (inW D) y1 v2.toNat v3)) else False
set_option maxHeartbeats 4000000 in
set_option maxRecDepth 100000 in
theorem m_G1_lineUp (l : Launch) : q_M l yX1_lineUp cX1_lineUp 4 none 0 0 sp_G1_lineUp := by
  refine q_meth (by decide) (fun av w Q h => by obtain ⟨c1, c2, c3, f1, f2, f3, f4, f5, f6, f7, u0, u1, u2, u3, u4, D, rfl, rfl, hu0, hD, hQ⟩ := h; exact Nat.le_of_ble_eq_true rfl) ?_
  intro p e R s m args below meth c dC dI k g A av w Q hsp oka okw X
  obtain ⟨c1, c2, c3, f1, f2, f3, f4, f5, f6, f7, u0, u1, u2, u3, u4, D, rfl, rfl, hu0, hD, hQ⟩ := hsp
  refine s_mono (s_G1_lineUp_0 X (J := fun dz vz sz wz => ∃ mz, I_G1_lineUp c1 c2 c3 f1 f2 f3 f4 f5 f6 f7 u0 u1 u2 u3 u4 D dz mz vz sz wz) (q_loopn (I_G1_lineUp c1 c2 c3 f1 f2 f3 f4 f5 f6 f7 u0 u1 u2 u3 u4 D) (fun dz J => if dz = 2 then b_G1_lineUp_2 J Q else if dz = 12 then b_G1_lineUp_12 J Q else q_F) ?hs ?hv)) ?_
  case hs =>
    intro d J hJ
    by_cases h2 : d = 2
    · subst h2; exact s_G1_lineUp_2 X hJ
    by_cases h12 : d = 12
    · subst h12; exact s_G1_lineUp_12 X hJ
    simp only [h2, h12, if_false]
    exact s_F
  case hv =>
    intro dz mz vz sz wz hI okv oks okw hlen
    by_cases h2 : dz = 2
    · subst h2
      obtain ⟨y1, v2, rfl, rfl, rfl, hn, hp, hs9⟩ := hI
      have hu := cb_u0 hD
      apply And.intro
      · intro h7
        exact hQ _ (by rw [show u0 = v2 by omega]; exact hs9)
      · intro h7
        exact ⟨_, ⟨_, _, _, rfl, rfl, rfl, rfl, (by first | omega | assumption | exact q_rg_up (by assumption) (by omega) | exact q_rg_up (q_rg_up (by assumption) (by omega)) (by omega) | exact q_rg_cpy (by assumption) (by assumption)), (by first | exact LiQ_b (by omega) hs9 | exact LiQ_s hs9 (by omega) (by rw [h45, show z44 = z47 by omega]) (show D (5 + v2.toNat) < z45 by omega) (by omega))⟩, by omega⟩
    by_cases h12 : dz = 12
    · subst h12
      obtain ⟨y1, v2, v3, rfl, rfl, rfl, hn, hp, hs9⟩ := hI
      have hu := cb_u0 hD
      apply And.intro
      · intro h13
        apply And.intro
        · exact ⟨by omega, by omega⟩
        intro z63 h63
        obtain ⟨i63, j63⟩ := cb_i hD h63 (by omega)
        apply And.intro
        · exact ⟨by omega, by omega⟩
        intro z65 h65
        first | replace h65 := e_add h65 (by omega) | replace h65 := e_rng h65
        exact ⟨_, ⟨_, _, rfl, rfl, rfl, rfl, (by first | omega | assumption | exact q_rg_up (by assumption) (by omega) | exact q_rg_up (q_rg_up (by assumption) (by omega)) (by omega) | exact q_rg_cpy (by assumption) (by assumption)), (by first | exact LiP_0 | (rw [show z65.toNat = v2.toNat + 1 by omega, show z63 = inW D v2.toNat from i63]; exact LiQ_e hs9 (by first | exact Or.inl (by omega) | exact Or.inr (by rw [show v3 - 1 = z22 by omega, ← h23]; show z23 ≤ D (5 + v2.toNat); omega))))⟩, by omega⟩
      · intro h13
        intro z22 h22
        first | replace h22 := e_sub h22 (by omega) | replace h22 := e_rng h22
        apply And.intro
        · exact ⟨by omega, by omega⟩
        intro z23 h23
        apply And.intro
        · exact ⟨by omega, by omega⟩
        intro z29 h29
        obtain ⟨i29, j29⟩ := cb_i hD h29 (by omega)
        apply And.intro
        · intro h30
          apply And.intro
          · exact ⟨by omega, by omega⟩
          intro z63 h63
          obtain ⟨i63, j63⟩ := cb_i hD h63 (by omega)
          apply And.intro
          · exact ⟨by omega, by omega⟩
          intro z65 h65
          first | replace h65 := e_add h65 (by omega) | replace h65 := e_rng h65
          exact ⟨_, ⟨_, _, rfl, rfl, rfl, rfl, (by first | omega | assumption | exact q_rg_up (by assumption) (by omega) | exact q_rg_up (q_rg_up (by assumption) (by omega)) (by omega) | exact q_rg_cpy (by assumption) (by assumption)), (by first | exact LiP_0 | (rw [show z65.toNat = v2.toNat + 1 by omega, show z63 = inW D v2.toNat from i63]; exact LiQ_e hs9 (by first | exact Or.inl (by omega) | exact Or.inr (by rw [show v3 - 1 = z22 by omega, ← h23]; show z23 ≤ D (5 + v2.toNat); omega))))⟩, by omega⟩
        · intro h30
          intro z44 h44
          first | replace h44 := e_sub h44 (by omega) | replace h44 := e_rng h44
          apply And.intro
          · exact ⟨by omega, by omega⟩
          intro z45 h45
          have e45 : z45 = z23 := by rw [h45, h23, show z44 = z22 by omega]
          apply And.intro
          · exact ⟨by omega, by omega⟩
          intro z47 h47
          first | replace h47 := e_add h47 (by omega) | replace h47 := e_rng h47
          exact ⟨_, ⟨_, _, _, rfl, rfl, rfl, rfl, (by first | omega | assumption | exact q_rg_up (by assumption) (by omega) | exact q_rg_up (q_rg_up (by assumption) (by omega)) (by omega) | exact q_rg_cpy (by assumption) (by assumption)), (by first | exact LiQ_b (by omega) hs9 | exact LiQ_s hs9 (by omega) (by rw [h45, show z44 = z47 by omega]) (show D (5 + v2.toNat) < z45 by omega) (by omega))⟩, by omega⟩
    simp only [I_G1_lineUp, h2, h12, if_false] at hI
  rintro lv st w' ⟨rfl, rfl, rfl⟩
  exact ⟨_, _, _, rfl, rfl, rfl, rfl, (by first | omega | assumption | exact q_rg_up (by assumption) (by omega) | exact q_rg_up (q_rg_up (by assumption) (by omega)) (by omega) | exact q_rg_cpy (by assumption) (by assumption)), (by first | exact LiP_0 | (rw [show z65.toNat = v2.toNat + 1 by omega, show z63 = inW D v2.toNat from i63]; exact LiQ_e hs9 (by first | exact Or.inl (by omega) | exact Or.inr (by rw [show v3 - 1 = z22 by omega, ← h23]; show z23 ≤ D (5 + v2.toNat); omega))))⟩

theorem dG1_highestHat_0 : decode cX1_highestHat 0 = .ok (.aload_n 0, 1) := by decide +kernel
theorem dG1_highestHat_1 : decode cX1_highestHat 1 = .ok (.aload_n 1, 1) := by decide +kernel
theorem dG1_highestHat_2 : decode cX1_highestHat 2 = .ok (.invokevirtual 31, 3) := by decide +kernel
theorem dG1_highestHat_5 : decode cX1_highestHat 5 = .ok (.iconst 0, 1) := by decide +kernel
theorem dG1_highestHat_6 : decode cX1_highestHat 6 = .ok (.istore_n 2, 1) := by decide +kernel
theorem dG1_highestHat_7 : decode cX1_highestHat 7 = .ok (.iconst 0, 1) := by decide +kernel
theorem dG1_highestHat_8 : decode cX1_highestHat 8 = .ok (.istore_n 3, 1) := by decide +kernel
theorem dG1_highestHat_9 : decode cX1_highestHat 9 = .ok (.iload_n 3, 1) := by decide +kernel
theorem dG1_highestHat_10 : decode cX1_highestHat 10 = .ok (.aload_n 1, 1) := by decide +kernel
theorem dG1_highestHat_11 : decode cX1_highestHat 11 = .ok (.getfield 22, 3) := by decide +kernel
theorem dG1_highestHat_14 : decode cX1_highestHat 14 = .ok (.if_icmp .ge 22, 3) := by decide +kernel
theorem dG1_highestHat_17 : decode cX1_highestHat 17 = .ok (.iload_n 2, 1) := by decide +kernel
theorem dG1_highestHat_18 : decode cX1_highestHat 18 = .ok (.iconst 1, 1) := by decide +kernel
theorem dG1_highestHat_19 : decode cX1_highestHat 19 = .ok (.iadd, 1) := by decide +kernel
theorem dG1_highestHat_20 : decode cX1_highestHat 20 = .ok (.aload_n 0, 1) := by decide +kernel
theorem dG1_highestHat_21 : decode cX1_highestHat 21 = .ok (.getfield 9, 3) := by decide +kernel
theorem dG1_highestHat_24 : decode cX1_highestHat 24 = .ok (.iload_n 3, 1) := by decide +kernel
theorem dG1_highestHat_25 : decode cX1_highestHat 25 = .ok (.iaload, 1) := by decide +kernel
theorem dG1_highestHat_26 : decode cX1_highestHat 26 = .ok (.invokestatic 45, 3) := by decide +kernel
theorem dG1_highestHat_29 : decode cX1_highestHat 29 = .ok (.istore_n 2, 1) := by decide +kernel
theorem dG1_highestHat_30 : decode cX1_highestHat 30 = .ok (.iinc 3 1, 3) := by decide +kernel
theorem dG1_highestHat_33 : decode cX1_highestHat 33 = .ok (.goto (-24), 3) := by decide +kernel
theorem dG1_highestHat_36 : decode cX1_highestHat 36 = .ok (.iload_n 2, 1) := by decide +kernel
theorem dG1_highestHat_37 : decode cX1_highestHat 37 = .ok (.ireturn, 1) := by decide +kernel
def is_G1_highestHat : Nat → List Nat := fun d => if d = 9 then [0, 1, 2, 3] else []
set_option maxRecDepth 100000 in
def b_G1_highestHat_9 (J : Nat → List qV → List qV → qW → Prop) (Q : qR) : qK := x_iload 3 (x_aload 1 (x_get 0 7 (x_icmp_ge (x_iload 2 (x_iret Q)) (x_iload 2 (x_int 1 (x_iadd (x_aload 0 (x_get 1 0 (x_iload 3 (x_iald (x_max (x_istore 2 (x_iinc 3 1 (x_cut [0, 1, 2, 3] (J 9)))))))))))))))
set_option maxRecDepth 100000 in
theorem s_G1_highestHat_9 {p : Program} {l : Launch} {e : Env} {R : Room} {s : State} {m : MethodId} {args : Array Value} {below : List Frame} {meth : Method} {c : Code} {nW : Nat} {dC : Nat → ClassId} {dI : Nat → Nat → Nat} {k : Nat → ClassId} {g : Nat → Nat} {A : Nat → Prop} {J : Nat → List qV → List qV → qW → Prop} {Q : qR} (X : q_X p R s m args meth c cX1_highestHat 4 nW 1 23 RX1 (some .int) dC dI k g A) (hJ : ∀ d : Nat, q_Sd p l e R s m args below meth c 4 nW dC dI k g A (MQ below (q_post (dC, dI) k g nW Q A) args s 0 0 A) d (x_cut (is_G1_highestHat d) (J d))) : q_Sd p l e R s m args below meth c 4 nW dC dI k g A (MQ below (q_post (dC, dI) k g nW Q A) args s 0 0 A) 9 (b_G1_highestHat_9 J Q) := by
  unfold b_G1_highestHat_9
  refine s_iload_n X rfl dG1_highestHat_9 ?_
  refine s_aload_n X rfl dG1_highestHat_10 ?_
  refine s_get X (T := TX0) (C := RX0) (N := 12) tu_X0 rfl (by decide) tw_192 dG1_highestHat_11 ?_
  refine s_icmp_ge X (tgt := 36) dG1_highestHat_14 (by decide) ?_ ?_
  · refine s_iload_n X rfl dG1_highestHat_36 ?_
    exact s_iret X dG1_highestHat_37
  · refine s_iload_n X rfl dG1_highestHat_17 ?_
    refine s_iconst X ⟨by decide, by decide⟩ dG1_highestHat_18 ?_
    refine s_iadd X dG1_highestHat_19 ?_
    refine s_aload_n X rfl dG1_highestHat_20 ?_
    refine s_get X (T := TX1) (C := RX1) (N := 3) tu_X1 rfl (by decide) tw_323 dG1_highestHat_21 ?_
    refine s_iload_n X rfl dG1_highestHat_24 ?_
    refine s_iald X dG1_highestHat_25 ?_
    refine s_max X tw_703 tw_531 tw_135 tw_532 ⟨by decide, by decide⟩ dG1_highestHat_26 ?_
    refine s_istore_n X rfl (by decide) dG1_highestHat_29 ?_
    refine s_iinc X (by decide) dG1_highestHat_30 ?_
    refine s_goto X (tgt := 9) dG1_highestHat_33 (by decide) ?_
    exact hJ 9
set_option maxRecDepth 100000 in
def b_G1_highestHat_0 (J : Nat → List qV → List qV → qW → Prop) (Q : qR) : qK := x_aload 0 (x_aload 1 (x_call (some 1) 2 sp_G1_lineUp (x_nw (x_int 0 (x_istore 2 (x_int 0 (x_istore 3 (x_cut [0, 1, 2, 3] (J 9)))))))))
set_option maxRecDepth 100000 in
theorem s_G1_highestHat_0 {p : Program} {l : Launch} {e : Env} {R : Room} {s : State} {m : MethodId} {args : Array Value} {below : List Frame} {meth : Method} {c : Code} {nW : Nat} {dC : Nat → ClassId} {dI : Nat → Nat → Nat} {k : Nat → ClassId} {g : Nat → Nat} {A : Nat → Prop} {J : Nat → List qV → List qV → qW → Prop} {Q : qR} (X : q_X p R s m args meth c cX1_highestHat 4 nW 1 23 RX1 (some .int) dC dI k g A) (hJ : ∀ d : Nat, q_Sd p l e R s m args below meth c 4 nW dC dI k g A (MQ below (q_post (dC, dI) k g nW Q A) args s 0 0 A) d (x_cut (is_G1_highestHat d) (J d))) : q_Sd p l e R s m args below meth c 4 nW dC dI k g A (MQ below (q_post (dC, dI) k g nW Q A) args s 0 0 A) 0 (b_G1_highestHat_0 J Q) := by
  unfold b_G1_highestHat_0
  refine s_aload_n X rfl dG1_highestHat_0 ?_
  refine s_aload_n X rfl dG1_highestHat_1 ?_
  refine s_callV X (m_G1_lineUp l) tw_708 tw_709 tw_1491 tw_133 tw_710 rfl (by decide +kernel) ⟨by decide, by decide⟩ dG1_highestHat_2 ?_
  refine s_nw ?_
  refine s_iconst X ⟨by decide, by decide⟩ dG1_highestHat_5 ?_
  refine s_istore_n X rfl (by decide) dG1_highestHat_6 ?_
  refine s_iconst X ⟨by decide, by decide⟩ dG1_highestHat_7 ?_
  refine s_istore_n X rfl (by decide) dG1_highestHat_8 ?_
  exact hJ 9

def sp_G1_highestHat : qS := fun av w Q => ∃ (c1 : Nat → Int) (c2 : Nat → Int) (c3 : Nat → Int) (f1 : Nat → Int) (f2 : Nat → Int) (f3 : Nat → Int) (f4 : Nat → Int) (f5 : Nat → Int) (f6 : Nat → Int) (f7 : Nat → Int) (u0 : Int) (u1 : Int) (u2 : Int) (u3 : Int) (u4 : Int) (D : Nat → Int), av = [q2 0, q2 4] ∧ w = (wCo 0 c1 c2 c3 ++ wBo 4 f1 f2 f3 f4 f5 f6 f7 u0 u1 u2 u3 u4) ∧ (0 ≤ u0 ∧ u0 ≤ 8) ∧ (CBK f1 f2 f3 f4 f5 f6 f7 u0 u1 u2 u3 u4 D) ∧ (∀ (r : Int) (x1 : Nat → Int), (∃ s9 : Int, HtI (inW D) u0.toNat u0 r s9) → Q (some (q1 r)) ((wCo 0 x1 c2 c3 ++ wBo 4 f1 f2 f3 f4 f5 f6 f7 u0 u1 u2 u3 u4)))
def I_G1_highestHat (c1 : Nat → Int) (c2 : Nat → Int) (c3 : Nat → Int) (f1 : Nat → Int) (f2 : Nat → Int) (f3 : Nat → Int) (f4 : Nat → Int) (f5 : Nat → Int) (f6 : Nat → Int) (f7 : Nat → Int) (u0 : Int) (u1 : Int) (u2 : Int) (u3 : Int) (u4 : Int) (D : Nat → Int) : Nat → Nat → List qV → List qV → qW → Prop := fun dz mz vz sz wz => if dz = 9 then (∃ (y1 : Nat → Int) (v2 : Int) (v3 : Int), vz = [q2 0, q2 4, q1 v2, q1 v3] ∧ sz = [] ∧ wz = (wCo 0 y1 c2 c3 ++ wBo 4 f1 f2 f3 f4 f5 f6 f7 u0 u1 u2 u3 u4) ∧ mz = (u0 - v3).toNat ∧ (0 ≤ v3 ∧ v3 ≤ u0) ∧ (LiP (inW D) y1 u0.toNat) ∧ (∃ s9 : Int, HtI (inW D) u0.toNat v3 v2 s9)) else False
set_option maxHeartbeats 4000000 in
set_option maxRecDepth 100000 in
theorem m_G1_highestHat (l : Launch) : q_M l yX1_highestHat cX1_highestHat 4 (some .int) 1 23 sp_G1_highestHat := by
  refine q_meth (by decide) (fun av w Q h => by obtain ⟨c1, c2, c3, f1, f2, f3, f4, f5, f6, f7, u0, u1, u2, u3, u4, D, rfl, rfl, hu0, hD, hQ⟩ := h; exact Nat.le_of_ble_eq_true rfl) ?_
  intro p e R s m args below meth c dC dI k g A av w Q hsp oka okw X
  obtain ⟨c1, c2, c3, f1, f2, f3, f4, f5, f6, f7, u0, u1, u2, u3, u4, D, rfl, rfl, hu0, hD, hQ⟩ := hsp
  refine s_mono (s_G1_highestHat_0 X (J := fun dz vz sz wz => ∃ mz, I_G1_highestHat c1 c2 c3 f1 f2 f3 f4 f5 f6 f7 u0 u1 u2 u3 u4 D dz mz vz sz wz) (q_loopn (I_G1_highestHat c1 c2 c3 f1 f2 f3 f4 f5 f6 f7 u0 u1 u2 u3 u4 D) (fun dz J => if dz = 9 then b_G1_highestHat_9 J Q else q_F) ?hs ?hv)) ?_
  case hs =>
    intro d J hJ
    by_cases h9 : d = 9
    · subst h9; exact s_G1_highestHat_9 X hJ
    simp only [h9, if_false]
    exact s_F
  case hv =>
    intro dz mz vz sz wz hI okv oks okw hlen
    by_cases h9 : dz = 9
    · subst h9
      obtain ⟨y1, v2, v3, rfl, rfl, rfl, hn, hp, hli, hs9⟩ := hI
      have hu := cb_u0 hD
      have rg9 : 0 ≤ v2 ∧ v2 ≤ 99 + v3 := by obtain ⟨s8, hs8⟩ := hs9; exact (HtI_rg hs8 (by omega)).1
      apply And.intro
      · intro h14
        exact hQ _ _ (by obtain ⟨s8, hs8⟩ := hs9; have e9 : v3 = u0 := (by omega); rw [e9] at hs8; exact ⟨s8, hs8⟩)
      · intro h14
        intro z19 h19
        first | replace h19 := e_add h19 (by omega) | replace h19 := e_rng h19
        apply And.intro
        · exact ⟨by omega, by omega⟩
        intro z25 h25
        have s25 := LiP_x hli (p := v3) (by omega) h25
        have r25 := SoP_rg (inW_rg hD.2 (by omega)) s25 (by omega)
        intro z26 h26
        intro z30 h30
        first | replace h30 := e_add h30 (by omega) | replace h30 := e_rng h30
        exact ⟨_, ⟨_, _, _, rfl, rfl, rfl, rfl, (by first | omega | assumption | exact q_rg_up (by assumption) (by omega) | exact q_rg_up (q_rg_up (by assumption) (by omega)) (by omega) | exact q_rg_cpy (by assumption) (by assumption)), (by first | assumption | exact h2), (by first | exact ⟨0, HtI_0⟩ | (obtain ⟨s8, hs8⟩ := hs9; exact ⟨_, HtI_s hs8 (by omega) s25 r25 (by omega) rfl (by omega)⟩))⟩, by omega⟩
    simp only [I_G1_highestHat, h9, if_false] at hI
  rintro lv st w' ⟨rfl, rfl, rfl⟩
  refine Exists.intro [0, 1, 2, 3, 4, 5, 6, 7, 8, 9, 10, 11] (Exists.intro [q2 0, q2 4] (Exists.intro ((wCo 0 _ _ _ ++ wBo 4 _ _ _ _ _ _ _ _ _ _ _ _)) (And.intro rfl (And.intro rfl (And.intro rfl (And.intro ⟨⟨_, rfl⟩, rfl⟩ ?_))))))
  refine Exists.intro _ (Exists.intro _ (Exists.intro _ (Exists.intro _ (Exists.intro _ (Exists.intro _ (Exists.intro _ (Exists.intro _ (Exists.intro _ (Exists.intro _ (Exists.intro _ (Exists.intro _ (Exists.intro _ (Exists.intro _ (Exists.intro _ (Exists.intro _ (And.intro rfl (And.intro rfl (And.intro (by first | omega | assumption | exact q_rg_up (by assumption) (by omega) | exact q_rg_up (q_rg_up (by assumption) (by omega)) (by omega) | exact q_rg_cpy (by assumption) (by assumption)) (And.intro hD (?_))))))))))))))))))))
  intro x1_2 h2
  exact ⟨_, _, _, _, rfl, rfl, rfl, rfl, (by first | omega | assumption | exact q_rg_up (by assumption) (by omega) | exact q_rg_up (q_rg_up (by assumption) (by omega)) (by omega) | exact q_rg_cpy (by assumption) (by assumption)), (by first | assumption | exact h2), (by first | exact ⟨0, HtI_0⟩ | (obtain ⟨s8, hs8⟩ := hs9; exact ⟨_, HtI_s hs8 (by omega) s25 r25 (by omega) rfl (by omega)⟩))⟩

theorem dG1_hatInches_0 : decode cX1_hatInches 0 = .ok (.aload_n 0, 1) := by decide +kernel
theorem dG1_hatInches_1 : decode cX1_hatInches 1 = .ok (.aload_n 1, 1) := by decide +kernel
theorem dG1_hatInches_2 : decode cX1_hatInches 2 = .ok (.invokevirtual 31, 3) := by decide +kernel
theorem dG1_hatInches_5 : decode cX1_hatInches 5 = .ok (.iconst 0, 1) := by decide +kernel
theorem dG1_hatInches_6 : decode cX1_hatInches 6 = .ok (.istore_n 2, 1) := by decide +kernel
theorem dG1_hatInches_7 : decode cX1_hatInches 7 = .ok (.iconst 0, 1) := by decide +kernel
theorem dG1_hatInches_8 : decode cX1_hatInches 8 = .ok (.istore_n 3, 1) := by decide +kernel
theorem dG1_hatInches_9 : decode cX1_hatInches 9 = .ok (.iconst 0, 1) := by decide +kernel
theorem dG1_hatInches_10 : decode cX1_hatInches 10 = .ok (.istore 4, 2) := by decide +kernel
theorem dG1_hatInches_12 : decode cX1_hatInches 12 = .ok (.iload 4, 2) := by decide +kernel
theorem dG1_hatInches_14 : decode cX1_hatInches 14 = .ok (.aload_n 1, 1) := by decide +kernel
theorem dG1_hatInches_15 : decode cX1_hatInches 15 = .ok (.getfield 22, 3) := by decide +kernel
theorem dG1_hatInches_18 : decode cX1_hatInches 18 = .ok (.if_icmp .ge 35, 3) := by decide +kernel
theorem dG1_hatInches_21 : decode cX1_hatInches 21 = .ok (.iload_n 3, 1) := by decide +kernel
theorem dG1_hatInches_22 : decode cX1_hatInches 22 = .ok (.iconst 1, 1) := by decide +kernel
theorem dG1_hatInches_23 : decode cX1_hatInches 23 = .ok (.iadd, 1) := by decide +kernel
theorem dG1_hatInches_24 : decode cX1_hatInches 24 = .ok (.aload_n 0, 1) := by decide +kernel
theorem dG1_hatInches_25 : decode cX1_hatInches 25 = .ok (.getfield 9, 3) := by decide +kernel
theorem dG1_hatInches_28 : decode cX1_hatInches 28 = .ok (.iload 4, 2) := by decide +kernel
theorem dG1_hatInches_30 : decode cX1_hatInches 30 = .ok (.iaload, 1) := by decide +kernel
theorem dG1_hatInches_31 : decode cX1_hatInches 31 = .ok (.invokestatic 45, 3) := by decide +kernel
theorem dG1_hatInches_34 : decode cX1_hatInches 34 = .ok (.istore_n 3, 1) := by decide +kernel
theorem dG1_hatInches_35 : decode cX1_hatInches 35 = .ok (.iload_n 2, 1) := by decide +kernel
theorem dG1_hatInches_36 : decode cX1_hatInches 36 = .ok (.iload_n 3, 1) := by decide +kernel
theorem dG1_hatInches_37 : decode cX1_hatInches 37 = .ok (.aload_n 0, 1) := by decide +kernel
theorem dG1_hatInches_38 : decode cX1_hatInches 38 = .ok (.getfield 9, 3) := by decide +kernel
theorem dG1_hatInches_41 : decode cX1_hatInches 41 = .ok (.iload 4, 2) := by decide +kernel
theorem dG1_hatInches_43 : decode cX1_hatInches 43 = .ok (.iaload, 1) := by decide +kernel
theorem dG1_hatInches_44 : decode cX1_hatInches 44 = .ok (.isub, 1) := by decide +kernel
theorem dG1_hatInches_45 : decode cX1_hatInches 45 = .ok (.iadd, 1) := by decide +kernel
theorem dG1_hatInches_46 : decode cX1_hatInches 46 = .ok (.istore_n 2, 1) := by decide +kernel
theorem dG1_hatInches_47 : decode cX1_hatInches 47 = .ok (.iinc 4 1, 3) := by decide +kernel
theorem dG1_hatInches_50 : decode cX1_hatInches 50 = .ok (.goto (-38), 3) := by decide +kernel
theorem dG1_hatInches_53 : decode cX1_hatInches 53 = .ok (.iload_n 2, 1) := by decide +kernel
theorem dG1_hatInches_54 : decode cX1_hatInches 54 = .ok (.ireturn, 1) := by decide +kernel
def is_G1_hatInches : Nat → List Nat := fun d => if d = 12 then [0, 1, 2, 3, 4] else []
set_option maxRecDepth 100000 in
def b_G1_hatInches_53 (J : Nat → List qV → List qV → qW → Prop) (Q : qR) : qK := x_iload 2 (x_iret Q)
set_option maxRecDepth 100000 in
theorem s_G1_hatInches_53 {p : Program} {l : Launch} {e : Env} {R : Room} {s : State} {m : MethodId} {args : Array Value} {below : List Frame} {meth : Method} {c : Code} {nW : Nat} {dC : Nat → ClassId} {dI : Nat → Nat → Nat} {k : Nat → ClassId} {g : Nat → Nat} {A : Nat → Prop} {J : Nat → List qV → List qV → qW → Prop} {Q : qR} (X : q_X p R s m args meth c cX1_hatInches 5 nW 1 23 RX1 (some .int) dC dI k g A) (hJ : ∀ d : Nat, q_Sd p l e R s m args below meth c 5 nW dC dI k g A (MQ below (q_post (dC, dI) k g nW Q A) args s 0 0 A) d (x_cut (is_G1_hatInches d) (J d))) : q_Sd p l e R s m args below meth c 5 nW dC dI k g A (MQ below (q_post (dC, dI) k g nW Q A) args s 0 0 A) 53 (b_G1_hatInches_53 J Q) := by
  unfold b_G1_hatInches_53
  refine s_iload_n X rfl dG1_hatInches_53 ?_
  exact s_iret X dG1_hatInches_54
set_option maxRecDepth 100000 in
def b_G1_hatInches_12 (J : Nat → List qV → List qV → qW → Prop) (Q : qR) : qK := x_iload 4 (x_aload 1 (x_get 0 7 (x_icmp_ge (b_G1_hatInches_53 J Q) (x_iload 3 (x_int 1 (x_iadd (x_aload 0 (x_get 1 0 (x_iload 4 (x_iald (x_max (x_istore 3 (x_iload 2 (x_iload 3 (x_aload 0 (x_get 1 0 (x_iload 4 (x_iald (x_isub (x_iadd (x_istore 2 (x_iinc 4 1 (x_cut [0, 1, 2, 3, 4] (J 12))))))))))))))))))))))))
set_option maxRecDepth 100000 in
theorem s_G1_hatInches_12 {p : Program} {l : Launch} {e : Env} {R : Room} {s : State} {m : MethodId} {args : Array Value} {below : List Frame} {meth : Method} {c : Code} {nW : Nat} {dC : Nat → ClassId} {dI : Nat → Nat → Nat} {k : Nat → ClassId} {g : Nat → Nat} {A : Nat → Prop} {J : Nat → List qV → List qV → qW → Prop} {Q : qR} (X : q_X p R s m args meth c cX1_hatInches 5 nW 1 23 RX1 (some .int) dC dI k g A) (hJ : ∀ d : Nat, q_Sd p l e R s m args below meth c 5 nW dC dI k g A (MQ below (q_post (dC, dI) k g nW Q A) args s 0 0 A) d (x_cut (is_G1_hatInches d) (J d))) : q_Sd p l e R s m args below meth c 5 nW dC dI k g A (MQ below (q_post (dC, dI) k g nW Q A) args s 0 0 A) 12 (b_G1_hatInches_12 J Q) := by
  unfold b_G1_hatInches_12
  refine s_iload X dG1_hatInches_12 ?_
  refine s_aload_n X rfl dG1_hatInches_14 ?_
  refine s_get X (T := TX0) (C := RX0) (N := 12) tu_X0 rfl (by decide) tw_192 dG1_hatInches_15 ?_
  refine s_icmp_ge X (tgt := 53) dG1_hatInches_18 (by decide) ?_ ?_
  · exact s_G1_hatInches_53 X hJ
  · refine s_iload_n X rfl dG1_hatInches_21 ?_
    refine s_iconst X ⟨by decide, by decide⟩ dG1_hatInches_22 ?_
    refine s_iadd X dG1_hatInches_23 ?_
    refine s_aload_n X rfl dG1_hatInches_24 ?_
    refine s_get X (T := TX1) (C := RX1) (N := 3) tu_X1 rfl (by decide) tw_323 dG1_hatInches_25 ?_
    refine s_iload X dG1_hatInches_28 ?_
    refine s_iald X dG1_hatInches_30 ?_
    refine s_max X tw_703 tw_531 tw_135 tw_532 ⟨by decide, by decide⟩ dG1_hatInches_31 ?_
    refine s_istore_n X rfl (by decide) dG1_hatInches_34 ?_
    refine s_iload_n X rfl dG1_hatInches_35 ?_
    refine s_iload_n X rfl dG1_hatInches_36 ?_
    refine s_aload_n X rfl dG1_hatInches_37 ?_
    refine s_get X (T := TX1) (C := RX1) (N := 3) tu_X1 rfl (by decide) tw_323 dG1_hatInches_38 ?_
    refine s_iload X dG1_hatInches_41 ?_
    refine s_iald X dG1_hatInches_43 ?_
    refine s_isub X dG1_hatInches_44 ?_
    refine s_iadd X dG1_hatInches_45 ?_
    refine s_istore_n X rfl (by decide) dG1_hatInches_46 ?_
    refine s_iinc X (by decide) dG1_hatInches_47 ?_
    refine s_goto X (tgt := 12) dG1_hatInches_50 (by decide) ?_
    exact hJ 12
set_option maxRecDepth 100000 in
def b_G1_hatInches_0 (J : Nat → List qV → List qV → qW → Prop) (Q : qR) : qK := x_aload 0 (x_aload 1 (x_call (some 1) 2 sp_G1_lineUp (x_nw (x_int 0 (x_istore 2 (x_int 0 (x_istore 3 (x_int 0 (x_istore 4 (x_cut [0, 1, 2, 3, 4] (J 12)))))))))))
set_option maxRecDepth 100000 in
theorem s_G1_hatInches_0 {p : Program} {l : Launch} {e : Env} {R : Room} {s : State} {m : MethodId} {args : Array Value} {below : List Frame} {meth : Method} {c : Code} {nW : Nat} {dC : Nat → ClassId} {dI : Nat → Nat → Nat} {k : Nat → ClassId} {g : Nat → Nat} {A : Nat → Prop} {J : Nat → List qV → List qV → qW → Prop} {Q : qR} (X : q_X p R s m args meth c cX1_hatInches 5 nW 1 23 RX1 (some .int) dC dI k g A) (hJ : ∀ d : Nat, q_Sd p l e R s m args below meth c 5 nW dC dI k g A (MQ below (q_post (dC, dI) k g nW Q A) args s 0 0 A) d (x_cut (is_G1_hatInches d) (J d))) : q_Sd p l e R s m args below meth c 5 nW dC dI k g A (MQ below (q_post (dC, dI) k g nW Q A) args s 0 0 A) 0 (b_G1_hatInches_0 J Q) := by
  unfold b_G1_hatInches_0
  refine s_aload_n X rfl dG1_hatInches_0 ?_
  refine s_aload_n X rfl dG1_hatInches_1 ?_
  refine s_callV X (m_G1_lineUp l) tw_708 tw_709 tw_1491 tw_133 tw_710 rfl (by decide +kernel) ⟨by decide, by decide⟩ dG1_hatInches_2 ?_
  refine s_nw ?_
  refine s_iconst X ⟨by decide, by decide⟩ dG1_hatInches_5 ?_
  refine s_istore_n X rfl (by decide) dG1_hatInches_6 ?_
  refine s_iconst X ⟨by decide, by decide⟩ dG1_hatInches_7 ?_
  refine s_istore_n X rfl (by decide) dG1_hatInches_8 ?_
  refine s_iconst X ⟨by decide, by decide⟩ dG1_hatInches_9 ?_
  refine s_istore X (by decide) dG1_hatInches_10 ?_
  exact hJ 12

def sp_G1_hatInches : qS := fun av w Q => ∃ (c1 : Nat → Int) (c2 : Nat → Int) (c3 : Nat → Int) (f1 : Nat → Int) (f2 : Nat → Int) (f3 : Nat → Int) (f4 : Nat → Int) (f5 : Nat → Int) (f6 : Nat → Int) (f7 : Nat → Int) (u0 : Int) (u1 : Int) (u2 : Int) (u3 : Int) (u4 : Int) (D : Nat → Int), av = [q2 0, q2 4] ∧ w = (wCo 0 c1 c2 c3 ++ wBo 4 f1 f2 f3 f4 f5 f6 f7 u0 u1 u2 u3 u4) ∧ (0 ≤ u0 ∧ u0 ≤ 8) ∧ (CBK f1 f2 f3 f4 f5 f6 f7 u0 u1 u2 u3 u4 D) ∧ (∀ (r : Int) (x1 : Nat → Int), (∃ t9 : Int, HtI (inW D) u0.toNat u0 t9 r) → Q (some (q1 r)) ((wCo 0 x1 c2 c3 ++ wBo 4 f1 f2 f3 f4 f5 f6 f7 u0 u1 u2 u3 u4)))
def I_G1_hatInches (c1 : Nat → Int) (c2 : Nat → Int) (c3 : Nat → Int) (f1 : Nat → Int) (f2 : Nat → Int) (f3 : Nat → Int) (f4 : Nat → Int) (f5 : Nat → Int) (f6 : Nat → Int) (f7 : Nat → Int) (u0 : Int) (u1 : Int) (u2 : Int) (u3 : Int) (u4 : Int) (D : Nat → Int) : Nat → Nat → List qV → List qV → qW → Prop := fun dz mz vz sz wz => if dz = 12 then (∃ (y1 : Nat → Int) (v2 : Int) (v3 : Int) (v4 : Int), vz = [q2 0, q2 4, q1 v2, q1 v3, q1 v4] ∧ sz = [] ∧ wz = (wCo 0 y1 c2 c3 ++ wBo 4 f1 f2 f3 f4 f5 f6 f7 u0 u1 u2 u3 u4) ∧ mz = (u0 - v4).toNat ∧ (0 ≤ v4 ∧ v4 ≤ u0) ∧ (LiP (inW D) y1 u0.toNat) ∧ (HtI (inW D) u0.toNat v4 v3 v2)) else False
set_option maxHeartbeats 4000000 in
set_option maxRecDepth 100000 in
theorem m_G1_hatInches (l : Launch) : q_M l yX1_hatInches cX1_hatInches 5 (some .int) 1 23 sp_G1_hatInches := by
  refine q_meth (by decide) (fun av w Q h => by obtain ⟨c1, c2, c3, f1, f2, f3, f4, f5, f6, f7, u0, u1, u2, u3, u4, D, rfl, rfl, hu0, hD, hQ⟩ := h; exact Nat.le_of_ble_eq_true rfl) ?_
  intro p e R s m args below meth c dC dI k g A av w Q hsp oka okw X
  obtain ⟨c1, c2, c3, f1, f2, f3, f4, f5, f6, f7, u0, u1, u2, u3, u4, D, rfl, rfl, hu0, hD, hQ⟩ := hsp
  refine s_mono (s_G1_hatInches_0 X (J := fun dz vz sz wz => ∃ mz, I_G1_hatInches c1 c2 c3 f1 f2 f3 f4 f5 f6 f7 u0 u1 u2 u3 u4 D dz mz vz sz wz) (q_loopn (I_G1_hatInches c1 c2 c3 f1 f2 f3 f4 f5 f6 f7 u0 u1 u2 u3 u4 D) (fun dz J => if dz = 12 then b_G1_hatInches_12 J Q else q_F) ?hs ?hv)) ?_
  case hs =>
    intro d J hJ
    by_cases h12 : d = 12
    · subst h12; exact s_G1_hatInches_12 X hJ
    simp only [h12, if_false]
    exact s_F
  case hv =>
    intro dz mz vz sz wz hI okv oks okw hlen
    by_cases h12 : dz = 12
    · subst h12
      obtain ⟨y1, v2, v3, v4, rfl, rfl, rfl, hn, hp, hli, hs9⟩ := hI
      have hu := cb_u0 hD
      have rg9 := HtI_rg hs9 (by omega)
      apply And.intro
      · intro h18
        exact hQ _ _ ⟨v3, (by have e9 : v4 = u0 := (by omega); rw [e9] at hs9; exact hs9)⟩
      · intro h18
        intro z23 h23
        first | replace h23 := e_add h23 (by omega) | replace h23 := e_rng h23
        apply And.intro
        · exact ⟨by omega, by omega⟩
        intro z30 h30
        have s30 := LiP_x hli (p := v4) (by omega) h30
        have r30 := SoP_rg (inW_rg hD.2 (by omega)) s30 (by omega)
        intro z31 h31
        apply And.intro
        · exact ⟨by omega, by omega⟩
        intro z43 h43
        have e43 : z43 = z30 := by rw [h43, h30]
        intro z44 h44
        first | replace h44 := e_sub h44 (by omega) | replace h44 := e_rng h44
        intro z45 h45
        first | replace h45 := e_add h45 (by omega) | replace h45 := e_rng h45
        intro z47 h47
        first | replace h47 := e_add h47 (by omega) | replace h47 := e_rng h47
        exact ⟨_, ⟨_, _, _, _, rfl, rfl, rfl, rfl, (by first | omega | assumption | exact q_rg_up (by assumption) (by omega) | exact q_rg_up (q_rg_up (by assumption) (by omega)) (by omega) | exact q_rg_cpy (by assumption) (by assumption)), (by first | assumption | exact h2), (by first | exact HtI_0 | exact HtI_s hs9 (by omega) s30 r30 (by omega) (by omega) (by omega))⟩, by omega⟩
    simp only [I_G1_hatInches, h12, if_false] at hI
  rintro lv st w' ⟨rfl, rfl, rfl⟩
  refine Exists.intro [0, 1, 2, 3, 4, 5, 6, 7, 8, 9, 10, 11] (Exists.intro [q2 0, q2 4] (Exists.intro ((wCo 0 _ _ _ ++ wBo 4 _ _ _ _ _ _ _ _ _ _ _ _)) (And.intro rfl (And.intro rfl (And.intro rfl (And.intro ⟨⟨_, rfl⟩, rfl⟩ ?_))))))
  refine Exists.intro _ (Exists.intro _ (Exists.intro _ (Exists.intro _ (Exists.intro _ (Exists.intro _ (Exists.intro _ (Exists.intro _ (Exists.intro _ (Exists.intro _ (Exists.intro _ (Exists.intro _ (Exists.intro _ (Exists.intro _ (Exists.intro _ (Exists.intro _ (And.intro rfl (And.intro rfl (And.intro (by first | omega | assumption | exact q_rg_up (by assumption) (by omega) | exact q_rg_up (q_rg_up (by assumption) (by omega)) (by omega) | exact q_rg_cpy (by assumption) (by assumption)) (And.intro hD (?_))))))))))))))))))))
  intro x1_2 h2
  exact ⟨_, _, _, _, _, rfl, rfl, rfl, rfl, (by first | omega | assumption | exact q_rg_up (by assumption) (by omega) | exact q_rg_up (q_rg_up (by assumption) (by omega)) (by omega) | exact q_rg_cpy (by assumption) (by assumption)), (by first | assumption | exact h2), (by first | exact HtI_0 | exact HtI_s hs9 (by omega) s30 r30 (by omega) (by omega) (by omega))⟩

def spm_G1_highestHat : List qV → qW → (Option qV → qW → Prop) → Prop := fun av w Q => ∃ (c1 : Nat → Int) (c2 : Nat → Int) (c3 : Nat → Int) (f1 : Nat → Int) (f2 : Nat → Int) (f3 : Nat → Int) (f4 : Nat → Int) (f5 : Nat → Int) (f6 : Nat → Int) (f7 : Nat → Int) (u0 : Int) (u1 : Int) (u2 : Int) (u3 : Int) (u4 : Int) (D : Nat → Int), av = [q2 0, q2 4] ∧ w = (wCo 0 c1 c2 c3 ++ wBo 4 f1 f2 f3 f4 f5 f6 f7 u0 u1 u2 u3 u4) ∧ (0 ≤ u0 ∧ u0 ≤ 8) ∧ (CBK f1 f2 f3 f4 f5 f6 f7 u0 u1 u2 u3 u4 D) ∧ (∀ (r : Int) (x1 : Nat → Int), (∃ s9 : Int, HtI (inW D) u0.toNat u0 r s9) → Q (some (q1 r)) (wCo 0 x1 c2 c3))
theorem mq_G1_highestHat : ∀ (av : List qV) (w : qW) (P P' : Option qV → qW → Prop), (∀ r wm, P r wm → P' r wm) → spm_G1_highestHat av w P → spm_G1_highestHat av w P' := by
  intro av w P P' hP h
  obtain ⟨c1, c2, c3, f1, f2, f3, f4, f5, f6, f7, u0, u1, u2, u3, u4, D, e1, e2, hu0, hD, hQ9⟩ := h
  exact ⟨c1, c2, c3, f1, f2, f3, f4, f5, f6, f7, u0, u1, u2, u3, u4, D, e1, e2, hu0, hD, fun r x1 hp9 => hP _ _ (hQ9 r x1 hp9)⟩
theorem mm_G1_highestHat (l : Launch) : q_M l yX1_highestHat cX1_highestHat 4 (some .int) 1 23 (fun av w Q => spm_G1_highestHat av w (fun r wm => wm.length = 4 → Q r (wm ++ w.drop 4))) := by
  refine q_M_mono (fun av w Q h => ?_) (m_G1_highestHat l)
  obtain ⟨c1, c2, c3, f1, f2, f3, f4, f5, f6, f7, u0, u1, u2, u3, u4, D, rfl, rfl, hu0, hD, hQ9⟩ := h
  exact ⟨c1, c2, c3, f1, f2, f3, f4, f5, f6, f7, u0, u1, u2, u3, u4, D, rfl, rfl, hu0, hD, fun r x1 hp9 => hQ9 r x1 hp9 rfl⟩

def spm_G1_hatInches : List qV → qW → (Option qV → qW → Prop) → Prop := fun av w Q => ∃ (c1 : Nat → Int) (c2 : Nat → Int) (c3 : Nat → Int) (f1 : Nat → Int) (f2 : Nat → Int) (f3 : Nat → Int) (f4 : Nat → Int) (f5 : Nat → Int) (f6 : Nat → Int) (f7 : Nat → Int) (u0 : Int) (u1 : Int) (u2 : Int) (u3 : Int) (u4 : Int) (D : Nat → Int), av = [q2 0, q2 4] ∧ w = (wCo 0 c1 c2 c3 ++ wBo 4 f1 f2 f3 f4 f5 f6 f7 u0 u1 u2 u3 u4) ∧ (0 ≤ u0 ∧ u0 ≤ 8) ∧ (CBK f1 f2 f3 f4 f5 f6 f7 u0 u1 u2 u3 u4 D) ∧ (∀ (r : Int) (x1 : Nat → Int), (∃ t9 : Int, HtI (inW D) u0.toNat u0 t9 r) → Q (some (q1 r)) (wCo 0 x1 c2 c3))
theorem mq_G1_hatInches : ∀ (av : List qV) (w : qW) (P P' : Option qV → qW → Prop), (∀ r wm, P r wm → P' r wm) → spm_G1_hatInches av w P → spm_G1_hatInches av w P' := by
  intro av w P P' hP h
  obtain ⟨c1, c2, c3, f1, f2, f3, f4, f5, f6, f7, u0, u1, u2, u3, u4, D, e1, e2, hu0, hD, hQ9⟩ := h
  exact ⟨c1, c2, c3, f1, f2, f3, f4, f5, f6, f7, u0, u1, u2, u3, u4, D, e1, e2, hu0, hD, fun r x1 hp9 => hP _ _ (hQ9 r x1 hp9)⟩
theorem mm_G1_hatInches (l : Launch) : q_M l yX1_hatInches cX1_hatInches 5 (some .int) 1 23 (fun av w Q => spm_G1_hatInches av w (fun r wm => wm.length = 4 → Q r (wm ++ w.drop 4))) := by
  refine q_M_mono (fun av w Q h => ?_) (m_G1_hatInches l)
  obtain ⟨c1, c2, c3, f1, f2, f3, f4, f5, f6, f7, u0, u1, u2, u3, u4, D, rfl, rfl, hu0, hD, hQ9⟩ := h
  exact ⟨c1, c2, c3, f1, f2, f3, f4, f5, f6, f7, u0, u1, u2, u3, u4, D, rfl, rfl, hu0, hD, fun r x1 hp9 => hQ9 r x1 hp9 rfl⟩

theorem dGX11_hats_0 : decode cX11_hats 0 = .ok (.aload_n 0, 1) := by decide +kernel
theorem dGX11_hats_1 : decode cX11_hats 1 = .ok (.getfield 10, 3) := by decide +kernel
theorem dGX11_hats_4 : decode cX11_hats 4 = .ok (.iload_n 1, 1) := by decide +kernel
theorem dGX11_hats_5 : decode cX11_hats 5 = .ok (.invokevirtual 94, 3) := by decide +kernel
theorem dGX11_hats_8 : decode cX11_hats 8 = .ok (.astore_n 3, 1) := by decide +kernel
theorem dGX11_hats_9 : decode cX11_hats 9 = .ok (.aload_n 3, 1) := by decide +kernel
theorem dGX11_hats_10 : decode cX11_hats 10 = .ok (.ifnonnull 5, 3) := by decide +kernel
theorem dGX11_hats_13 : decode cX11_hats 13 = .ok (.iconst (-1), 1) := by decide +kernel
theorem dGX11_hats_14 : decode cX11_hats 14 = .ok (.ireturn, 1) := by decide +kernel
theorem dGX11_hats_15 : decode cX11_hats 15 = .ok (.iload_n 2, 1) := by decide +kernel
theorem dGX11_hats_16 : decode cX11_hats 16 = .ok (.ifCond .eq 14, 3) := by decide +kernel
theorem dGX11_hats_19 : decode cX11_hats 19 = .ok (.aload_n 0, 1) := by decide +kernel
theorem dGX11_hats_20 : decode cX11_hats 20 = .ok (.getfield 58, 3) := by decide +kernel
theorem dGX11_hats_23 : decode cX11_hats 23 = .ok (.aload_n 3, 1) := by decide +kernel
theorem dGX11_hats_24 : decode cX11_hats 24 = .ok (.invokevirtual 263, 3) := by decide +kernel
theorem dGX11_hats_27 : decode cX11_hats 27 = .ok (.goto 11, 3) := by decide +kernel
theorem dGX11_hats_30 : decode cX11_hats 30 = .ok (.aload_n 0, 1) := by decide +kernel
theorem dGX11_hats_31 : decode cX11_hats 31 = .ok (.getfield 58, 3) := by decide +kernel
theorem dGX11_hats_34 : decode cX11_hats 34 = .ok (.aload_n 3, 1) := by decide +kernel
theorem dGX11_hats_35 : decode cX11_hats 35 = .ok (.invokevirtual 267, 3) := by decide +kernel
theorem dGX11_hats_38 : decode cX11_hats 38 = .ok (.ireturn, 1) := by decide +kernel
def is_GX11_hats : Nat → List Nat := fun d => []
set_option maxRecDepth 100000 in
def b_GX11_hats_38 (J : Nat → List qV → List qV → qW → Prop) (Q : qR) : qK := x_iret Q
set_option maxRecDepth 100000 in
theorem s_GX11_hats_38 {p : Program} {l : Launch} {e : Env} {R : Room} {s : State} {m : MethodId} {args : Array Value} {below : List Frame} {meth : Method} {c : Code} {nW : Nat} {dC : Nat → ClassId} {dI : Nat → Nat → Nat} {k : Nat → ClassId} {g : Nat → Nat} {A : Nat → Prop} {J : Nat → List qV → List qV → qW → Prop} {Q : qR} (X : q_X p R s m args meth c cX11_hats 4 nW 2 47 RX11 (some .int) dC dI k g A) (hJ : ∀ d : Nat, q_Sd p l e R s m args below meth c 4 nW dC dI k g A (MQ below (q_post (dC, dI) k g nW Q A) args s 0 0 A) d (x_cut (is_GX11_hats d) (J d))) : q_Sd p l e R s m args below meth c 4 nW dC dI k g A (MQ below (q_post (dC, dI) k g nW Q A) args s 0 0 A) 38 (b_GX11_hats_38 J Q) := by
  unfold b_GX11_hats_38
  exact s_iret X dGX11_hats_38
set_option maxRecDepth 100000 in
def b_GX11_hats_0 (J : Nat → List qV → List qV → qW → Prop) (Q : qR) : qK := x_aload 0 (x_get 11 0 (x_iload 1 (x_callr (some 8) 2 spr_G8_boroughAt (x_astore 3 (x_aload 3 (x_ifnonnull (x_iload 2 (x_if_eq (x_aload 0 (x_get 11 7 (x_aload 3 (x_callm (some 1) 2 4 spm_G1_hatInches (x_nw (b_GX11_hats_38 J Q)))))) (x_aload 0 (x_get 11 7 (x_aload 3 (x_callm (some 1) 2 4 spm_G1_highestHat (x_nw (b_GX11_hats_38 J Q)))))))) (x_int (-1) (x_iret Q))))))))
set_option maxRecDepth 100000 in
theorem s_GX11_hats_0 {p : Program} {l : Launch} {e : Env} {R : Room} {s : State} {m : MethodId} {args : Array Value} {below : List Frame} {meth : Method} {c : Code} {nW : Nat} {dC : Nat → ClassId} {dI : Nat → Nat → Nat} {k : Nat → ClassId} {g : Nat → Nat} {A : Nat → Prop} {J : Nat → List qV → List qV → qW → Prop} {Q : qR} (X : q_X p R s m args meth c cX11_hats 4 nW 2 47 RX11 (some .int) dC dI k g A) (hJ : ∀ d : Nat, q_Sd p l e R s m args below meth c 4 nW dC dI k g A (MQ below (q_post (dC, dI) k g nW Q A) args s 0 0 A) d (x_cut (is_GX11_hats d) (J d))) : q_Sd p l e R s m args below meth c 4 nW dC dI k g A (MQ below (q_post (dC, dI) k g nW Q A) args s 0 0 A) 0 (b_GX11_hats_0 J Q) := by
  unfold b_GX11_hats_0
  refine s_aload_n X rfl dGX11_hats_0 ?_
  refine s_get X (T := TX11) (C := RX11) (N := 8) tu_X11 rfl (by decide) tw_326 dGX11_hats_1 ?_
  refine s_iload_n X rfl dGX11_hats_4 ?_
  refine s_callVr X (m_G8_boroughAt l) tw_541 tw_542 tw_543 tw_121 tw_544 rfl (by decide +kernel) ⟨by decide, by decide⟩ dGX11_hats_5 ?_
  refine s_astore_n X rfl (by decide) dGX11_hats_8 ?_
  refine s_aload_n X rfl dGX11_hats_9 ?_
  refine s_ifnonnull X (tgt := 15) dGX11_hats_10 (by decide) ?_ ?_
  · refine s_iload_n X rfl dGX11_hats_15 ?_
    refine s_if_eq X (tgt := 30) dGX11_hats_16 (by decide) ?_ ?_
    · refine s_aload_n X rfl dGX11_hats_30 ?_
      refine s_get X (T := TX11) (C := RX11) (N := 8) tu_X11 rfl (by decide) tw_333 dGX11_hats_31 ?_
      refine s_aload_n X rfl dGX11_hats_34 ?_
      refine s_callVm X (mm_G1_hatInches l) mq_G1_hatInches tw_927 tw_928 tw_929 tw_133 tw_930 rfl (by decide +kernel) ⟨by decide, by decide⟩ dGX11_hats_35 ?_
      refine s_nw ?_
      exact s_GX11_hats_38 X hJ
    · refine s_aload_n X rfl dGX11_hats_19 ?_
      refine s_get X (T := TX11) (C := RX11) (N := 8) tu_X11 rfl (by decide) tw_333 dGX11_hats_20 ?_
      refine s_aload_n X rfl dGX11_hats_23 ?_
      refine s_callVm X (mm_G1_highestHat l) mq_G1_highestHat tw_923 tw_924 tw_925 tw_133 tw_926 rfl (by decide +kernel) ⟨by decide, by decide⟩ dGX11_hats_24 ?_
      refine s_nw ?_
      refine s_goto X (tgt := 38) dGX11_hats_27 (by decide) ?_
      exact s_GX11_hats_38 X hJ
  · refine s_iconst X ⟨by decide, by decide⟩ dGX11_hats_13 ?_
    exact s_iret X dGX11_hats_14

def sp_GX11_hats : qS := fun av w Q => ∃ (tp : Nat → Int) (ct : Nat → Int) (ln : Int) (fa : Int) (pl : Int) (b0f1 : Nat → Int) (b0f2 : Nat → Int) (b0f3 : Nat → Int) (b0f4 : Nat → Int) (b0f5 : Nat → Int) (b0f6 : Nat → Int) (b0f7 : Nat → Int) (b0u0 : Int) (b0u1 : Int) (b0u2 : Int) (b0u3 : Int) (b0u4 : Int) (b1f1 : Nat → Int) (b1f2 : Nat → Int) (b1f3 : Nat → Int) (b1f4 : Nat → Int) (b1f5 : Nat → Int) (b1f6 : Nat → Int) (b1f7 : Nat → Int) (b1u0 : Int) (b1u1 : Int) (b1u2 : Int) (b1u3 : Int) (b1u4 : Int) (crc1 : Nat → Int) (crc2 : Nat → Int) (crc3 : Nat → Int) (a : Int) (b : Int) (D0 : Nat → Int) (D1 : Nat → Int), av = [q2 0, q1 a, q1 b] ∧ w = [.inr (11, [q2 1, q2 25, q2 26, q2 27, q2 28, q2 29, q2 30, q2 21]), .inr (8, [q2 2, q2 3, q2 4, q2 31, q2 32, q2 33, q1 ln, q1 fa, q1 pl]), .inl (1, 600, .inl tp), .inl (0, 4, .inl ct), .inl (4, 2, .inr (.inr [some 5, some 13])), .inr (0, [q2 6, q2 7, q2 8, q2 9, q2 10, q2 11, q2 12, q1 b0u0, q1 b0u1, q1 b0u2, q1 b0u3, q1 b0u4]), .inl (0, 8, .inl b0f1), .inl (0, 8, .inl b0f2), .inl (0, 4, .inl b0f3), .inl (0, 32, .inl b0f4), .inl (0, 6, .inl b0f5), .inl (0, 6, .inl b0f6), .inl (0, 6, .inl b0f7), .inr (0, [q2 14, q2 15, q2 16, q2 17, q2 18, q2 19, q2 20, q1 b1u0, q1 b1u1, q1 b1u2, q1 b1u3, q1 b1u4]), .inl (0, 8, .inl b1f1), .inl (0, 8, .inl b1f2), .inl (0, 4, .inl b1f3), .inl (0, 32, .inl b1f4), .inl (0, 6, .inl b1f5), .inl (0, 6, .inl b1f6), .inl (0, 6, .inl b1f7), .inr (1, [q2 22, q2 23, q2 24]), .inl (0, 8, .inl crc1), .inl (0, 256, .inl crc2), .inl (3, 9, .inr (.inl crc3))] ∧ (q_rg 0 2 ct) ∧ (0 ≤ ln ∧ ln ≤ 600) ∧ (0 ≤ b0u0 ∧ b0u0 ≤ 8 ∧ 0 ≤ b0u3 ∧ b0u3 ≤ 6 ∧ 0 ≤ b0u4 ∧ b0u4 ≤ 6) ∧ (q_rg 0 9 b0f3) ∧ (0 ≤ b1u0 ∧ b1u0 ≤ 8 ∧ 0 ≤ b1u3 ∧ b1u3 ≤ 6 ∧ 0 ≤ b1u4 ∧ b1u4 ≤ 6) ∧ (q_rg 0 9 b1f3) ∧ (0 < ct (0 : Int).toNat → CBK b0f1 b0f2 b0f3 b0f4 b0f5 b0f6 b0f7 b0u0 b0u1 b0u2 b0u3 b0u4 D0) ∧ (1 < ct (0 : Int).toNat → CBK b1f1 b1f2 b1f3 b1f4 b1f5 b1f6 b1f7 b1u0 b1u1 b1u2 b1u3 b1u4 D1) ∧ (∀ (r : Int) (x_crc1 : Nat → Int) (x_crc2 : Nat → Int) (x_crc3 : Nat → Int), (((bA (ct (0 : Int).toNat) D0 D1 a (-1) r (fun D z => HtA D b z)))) → Q (some (q1 r)) ([.inr (11, [q2 1, q2 25, q2 26, q2 27, q2 28, q2 29, q2 30, q2 21]), .inr (8, [q2 2, q2 3, q2 4, q2 31, q2 32, q2 33, q1 ln, q1 fa, q1 pl]), .inl (1, 600, .inl tp), .inl (0, 4, .inl ct), .inl (4, 2, .inr (.inr [some 5, some 13])), .inr (0, [q2 6, q2 7, q2 8, q2 9, q2 10, q2 11, q2 12, q1 b0u0, q1 b0u1, q1 b0u2, q1 b0u3, q1 b0u4]), .inl (0, 8, .inl b0f1), .inl (0, 8, .inl b0f2), .inl (0, 4, .inl b0f3), .inl (0, 32, .inl b0f4), .inl (0, 6, .inl b0f5), .inl (0, 6, .inl b0f6), .inl (0, 6, .inl b0f7), .inr (0, [q2 14, q2 15, q2 16, q2 17, q2 18, q2 19, q2 20, q1 b1u0, q1 b1u1, q1 b1u2, q1 b1u3, q1 b1u4]), .inl (0, 8, .inl b1f1), .inl (0, 8, .inl b1f2), .inl (0, 4, .inl b1f3), .inl (0, 32, .inl b1f4), .inl (0, 6, .inl b1f5), .inl (0, 6, .inl b1f6), .inl (0, 6, .inl b1f7), .inr (1, [q2 22, q2 23, q2 24]), .inl (0, 8, .inl x_crc1), .inl (0, 256, .inl x_crc2), .inl (3, 9, .inr (.inl x_crc3))]))
set_option maxHeartbeats 4000000 in
set_option maxRecDepth 100000 in
theorem m_GX11_hats (l : Launch) : q_M l yX11_hats cX11_hats 4 (some .int) 2 47 sp_GX11_hats := by
  refine q_meth (by decide) (fun av w Q h => by obtain ⟨tp, ct, ln, fa, pl, b0f1, b0f2, b0f3, b0f4, b0f5, b0f6, b0f7, b0u0, b0u1, b0u2, b0u3, b0u4, b1f1, b1f2, b1f3, b1f4, b1f5, b1f6, b1f7, b1u0, b1u1, b1u2, b1u3, b1u4, crc1, crc2, crc3, a, b, D0, D1, rfl, rfl, hct, hln, hb0, hf0, hb1, hf1, hr0, hr1, hQ⟩ := h; exact Nat.le_of_ble_eq_true rfl) ?_
  intro p e R s m args below meth c dC dI k g A av w Q hsp oka okw X
  obtain ⟨tp, ct, ln, fa, pl, b0f1, b0f2, b0f3, b0f4, b0f5, b0f6, b0f7, b0u0, b0u1, b0u2, b0u3, b0u4, b1f1, b1f2, b1f3, b1f4, b1f5, b1f6, b1f7, b1u0, b1u1, b1u2, b1u3, b1u4, crc1, crc2, crc3, a, b, D0, D1, rfl, rfl, hct, hln, hb0, hf0, hb1, hf1, hr0, hr1, hQ⟩ := hsp
  have o_a : -2147483648 ≤ a ∧ a ≤ 2147483647 := oka _ (List.mem_of_getElem? (i := 1) rfl)
  have o_b : -2147483648 ≤ b ∧ b ≤ 2147483647 := oka _ (List.mem_of_getElem? (i := 2) rfl)
  refine s_mono (s_GX11_hats_0 X (J := fun _ _ _ _ => False) (fun d => s_cutF)) ?_
  rintro lv st w' ⟨rfl, rfl, rfl⟩
  refine Exists.intro [1, 2, 3, 4, 31, 32, 33, 5, 13] (Exists.intro [q2 0, q1 _] (Exists.intro ((wT4_0 _ _ _ _ _)) (And.intro rfl (And.intro rfl (And.intro rfl (And.intro ⟨⟨_, rfl⟩, rfl⟩ ?_))))))
  refine Exists.intro _ (Exists.intro _ (Exists.intro _ (Exists.intro _ (Exists.intro _ (Exists.intro _ (And.intro rfl (And.intro rfl (?_))))))))
  intro z5 h5
  rcases h5 with ⟨rfl, c5⟩ | ⟨rfl, rfl, c5⟩ | ⟨rfl, rfl, c5⟩
  · first | have hD := hr0 c5 | have hD := hr1 c5 | skip
    first | have hu := cb_u0 hD | skip
    exact hQ _ _ _ _ (by first | exact Or.inr ⟨(by have q9 := hct (0 : Int).toNat; omega), rfl⟩ | exact Or.inl ⟨⟨by omega, by omega⟩, Or.inl ⟨rfl, (by first | (rw [hu.1] at h24; obtain ⟨s8, hs8⟩ := h24; exact ⟨_, s8, hs8, Or.inl ⟨by omega, rfl⟩⟩) | (rw [hu.1] at h35; obtain ⟨t8, ht8⟩ := h35; exact ⟨t8, _, ht8, Or.inr ⟨by omega, rfl⟩⟩))⟩⟩ | exact Or.inl ⟨⟨by omega, by omega⟩, Or.inr ⟨rfl, (by first | (rw [hu.1] at h24; obtain ⟨s8, hs8⟩ := h24; exact ⟨_, s8, hs8, Or.inl ⟨by omega, rfl⟩⟩) | (rw [hu.1] at h35; obtain ⟨t8, ht8⟩ := h35; exact ⟨t8, _, ht8, Or.inr ⟨by omega, rfl⟩⟩))⟩⟩)
  · first | have hD := hr0 c5 | have hD := hr1 c5 | skip
    first | have hu := cb_u0 hD | skip
    apply And.intro
    · intro h16
      refine Exists.intro [21, 22, 23, 24, 5, 6, 7, 8, 9, 10, 11, 12] (Exists.intro [q2 0, q2 4] (Exists.intro ((wCo 0 _ _ _ ++ wBo 4 _ _ _ _ _ _ _ _ _ _ _ _)) (And.intro rfl (And.intro rfl (And.intro rfl (And.intro ⟨⟨_, rfl⟩, rfl⟩ (And.intro (Nat.le_of_ble_eq_true rfl) ?_)))))))
      refine Exists.intro _ (Exists.intro _ (Exists.intro _ (Exists.intro _ (Exists.intro _ (Exists.intro _ (Exists.intro _ (Exists.intro _ (Exists.intro _ (Exists.intro _ (Exists.intro _ (Exists.intro _ (Exists.intro _ (Exists.intro _ (Exists.intro _ (Exists.intro _ (And.intro rfl (And.intro rfl (And.intro (by first | omega | assumption | exact q_rg_up (by assumption) (by omega) | exact q_rg_up (q_rg_up (by assumption) (by omega)) (by omega) | exact q_rg_cpy (by assumption) (by assumption)) (And.intro hD (?_))))))))))))))))))))
      intro z35 x1_35 h35
      intro _
      exact hQ _ _ _ _ (by first | exact Or.inr ⟨(by have q9 := hct (0 : Int).toNat; omega), rfl⟩ | exact Or.inl ⟨⟨by omega, by omega⟩, Or.inl ⟨rfl, (by first | (rw [hu.1] at h24; obtain ⟨s8, hs8⟩ := h24; exact ⟨_, s8, hs8, Or.inl ⟨by omega, rfl⟩⟩) | (rw [hu.1] at h35; obtain ⟨t8, ht8⟩ := h35; exact ⟨t8, _, ht8, Or.inr ⟨by omega, rfl⟩⟩))⟩⟩ | exact Or.inl ⟨⟨by omega, by omega⟩, Or.inr ⟨rfl, (by first | (rw [hu.1] at h24; obtain ⟨s8, hs8⟩ := h24; exact ⟨_, s8, hs8, Or.inl ⟨by omega, rfl⟩⟩) | (rw [hu.1] at h35; obtain ⟨t8, ht8⟩ := h35; exact ⟨t8, _, ht8, Or.inr ⟨by omega, rfl⟩⟩))⟩⟩)
    · intro h16
      refine Exists.intro [21, 22, 23, 24, 5, 6, 7, 8, 9, 10, 11, 12] (Exists.intro [q2 0, q2 4] (Exists.intro ((wCo 0 _ _ _ ++ wBo 4 _ _ _ _ _ _ _ _ _ _ _ _)) (And.intro rfl (And.intro rfl (And.intro rfl (And.intro ⟨⟨_, rfl⟩, rfl⟩ (And.intro (Nat.le_of_ble_eq_true rfl) ?_)))))))
      refine Exists.intro _ (Exists.intro _ (Exists.intro _ (Exists.intro _ (Exists.intro _ (Exists.intro _ (Exists.intro _ (Exists.intro _ (Exists.intro _ (Exists.intro _ (Exists.intro _ (Exists.intro _ (Exists.intro _ (Exists.intro _ (Exists.intro _ (Exists.intro _ (And.intro rfl (And.intro rfl (And.intro (by first | omega | assumption | exact q_rg_up (by assumption) (by omega) | exact q_rg_up (q_rg_up (by assumption) (by omega)) (by omega) | exact q_rg_cpy (by assumption) (by assumption)) (And.intro hD (?_))))))))))))))))))))
      intro z24 x1_24 h24
      intro _
      exact hQ _ _ _ _ (by first | exact Or.inr ⟨(by have q9 := hct (0 : Int).toNat; omega), rfl⟩ | exact Or.inl ⟨⟨by omega, by omega⟩, Or.inl ⟨rfl, (by first | (rw [hu.1] at h24; obtain ⟨s8, hs8⟩ := h24; exact ⟨_, s8, hs8, Or.inl ⟨by omega, rfl⟩⟩) | (rw [hu.1] at h35; obtain ⟨t8, ht8⟩ := h35; exact ⟨t8, _, ht8, Or.inr ⟨by omega, rfl⟩⟩))⟩⟩ | exact Or.inl ⟨⟨by omega, by omega⟩, Or.inr ⟨rfl, (by first | (rw [hu.1] at h24; obtain ⟨s8, hs8⟩ := h24; exact ⟨_, s8, hs8, Or.inl ⟨by omega, rfl⟩⟩) | (rw [hu.1] at h35; obtain ⟨t8, ht8⟩ := h35; exact ⟨t8, _, ht8, Or.inr ⟨by omega, rfl⟩⟩))⟩⟩)
  · first | have hD := hr0 c5 | have hD := hr1 c5 | skip
    first | have hu := cb_u0 hD | skip
    apply And.intro
    · intro h16
      refine Exists.intro [21, 22, 23, 24, 13, 14, 15, 16, 17, 18, 19, 20] (Exists.intro [q2 0, q2 4] (Exists.intro ((wCo 0 _ _ _ ++ wBo 4 _ _ _ _ _ _ _ _ _ _ _ _)) (And.intro rfl (And.intro rfl (And.intro rfl (And.intro ⟨⟨_, rfl⟩, rfl⟩ (And.intro (Nat.le_of_ble_eq_true rfl) ?_)))))))
      refine Exists.intro _ (Exists.intro _ (Exists.intro _ (Exists.intro _ (Exists.intro _ (Exists.intro _ (Exists.intro _ (Exists.intro _ (Exists.intro _ (Exists.intro _ (Exists.intro _ (Exists.intro _ (Exists.intro _ (Exists.intro _ (Exists.intro _ (Exists.intro _ (And.intro rfl (And.intro rfl (And.intro (by first | omega | assumption | exact q_rg_up (by assumption) (by omega) | exact q_rg_up (q_rg_up (by assumption) (by omega)) (by omega) | exact q_rg_cpy (by assumption) (by assumption)) (And.intro hD (?_))))))))))))))))))))
      intro z35 x1_35 h35
      intro _
      exact hQ _ _ _ _ (by first | exact Or.inr ⟨(by have q9 := hct (0 : Int).toNat; omega), rfl⟩ | exact Or.inl ⟨⟨by omega, by omega⟩, Or.inl ⟨rfl, (by first | (rw [hu.1] at h24; obtain ⟨s8, hs8⟩ := h24; exact ⟨_, s8, hs8, Or.inl ⟨by omega, rfl⟩⟩) | (rw [hu.1] at h35; obtain ⟨t8, ht8⟩ := h35; exact ⟨t8, _, ht8, Or.inr ⟨by omega, rfl⟩⟩))⟩⟩ | exact Or.inl ⟨⟨by omega, by omega⟩, Or.inr ⟨rfl, (by first | (rw [hu.1] at h24; obtain ⟨s8, hs8⟩ := h24; exact ⟨_, s8, hs8, Or.inl ⟨by omega, rfl⟩⟩) | (rw [hu.1] at h35; obtain ⟨t8, ht8⟩ := h35; exact ⟨t8, _, ht8, Or.inr ⟨by omega, rfl⟩⟩))⟩⟩)
    · intro h16
      refine Exists.intro [21, 22, 23, 24, 13, 14, 15, 16, 17, 18, 19, 20] (Exists.intro [q2 0, q2 4] (Exists.intro ((wCo 0 _ _ _ ++ wBo 4 _ _ _ _ _ _ _ _ _ _ _ _)) (And.intro rfl (And.intro rfl (And.intro rfl (And.intro ⟨⟨_, rfl⟩, rfl⟩ (And.intro (Nat.le_of_ble_eq_true rfl) ?_)))))))
      refine Exists.intro _ (Exists.intro _ (Exists.intro _ (Exists.intro _ (Exists.intro _ (Exists.intro _ (Exists.intro _ (Exists.intro _ (Exists.intro _ (Exists.intro _ (Exists.intro _ (Exists.intro _ (Exists.intro _ (Exists.intro _ (Exists.intro _ (Exists.intro _ (And.intro rfl (And.intro rfl (And.intro (by first | omega | assumption | exact q_rg_up (by assumption) (by omega) | exact q_rg_up (q_rg_up (by assumption) (by omega)) (by omega) | exact q_rg_cpy (by assumption) (by assumption)) (And.intro hD (?_))))))))))))))))))))
      intro z24 x1_24 h24
      intro _
      exact hQ _ _ _ _ (by first | exact Or.inr ⟨(by have q9 := hct (0 : Int).toNat; omega), rfl⟩ | exact Or.inl ⟨⟨by omega, by omega⟩, Or.inl ⟨rfl, (by first | (rw [hu.1] at h24; obtain ⟨s8, hs8⟩ := h24; exact ⟨_, s8, hs8, Or.inl ⟨by omega, rfl⟩⟩) | (rw [hu.1] at h35; obtain ⟨t8, ht8⟩ := h35; exact ⟨t8, _, ht8, Or.inr ⟨by omega, rfl⟩⟩))⟩⟩ | exact Or.inl ⟨⟨by omega, by omega⟩, Or.inr ⟨rfl, (by first | (rw [hu.1] at h24; obtain ⟨s8, hs8⟩ := h24; exact ⟨_, s8, hs8, Or.inl ⟨by omega, rfl⟩⟩) | (rw [hu.1] at h35; obtain ⟨t8, ht8⟩ := h35; exact ⟨t8, _, ht8, Or.inr ⟨by omega, rfl⟩⟩))⟩⟩)
