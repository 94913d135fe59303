/-! ===== texts, pure: bytes, runs, tokens, words ===== -/
noncomputable def pif (P : Prop) (a b : Int) : Int := @ite Int P (Classical.propDecidable P) a b
theorem pif_t {P : Prop} {a b : Int} (h : P) : pif P a b = a := by unfold pif; exact if_pos h
theorem pif_f {P : Prop} {a b : Int} (h : ¬ P) : pif P a b = b := by unfold pif; exact if_neg h
def byt (t : Nat → Int) (i : Int) : Int := (Int32.ofInt (t i.toNat) &&& Int32.ofInt 255).toInt
theorem byt_r (t : Nat → Int) (i : Int) : 0 ≤ byt t i ∧ byt t i ≤ 255 := e_and255 rfl
abbrev isS (b : Int) : Prop := b = 10 ∨ b = 32
abbrev isL (b : Int) : Prop := 97 ≤ b ∧ b ≤ 122
abbrev isD (b : Int) : Prop := 48 ≤ b ∧ b ≤ 57
/-- from p on to q, and no further, the bytes below n have P -/
def Run (P : Int → Prop) (t : Nat → Int) (n p q : Int) : Prop := p ≤ q ∧ q ≤ n ∧ (∀ i : Int, p ≤ i → i < q → P (byt t i)) ∧ (q < n → ¬ P (byt t q))
theorem Run_u {P : Int → Prop} {t : Nat → Int} {n p q q' : Int} (h : Run P t n p q) (h' : Run P t n p q') : q = q' := by
  obtain ⟨a1, a2, a3, a4⟩ := h
  obtain ⟨b1, b2, b3, b4⟩ := h'
  by_cases c1 : q < q'
  · exact absurd (b3 q a1 c1) (a4 (by omega))
  · by_cases c2 : q' < q
    · exact absurd (a3 q' b1 c2) (b4 (by omega))
    · omega
theorem Run_x {P : Int → Prop} (t : Nat → Int) (n : Int) : ∀ (f : Nat) (p : Int), p ≤ n → n - p ≤ f → ∃ q, Run P t n p q := by
  intro f
  induction f with
  | zero => intro p h1 h2; exact ⟨p, Int.le_refl p, h1, fun i a b => by omega, fun h => by omega⟩
  | succ f ih =>
    intro p h1 h2
    by_cases c1 : p < n ∧ P (byt t p)
    · obtain ⟨q, a1, a2, a3, a4⟩ := ih (p + 1) (by omega) (by omega)
      refine ⟨q, by omega, a2, fun i b1 b2 => ?_, a4⟩
      by_cases c2 : i = p
      · rw [c2]; exact c1.2
      · exact a3 i (by omega) b2
    · exact ⟨p, Int.le_refl p, h1, fun i a b => by omega, fun h h9 => c1 ⟨h, h9⟩⟩
noncomputable def rn (P : Int → Prop) (t : Nat → Int) (n p : Int) : Int := @dite Int (∃ q, Run P t n p q) (Classical.propDecidable _) (fun h => Classical.choose h) (fun _ => p)
theorem rn_run {P : Int → Prop} {t : Nat → Int} {n p : Int} (h : p ≤ n) : Run P t n p (rn P t n p) := by
  have hx := Run_x (P := P) t n (n - p).toNat p h (by omega)
  unfold rn
  rw [dif_pos hx]
  exact Classical.choose_spec hx
theorem rn_eq {P : Int → Prop} {t : Nat → Int} {n p q : Int} (h : Run P t n p q) : rn P t n p = q := Run_u (rn_run (by have := h.1; have := h.2.1; omega)) h
/-! tokens: where one begins, ends, its kind (0 the end, 1 a word, 2 a number, 3 a semicolon, 4 none), its number -/
noncomputable def tB (t : Nat → Int) (n p : Int) : Int := rn isS t n p
noncomputable def tE (t : Nat → Int) (n p : Int) : Int := if tB t n p < n then (if isL (byt t (tB t n p)) then rn isL t n (tB t n p) else if isD (byt t (tB t n p)) then rn isD t n (tB t n p) else tB t n p + 1) else tB t n p
noncomputable def tK (t : Nat → Int) (n p : Int) : Int := if tB t n p < n then (if isL (byt t (tB t n p)) then 1 else if isD (byt t (tB t n p)) then (if tE t n p - tB t n p ≤ 2 then 2 else 4) else if byt t (tB t n p) = 59 then 3 else 4) else 0
noncomputable def tV (t : Nat → Int) (n p : Int) : Int := if tE t n p = tB t n p + 1 then byt t (tB t n p) - 48 else 10 * (byt t (tB t n p) - 48) + (byt t (tB t n p + 1) - 48)
theorem tB_r {t : Nat → Int} {n p : Int} (h : p ≤ n) : p ≤ tB t n p ∧ tB t n p ≤ n := by
  have h1 := rn_run (P := isS) (t := t) h
  exact ⟨h1.1, h1.2.1⟩
theorem tE_r {t : Nat → Int} {n p : Int} (h : p ≤ n) : tB t n p ≤ tE t n p ∧ tE t n p ≤ n ∧ (tB t n p < n → tB t n p < tE t n p) := by
  have h0 := tB_r (t := t) h
  have rl := rn_run (P := isL) (t := t) h0.2
  have rd := rn_run (P := isD) (t := t) h0.2
  unfold tE
  split
  · rename_i c0
    split
    · rename_i c1
      refine ⟨rl.1, rl.2.1, fun _ => ?_⟩
      by_cases c2 : tB t n p < rn isL t n (tB t n p)
      · exact c2
      · have e : rn isL t n (tB t n p) = tB t n p := by have := rl.1; omega
        have := rl.2.2.2
        rw [e] at this
        exact absurd c1 (this c0)
    · rename_i c1
      split
      · rename_i c3
        refine ⟨rd.1, rd.2.1, fun _ => ?_⟩
        by_cases c2 : tB t n p < rn isD t n (tB t n p)
        · exact c2
        · have e : rn isD t n (tB t n p) = tB t n p := by have := rd.1; omega
          have := rd.2.2.2
          rw [e] at this
          exact absurd c3 (this c0)
      · exact ⟨by omega, by omega, fun _ => by omega⟩
  · rename_i c0
    exact ⟨Int.le_refl _, h0.2, fun h => absurd h c0⟩
/-- a token from b to e of kind k is the text i; which word it is, for each kind of line -/
def IsP (t : Nat → Int) (b e k : Int) (i : Nat) : Prop := k = 1 ∧ e - b = (qTn.getD i 0 : Nat) ∧ ∀ j : Nat, j < qTn.getD i 0 → byt t (b + j) = ((qTb.getD i []).getD j 0).toInt
noncomputable def ofP (t : Nat → Int) (b e k : Int) : Int := pif (IsP t b e k 17) 0 (pif (IsP t b e k 18) 1 (pif (IsP t b e k 19) 2 (pif (IsP t b e k 20) 3 (-1))))
noncomputable def boP (t : Nat → Int) (b e k : Int) : Int := pif (IsP t b e k 0) 0 (pif (IsP t b e k 1) 1 (pif (IsP t b e k 2) 2 (pif (IsP t b e k 3) 3 (pif (IsP t b e k 4) 4 (pif (IsP t b e k 5) 5 (pif (IsP t b e k 6) 6 (pif (IsP t b e k 7) 7 (pif (IsP t b e k 8) 8 (-1)))))))))
noncomputable def yeP (t : Nat → Int) (b e k : Int) : Int := pif (IsP t b e k 9) 9 (pif (IsP t b e k 10) 10 (pif (IsP t b e k 11) 11 (pif (IsP t b e k 12) 12 (pif (IsP t b e k 13) 13 (-1)))))
noncomputable def leP (t : Nat → Int) (b e k : Int) : Int := pif (IsP t b e k 14) 14 (pif (IsP t b e k 15) 15 (-1))
noncomputable def siP (t : Nat → Int) (b e k : Int) : Int := pif (IsP t b e k 16) 16 (-1)
noncomputable def liP (t : Nat → Int) (b e k s : Int) : Int := if s = 0 then boP t b e k else if s = 1 then yeP t b e k else if s = 2 then leP t b e k else if s = 3 then siP t b e k else -1
noncomputable def ofW (t : Nat → Int) (n p : Int) : Int := ofP t (tB t n p) (tE t n p) (tK t n p)
noncomputable def liW (t : Nat → Int) (n p s : Int) : Int := liP t (tB t n p) (tE t n p) (tK t n p) s
/-! the reference's packed word: base 256 -/
def pkN (t : Nat → Int) (b : Int) : Nat → Int
  | 0 => 0
  | k + 1 => 256 * pkN t b k + byt t (b + k)
def pkL : List Int32 → Int → Int
  | [], a => a
  | x :: xs, a => pkL xs (256 * a + x.toInt)
theorem pkN_pos {t : Nat → Int} {b : Int} : ∀ k : Nat, (∀ j : Nat, j < k → 1 ≤ byt t (b + j)) → 0 ≤ pkN t b k ∧ (0 < k → 0 < pkN t b k) := by
  intro k
  induction k with
  | zero => intro _; exact ⟨Int.le_refl _, fun h => absurd h (Nat.lt_irrefl 0)⟩
  | succ k ih =>
    intro h
    have h1 := ih (fun j hj => h j (by omega))
    have h2 := h k (by omega)
    unfold pkN
    exact ⟨by omega, fun _ => by omega⟩
/-- two runs of bytes, none 0, with the same packed word: as long, and the same -/
theorem pkN_inj {t s : Nat → Int} {b c : Int} : ∀ k m : Nat, (∀ j : Nat, j < k → 1 ≤ byt t (b + j)) → (∀ j : Nat, j < m → 1 ≤ byt s (c + j)) → pkN t b k = pkN s c m → k = m ∧ ∀ j : Nat, j < k → byt t (b + j) = byt s (c + j) := by
  intro k
  induction k with
  | zero =>
    intro m h1 h2 h
    cases m with
    | zero => exact ⟨rfl, fun j hj => absurd hj (Nat.not_lt_zero j)⟩
    | succ m =>
      have h3 := (pkN_pos (m + 1) h2).2 (by omega)
      have h4 : pkN t b 0 = 0 := rfl
      omega
  | succ k ih =>
    intro m h1 h2 h
    cases m with
    | zero =>
      have h3 := (pkN_pos (k + 1) h1).2 (by omega)
      have h4 : pkN s c 0 = 0 := rfl
      omega
    | succ m =>
      have e1 : pkN t b (k + 1) = 256 * pkN t b k + byt t (b + k) := rfl
      have e2 : pkN s c (m + 1) = 256 * pkN s c m + byt s (c + m) := rfl
      have r1 := byt_r t (b + k)
      have r2 := byt_r s (c + m)
      obtain ⟨h3, h4⟩ := ih m (fun j hj => h1 j (by omega)) (fun j hj => h2 j (by omega)) (by omega)
      subst h3
      refine ⟨rfl, fun j hj => ?_⟩
      by_cases e : j = k
      · rw [e]; omega
      · exact h4 j (by omega)
/-! a line: the slots by the tables SLOT, LEAST, GREATEST -/
def slT (w j : Int) : Int := qs_1.getD (3 * w + j).toNat 0
def slL (w j : Int) : Int := qs_2.getD (3 * w + j).toNat 0
def slG (w j : Int) : Int := qs_3.getD (3 * w + j).toNat 0
def slOk (t : Nat → Int) (n w j p : Int) : Prop := slT w j = 0 ∨ (slT w j = 2 ∧ ¬ ofW t n p = -1) ∨ (slT w j = 1 ∧ tK t n p = 2)
noncomputable def slV (t : Nat → Int) (n w j p : Int) : Int := if slT w j = 0 then -1 else if slT w j = 2 then ofW t n p else tV t n p
noncomputable def slP (t : Nat → Int) (n w j p : Int) : Int := if slT w j = 0 then p else tE t n p
def slB (t : Nat → Int) (n w j v0 p : Int) : Prop := slT w j = 1 ∧ (tV t n p < slL w j ∨ slG w j < tV t n p ∨ ((w = 5 ∨ w = 13) ∧ j = 1 ∧ tV t n p = v0))
/-- the first FAULT stays -/
noncomputable def ntF (P : Prop) (f fa : Int) : Int := pif (fa = 0 ∧ P) f fa
noncomputable def ntP (P : Prop) (x fa pl : Int) : Int := pif (fa = 0 ∧ P) x pl
/-- behind a line's word (at 0) and behind each of its slots: position, values, FAULT and place so far; whether all went well -/
noncomputable def lps (t : Nat → Int) (n w p : Int) : Nat → Int
  | 0 => tE t n p
  | j + 1 => slP t n w j (lps t n w p j)
noncomputable def lvs (t : Nat → Int) (n w p : Int) (j : Nat) : Int := slV t n w j (lps t n w p j)
noncomputable def lfa (t : Nat → Int) (n w p fa : Int) : Nat → Int
  | 0 => fa
  | j + 1 => ntF (slB t n w j (lvs t n w p 0) (lps t n w p j)) 2 (lfa t n w p fa j)
noncomputable def lpl (t : Nat → Int) (n w p fa pl : Int) : Nat → Int
  | 0 => pl
  | j + 1 => ntP (slB t n w j (lvs t n w p 0) (lps t n w p j)) (tB t n (lps t n w p j)) (lfa t n w p fa j) (lpl t n w p fa pl j)
def lok (t : Nat → Int) (n w p : Int) : Nat → Prop
  | 0 => True
  | j + 1 => lok t n w p j ∧ slOk t n w j (lps t n w p j)
def lnOk (t : Nat → Int) (n w p : Int) : Prop := ¬ w = -1 ∧ lok t n w p 3 ∧ tK t n (lps t n w p 3) = 3
noncomputable def lnP (t : Nat → Int) (n w p : Int) : Int := tE t n (lps t n w p 3)
/-- where a line that is none breaks off -/
noncomputable def lnB (t : Nat → Int) (n w p : Int) : Int := pif (w = -1) (tB t n p) (pif (¬ slOk t n w 0 (lps t n w p 0)) (tB t n (lps t n w p 0)) (pif (¬ slOk t n w 1 (lps t n w p 1)) (tB t n (lps t n w p 1)) (pif (¬ slOk t n w 2 (lps t n w p 2)) (tB t n (lps t n w p 2)) (tB t n (lps t n w p 3)))))
/-! what a line tells, in the reference's layout -/
def orI (m a : Int) : Int := (Int32.ofInt m ||| (Int32.ofInt 1 <<< (Int32.ofInt a &&& 31))).toInt
def fulP (w : Int) (D : Nat → Int) : Prop := (w = 0 ∧ 8 ≤ D 0) ∨ (w = 3 ∧ 6 ≤ D 3) ∨ (w = 4 ∧ 6 ≤ D 4) ∨ (w = 16 ∧ 10 ≤ D 0) ∨ ((9 ≤ w ∧ w ≤ 13) ∧ 40 ≤ D 0)
def tel (w v0 v1 v2 : Int) (D : Nat → Int) : Nat → Int :=
  if w = 0 then q_up (q_up D (5 + D 0).toNat v0) 0 (D 0 + 1)
  else if w = 1 then q_up D 1 (orI (D 1) v0)
  else if w = 2 then q_up D 2 v0
  else if w = 3 then q_up (q_up D (25 + D 3).toNat v0) 3 (D 3 + 1)
  else if w = 4 then q_up (q_up D (37 + D 4).toNat v0) 4 (D 4 + 1)
  else if w = 5 then q_up D (13 + v0).toNat v1
  else if w = 6 then q_up D (31 + v1).toNat (orI (D (31 + v1).toNat) v0)
  else if w = 7 then q_up D (21 + v0).toNat v1
  else if w = 8 then q_up D (43 + 4 * v0 + v1).toNat v2
  else if w ≤ 13 then q_up (q_up (q_up (q_up (q_up D (1 + 4 * D 0).toNat (w - 9)) (2 + 4 * D 0).toNat v0) (3 + 4 * D 0).toNat v1) (4 + 4 * D 0).toNat v2) 0 (D 0 + 1)
  else if w = 14 then q_up D v0.toNat v1
  else if w = 15 then q_up D 8 v0
  else q_up (q_up (q_up D (1 + 2 * D 0).toNat v0) (2 + 2 * D 0).toNat v1) 0 (D 0 + 1)
def fpN (w v0 v1 fp : Int) : Int := if w = 1 ∨ w = 6 ∨ w = 8 then max fp v0 else if w = 5 then max (max fp v0) v1 else fp
def fdN (w v1 fd : Int) : Int := if w = 6 then max fd v1 else fd
def tc (f : Nat → Int) : Nat → Int := fun i => if i < 600 then f i else 0
theorem byt_tc {f : Nat → Int} {a : Int} (h : a < 600) : byt (tc f) a = (Int32.ofInt (f a.toNat) &&& Int32.ofInt 255).toInt := by
  unfold byt tc
  rw [if_pos (by omega)]
theorem tc_e {f g : Nat → Int} (h : ∀ i : Nat, i < 600 → f i = g i) : tc f = tc g := by
  funext i
  unfold tc
  split
  · rename_i h1; exact h i h1
  · rfl
