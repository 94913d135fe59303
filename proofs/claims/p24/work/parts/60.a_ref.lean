/-! ===== the reference: pure words for its rows ===== -/
theorem e_and0 {z x y : Int} (h : z = (Int32.ofInt x &&& Int32.ofInt y).toInt) (hx : 0 ≤ x ∧ x ≤ 2147483647) : 0 ≤ z ∧ z ≤ x := by
  have h1 : (Int32.ofInt x &&& Int32.ofInt y).toBitVec.toNat ≤ (Int32.ofInt x).toBitVec.toNat := by
    rw [Int32.toBitVec_and, BitVec.toNat_and]; exact Nat.and_le_left
  have h2 : (Int32.ofInt x).toBitVec.toNat = x.toNat := by
    rw [q_nI hx.1 hx.2]
    show (BitVec.ofNat 32 x.toNat).toNat = _
    rw [BitVec.toNat_ofNat]; omega
  have h3 : (Int32.ofInt x &&& Int32.ofInt y).toInt = ((Int32.ofInt x &&& Int32.ofInt y).toBitVec.toNat : Int) := by
    show (Int32.ofInt x &&& Int32.ofInt y).toBitVec.toInt = _
    rw [BitVec.toInt_eq_toNat_cond, if_pos (by omega)]
  omega
theorem e_cmpe {z x y : Int} (h : z = (lg_cmp (Int64.ofInt x) (Int64.ofInt y)).toInt) (hx : q_l x) (hy : q_l y) : (z = 0 ∧ x = y) ∨ (¬ z = 0 ∧ ¬ x = y) := by
  unfold lg_cmp at h
  have e : ∀ {a b : Int}, q_l a → q_l b → (Int64.ofInt a = Int64.ofInt b ↔ a = b) := fun ha hb => ⟨fun h => by rw [← q_lo ha, ← q_lo hb, h], fun h => by rw [h]⟩
  have lt : ∀ {a b : Int}, q_l a → q_l b → (Int64.ofInt a < Int64.ofInt b ↔ a < b) := fun ha hb => by rw [Int64.lt_iff_toInt_lt, q_lo ha, q_lo hb]
  split at h
  · rename_i h1
    right
    have := (lt hy hx).mp h1
    have hz : z = 1 := h
    exact ⟨by omega, by omega⟩
  · rename_i h1
    split at h
    · rename_i h2
      left
      have hz : z = 0 := h
      exact ⟨hz, (e hx hy).mp h2⟩
    · rename_i h2
      right
      have hz : z = -1 := h
      exact ⟨by omega, fun h3 => h2 ((e hx hy).mpr h3)⟩
def hasR (a b : Int) : Int := if (Int32.ofInt ((Int32.ofInt a >>> (Int32.ofInt b &&& 31)).toInt) &&& Int32.ofInt 1).toInt = 1 then 1 else 0
theorem hasR_some : ∀ s : Fin 256, s.val ≠ 0 → ∃ k : Fin 8, hasR (s.val : Int) (k.val : Int) = 1 := by decide +kernel
theorem hasR_ex {s : Int} (h0 : 1 ≤ s ∧ s ≤ 255) (h : ∀ k : Nat, k < 8 → hasR s k = 0) : False := by
  obtain ⟨k, hk⟩ := hasR_some ⟨s.toNat, by omega⟩ (by show s.toNat ≠ 0; omega)
  have h1 := h k.val k.isLt
  have e : ((s.toNat : Nat) : Int) = s := by omega
  rw [show ((⟨s.toNat, by omega⟩ : Fin 256).val : Int) = s from e] at hk
  omega
def ofR (f : Nat → Int) (b a : Int) : Int := f (75 * b + a).toNat
def BT (f : Nat → Int) (b : Nat) : Prop := (0 ≤ f b ∧ f b ≤ 8) ∧ (0 ≤ f (b + 3) ∧ f (b + 3) ≤ 6) ∧ (0 ≤ f (b + 4) ∧ f (b + 4) ≤ 6) ∧ (∀ i : Nat, i < 8 → -1 ≤ f (b + 13 + i) ∧ f (b + 13 + i) ≤ 7) ∧ (∀ i : Nat, i < 4 → 0 ≤ f (b + 21 + i) ∧ f (b + 21 + i) ≤ 9)
def AC (f : Nat → Int) (b : Nat) : Prop := ∀ p : Nat, (p : Int) < f b → pch f b 8 p = -1
def BI (f : Nat → Int) : Prop := ∀ j : Nat, j < 8 → BT f (75 * j) ∧ AC f (75 * j)
def YT (f : Nat → Int) (b : Nat) : Prop := (0 ≤ f b ∧ f b ≤ 40) ∧ ∀ k : Nat, k < 40 → (f (b + 1 + 4 * k) = 0 ∨ f (b + 1 + 4 * k) = 1) → 0 ≤ f (b + 1 + 4 * k + 2) ∧ f (b + 1 + 4 * k + 2) ≤ 3
def YI (f : Nat → Int) : Prop := ∀ j : Nat, j < 8 → YT f (161 * j)
def SI (f : Nat → Int) : Prop := ∀ j : Nat, j < 8 → 0 ≤ f (21 * j) ∧ f (21 * j) ≤ 10
theorem BT_of {f g : Nat → Int} {b c : Nat} (h : BT f b) (e : ∀ i : Nat, i < 75 → g (c + i) = f (b + i)) : BT g c := by
  obtain ⟨h1, h2, h3, h4, h5⟩ := h
  have e0 := e 0 (by decide)
  refine ⟨?_, ?_, ?_, fun i hi => ?_, fun i hi => ?_⟩
  · rw [show g c = f b from e0]; exact h1
  · rw [e 3 (by decide)]; exact h2
  · rw [e 4 (by decide)]; exact h3
  · rw [show c + 13 + i = c + (13 + i) by omega, e (13 + i) (by omega), ← Nat.add_assoc]; exact h4 i hi
  · rw [show c + 21 + i = c + (21 + i) by omega, e (21 + i) (by omega), ← Nat.add_assoc]; exact h5 i hi
theorem AC_of {f g : Nat → Int} {b c : Nat} (h : BT f b) (ha : AC f b) (e : ∀ i : Nat, i < 75 → g (c + i) = f (b + i)) : AC g c := by
  intro p hp
  have e0 : g c = f b := e 0 (by decide)
  rw [e0] at hp
  rw [pch_eq h.2.2.2.1 (fun i hi => by rw [show c + 13 + i = c + (13 + i) by omega, e (13 + i) (by omega), ← Nat.add_assoc]) (by have := h.1; omega) 8]
  exact ha p hp
theorem YT_of {f g : Nat → Int} {b c : Nat} (h : YT f b) (e : ∀ i : Nat, i < 161 → g (c + i) = f (b + i)) : YT g c := by
  obtain ⟨h1, h2⟩ := h
  have e0 : g c = f b := e 0 (by decide)
  refine ⟨by rw [e0]; exact h1, fun k hk => ?_⟩
  rw [show c + 1 + 4 * k = c + (1 + 4 * k) by omega, show c + (1 + 4 * k) + 2 = c + (3 + 4 * k) by omega, e _ (by omega), e _ (by omega)]
  have := h2 k hk
  rw [show b + 1 + 4 * k = b + (1 + 4 * k) by omega, show b + (1 + 4 * k) + 2 = b + (3 + 4 * k) by omega] at this
  exact this
/-- row j of n cells of g is row i of f -/
theorem BI_row {f g : Nat → Int} (h : BI f) (e : ∀ j : Nat, j < 8 → ∃ i : Nat, i < 8 ∧ ∀ q : Nat, q < 75 → g (75 * j + q) = f (75 * i + q)) : BI g := by
  intro j hj
  obtain ⟨i, hi, hq⟩ := e j hj
  exact ⟨BT_of (h i hi).1 hq, AC_of (h i hi).1 (h i hi).2 hq⟩
theorem YI_row {f g : Nat → Int} (h : YI f) (e : ∀ j : Nat, j < 8 → ∃ i : Nat, i < 8 ∧ ∀ q : Nat, q < 161 → g (161 * j + q) = f (161 * i + q)) : YI g := by
  intro j hj
  obtain ⟨i, hi, hq⟩ := e j hj
  exact YT_of (h i hi) hq
theorem SI_row {f g : Nat → Int} (h : SI f) (e : ∀ j : Nat, j < 8 → ∃ i : Nat, i < 8 ∧ ∀ q : Nat, q < 21 → g (21 * j + q) = f (21 * i + q)) : SI g := by
  intro j hj
  obtain ⟨i, hi, hq⟩ := e j hj
  have := hq 0 (by decide)
  rw [show g (21 * j) = f (21 * i) from this]
  exact h i hi
/-- two rows' halves: a copy of n = 2 * w cells -/
def cpR (n : Nat) (f g : Nat → Int) (a b : Int) : Prop := ∀ j : Nat, g j = if (n : Int) * b ≤ j ∧ (j : Int) < n * b + n then f (j - (n : Int) * b + n * a).toNat else f j
theorem cpR_BI {f g : Nat → Int} {a b : Int} (ha : 0 ≤ a ∧ a ≤ 3) (hb : 0 ≤ b ∧ b ≤ 3) (h : BI f) (hc : cpR 150 f g a b) : BI g := by
  refine BI_row h (fun j hj => ?_)
  have hk : ∃ i : Nat, i < 8 ∧ ∀ q : Nat, q < 75 → (if (150 : Int) * b ≤ ((75 * j + q : Nat) : Int) ∧ ((75 * j + q : Nat) : Int) < 150 * b + 150 then (((75 * j + q : Nat) : Int) - 150 * b + 150 * a).toNat else 75 * j + q) = 75 * i + q := by
    by_cases h2 : (j : Int) / 2 = b
    · refine ⟨(2 * a + j % 2).toNat, by omega, fun q hq => ?_⟩
      rw [if_pos (by omega)]; omega
    · refine ⟨j, hj, fun q hq => ?_⟩
      rw [if_neg (by omega)]
  obtain ⟨i, hi, hq⟩ := hk
  refine ⟨i, hi, fun q hq2 => ?_⟩
  rw [hc, ← hq q hq2]
  exact (apply_ite f _ _ _).symm
theorem cpR_YI {f g : Nat → Int} {a b : Int} (ha : 0 ≤ a ∧ a ≤ 3) (hb : 0 ≤ b ∧ b ≤ 3) (h : YI f) (hc : cpR 322 f g a b) : YI g := by
  refine YI_row h (fun j hj => ?_)
  have hk : ∃ i : Nat, i < 8 ∧ ∀ q : Nat, q < 161 → (if (322 : Int) * b ≤ ((161 * j + q : Nat) : Int) ∧ ((161 * j + q : Nat) : Int) < 322 * b + 322 then (((161 * j + q : Nat) : Int) - 322 * b + 322 * a).toNat else 161 * j + q) = 161 * i + q := by
    by_cases h2 : (j : Int) / 2 = b
    · refine ⟨(2 * a + j % 2).toNat, by omega, fun q hq => ?_⟩
      rw [if_pos (by omega)]; omega
    · refine ⟨j, hj, fun q hq => ?_⟩
      rw [if_neg (by omega)]
  obtain ⟨i, hi, hq⟩ := hk
  refine ⟨i, hi, fun q hq2 => ?_⟩
  rw [hc, ← hq q hq2]
  exact (apply_ite f _ _ _).symm
theorem cpR_SI {f g : Nat → Int} {a b : Int} (ha : 0 ≤ a ∧ a ≤ 3) (hb : 0 ≤ b ∧ b ≤ 3) (h : SI f) (hc : cpR 42 f g a b) : SI g := by
  refine SI_row h (fun j hj => ?_)
  have hk : ∃ i : Nat, i < 8 ∧ ∀ q : Nat, q < 21 → (if (42 : Int) * b ≤ ((21 * j + q : Nat) : Int) ∧ ((21 * j + q : Nat) : Int) < 42 * b + 42 then (((21 * j + q : Nat) : Int) - 42 * b + 42 * a).toNat else 21 * j + q) = 21 * i + q := by
    by_cases h2 : (j : Int) / 2 = b
    · refine ⟨(2 * a + j % 2).toNat, by omega, fun q hq => ?_⟩
      rw [if_pos (by omega)]; omega
    · refine ⟨j, hj, fun q hq => ?_⟩
      rw [if_neg (by omega)]
  obtain ⟨i, hi, hq⟩ := hk
  refine ⟨i, hi, fun q hq2 => ?_⟩
  rw [hc, ← hq q hq2]
  exact (apply_ite f _ _ _).symm
theorem cpR_rg {f g : Nat → Int} {n : Nat} {a b lo hi : Int} (h : q_rg lo hi f) (hc : cpR n f g a b) : q_rg lo hi g := by
  intro j
  rw [hc]
  split
  · exact h _
  · exact h _
/-- a row of told stored -/
def stR (n : Nat) (t f g : Nat → Int) (b : Int) : Prop := ∀ j : Nat, g j = if (n : Int) * b ≤ j ∧ (j : Int) < n * b + n then t (j - (n : Int) * b).toNat else f j
theorem stR_BI {t f g : Nat → Int} {b : Int} (hb : 0 ≤ b ∧ b ≤ 1) (h : BI f) (ht : BT t 0) (ha : AC t 0) (hc : stR 75 t f g b) : BI g := by
  intro j hj
  by_cases h2 : (j : Int) = b
  · have e : ∀ i : Nat, i < 75 → g (75 * j + i) = t (0 + i) := fun i hi => by rw [hc, if_pos (by omega)]; congr 1; omega
    exact ⟨BT_of ht e, AC_of ht ha e⟩
  · have e : ∀ i : Nat, i < 75 → g (75 * j + i) = f (75 * j + i) := fun i hi => by rw [hc, if_neg (by omega)]
    exact ⟨BT_of (h j hj).1 e, AC_of (h j hj).1 (h j hj).2 e⟩
theorem stR_YI {t f g : Nat → Int} {b : Int} (hb : 0 ≤ b ∧ b ≤ 1) (h : YI f) (ht : YT t 0) (hc : stR 161 t f g b) : YI g := by
  intro j hj
  by_cases h2 : (j : Int) = b
  · exact YT_of ht (fun i hi => by rw [hc, if_pos (by omega)]; congr 1; omega)
  · exact YT_of (h j hj) (fun i hi => by rw [hc, if_neg (by omega)])
theorem stR_SI {t f g : Nat → Int} {b : Int} (hb : 0 ≤ b ∧ b ≤ 1) (h : SI f) (ht : 0 ≤ t 0 ∧ t 0 ≤ 10) (hc : stR 21 t f g b) : SI g := by
  intro j hj
  by_cases h2 : (j : Int) = b
  · rw [hc, if_pos (by omega), show (((21 * j : Nat) : Int) - ((21 : Nat) : Int) * b).toNat = 0 by omega]; exact ht
  · rw [hc, if_neg (by omega)]; exact h j hj
theorem BT_up {f : Nat → Int} {i : Nat} {v : Int} (h : BT f 0) (hi : (i ≠ 0 ∧ i ≠ 3 ∧ i ≠ 4 ∧ (i < 13 ∨ 24 < i)) ∨ (i = 0 ∧ 0 ≤ v ∧ v ≤ 8) ∨ ((i = 3 ∨ i = 4) ∧ 0 ≤ v ∧ v ≤ 6) ∨ (13 ≤ i ∧ i ≤ 20 ∧ -1 ≤ v ∧ v ≤ 7) ∨ (21 ≤ i ∧ i ≤ 24 ∧ 0 ≤ v ∧ v ≤ 9)) : BT (q_up f i v) 0 := by
  obtain ⟨h1, h2, h3, h4, h5⟩ := h
  refine ⟨?_, ?_, ?_, fun j hj => ?_, fun j hj => ?_⟩
  · unfold q_up; split <;> first | exact h1 | omega
  · unfold q_up; split <;> first | exact h2 | omega
  · unfold q_up; split <;> first | exact h3 | omega
  · have := h4 j hj
    unfold q_up; split <;> omega
  · have := h5 j hj
    unfold q_up; split <;> omega
def OFQ (a z : Int) : Prop := (a = 0 → 0 ≤ z ∧ z ≤ 8) ∧ (a = 3 → 0 ≤ z ∧ z ≤ 6) ∧ (a = 4 → 0 ≤ z ∧ z ≤ 6) ∧ (13 ≤ a → a ≤ 20 → -1 ≤ z ∧ z ≤ 7) ∧ (21 ≤ a → a ≤ 24 → 0 ≤ z ∧ z ≤ 9)
theorem OFQ_0 {a z : Int} (h : OFQ a z) (e : a = 0) : 0 ≤ z ∧ z ≤ 8 := h.1 e
theorem OFQ_3 {a z : Int} (h : OFQ a z) (e : a = 3 ∨ a = 4) : 0 ≤ z ∧ z ≤ 6 := e.elim h.2.1 h.2.2.1
theorem OFQ_13 {a z : Int} (h : OFQ a z) (e : 13 ≤ a ∧ a ≤ 20) : -1 ≤ z ∧ z ≤ 7 := h.2.2.2.1 e.1 e.2
theorem OFQ_21 {a z : Int} (h : OFQ a z) (e : 21 ≤ a ∧ a ≤ 24) : 0 ≤ z ∧ z ≤ 9 := h.2.2.2.2 e.1 e.2
theorem dj1 {r : Int} {X Y : Prop} (h : r = 1 ∧ X ∨ r = 0 ∧ Y) (hr : ¬ r = 0) : X := h.elim (fun q => q.2) (fun q => absurd q.1 hr)
theorem dj0 {r : Int} {X Y : Prop} (h : r = 1 ∧ X ∨ r = 0 ∧ Y) (hr : r = 0) : Y := h.elim (fun q => by have := q.1; omega) (fun q => q.2)
theorem BI_of {f : Nat → Int} {z i bo a : Int} (h : BI f) (hb : 0 ≤ bo ∧ bo ≤ 1) (ha : 0 ≤ a ∧ a ≤ 74) (hz : z = f i.toNat) (hi : i = 75 * bo + a) : z = ofR f bo a ∧ OFQ a z := by
  obtain ⟨⟨h1, h2, h3, h4, h5⟩, -⟩ := h bo.toNat (by omega)
  subst hi
  refine ⟨hz, fun e => ?_, fun e => ?_, fun e => ?_, fun e e2 => ?_, fun e e2 => ?_⟩
  · rw [hz, show (75 * bo + a).toNat = 75 * bo.toNat by omega]; exact h1
  · rw [hz, show (75 * bo + a).toNat = 75 * bo.toNat + 3 by omega]; exact h2
  · rw [hz, show (75 * bo + a).toNat = 75 * bo.toNat + 4 by omega]; exact h3
  · rw [hz, show (75 * bo + a).toNat = 75 * bo.toNat + 13 + (a - 13).toNat by omega]; exact h4 _ (by omega)
  · rw [hz, show (75 * bo + a).toNat = 75 * bo.toNat + 21 + (a - 21).toNat by omega]; exact h5 _ (by omega)
theorem BI_ac {f : Nat → Int} {bo p : Int} (h : BI f) (hb : 0 ≤ bo ∧ bo ≤ 1) (hp : 0 ≤ p ∧ p < ofR f bo 0) : pch f (75 * bo.toNat) 8 p = -1 := by
  have h1 := (h bo.toNat (by omega)).2 p.toNat
  rw [show ((p.toNat : Nat) : Int) = p by omega] at h1
  refine h1 ?_
  have e : ofR f bo 0 = f (75 * bo.toNat) := by unfold ofR; congr 1; omega
  omega
theorem pch_of {f : Nat → Int} {bo o r p : Int} {n : Nat} (hb : 0 ≤ bo ∧ bo ≤ 1) (ho : 0 ≤ o) (ho2 : o = pch f (75 * bo.toNat) n p) (hr : r = ofR f bo (13 + o)) : r = pch f (75 * bo.toNat) (n + 1) p := by
  rw [pch_s (by omega), ← ho2, hr]
  unfold ofR; congr 1; omega
theorem YI_of {f : Nat → Int} {z0 z2 i0 i2 ye k : Int} (h : YI f) (hb : 0 ≤ ye ∧ ye ≤ 1) (hk : 0 ≤ k ∧ k ≤ 39) (h0 : z0 = f i0.toNat) (h2 : z2 = f i2.toNat) (e0 : i0 = 161 * ye + 1 + 4 * k) (e2 : i2 = 161 * ye + 1 + 4 * k + 2) (hz : z0 = 0 ∨ z0 = 1) : 0 ≤ z2 ∧ z2 ≤ 3 := by
  have h3 := (h ye.toNat (by omega)).2 k.toNat (by omega)
  rw [show 161 * ye.toNat + 1 + 4 * k.toNat = i0.toNat by omega, show i0.toNat + 2 = i2.toNat by omega, ← h0, ← h2] at h3
  exact h3 hz
theorem YI_0 {f : Nat → Int} {z i ye : Int} (h : YI f) (hb : 0 ≤ ye ∧ ye ≤ 1) (hz : z = f i.toNat) (hi : i = 161 * ye) : 0 ≤ z ∧ z ≤ 40 := by
  have h1 := (h ye.toNat (by omega)).1
  rw [hz, show i.toNat = 161 * ye.toNat by omega]; exact h1
theorem SI_0 {f : Nat → Int} {z i ye : Int} (h : SI f) (hb : 0 ≤ ye ∧ ye ≤ 1) (hz : z = f i.toNat) (hi : i = 21 * ye) : 0 ≤ z ∧ z ≤ 10 := by
  have h1 := h ye.toNat (by omega)
  rw [hz, show i.toNat = 21 * ye.toNat by omega]; exact h1
/-- a row of told kept: wide cells behind the first -/
theorem YT_keep {t g r : Nat → Int} (h : YT t 0) (hk : ¬ t 0 = 40) (h0 : g 0 = t 0 + 1) (h1 : ∀ i : Nat, i < 4 → g (1 + 4 * (t 0).toNat + i) = r i) (h2 : ∀ j : Nat, j ≠ 0 → (j < 1 + 4 * (t 0).toNat ∨ 1 + 4 * (t 0).toNat + 4 ≤ j) → g j = t j) (hr : (r 0 = 0 ∨ r 0 = 1) → 0 ≤ r 2 ∧ r 2 ≤ 3) : YT g 0 := by
  obtain ⟨h3, h4⟩ := h
  refine ⟨by omega, fun k hk2 => ?_⟩
  by_cases e : k = (t 0).toNat
  · subst e
    have a0 := h1 0 (by decide)
    have a2 := h1 2 (by decide)
    rw [show 0 + 1 + 4 * (t 0).toNat = 1 + 4 * (t 0).toNat + 0 by omega, a0, show 1 + 4 * (t 0).toNat + 0 + 2 = 1 + 4 * (t 0).toNat + 2 by omega, a2]
    exact hr
  · rw [h2 _ (by omega) (by omega), h2 _ (by omega) (by omega)]
    exact h4 k hk2
/-- how many stand ahead -/
def cnA (t : Nat → Int) (p : Int) : Nat → Int
  | 0 => 0
  | o + 1 => cnA t p o + (if t o > t p.toNat ∨ (t o = t p.toNat ∧ (o : Int) < p) then 1 else 0)
abbrev befR (t : Nat → Int) (o p : Nat) : Prop := t o > t p ∨ (t o = t p ∧ (o : Int) < (p : Int))
theorem cnA_s {t : Nat → Int} {p o : Nat} : cnA t p (o + 1) = cnA t p o + (if befR t o p then 1 else 0) := rfl
theorem cnA_rg {t : Nat → Int} {p : Nat} : ∀ n : Nat, 0 ≤ cnA t p n ∧ cnA t p n ≤ n ∧ (p < n → cnA t p n < n) := by
  intro n
  induction n with
  | zero => exact ⟨Int.le_refl _, Int.le_refl _, fun h => absurd h (Nat.not_lt_zero _)⟩
  | succ n ih =>
    rw [cnA_s]
    split
    · rename_i hb
      refine ⟨by omega, by omega, fun h => ?_⟩
      by_cases e : p = n
      · subst e; rcases hb with h1 | ⟨-, h1⟩ <;> omega
      · have := ih.2.2 (by omega); omega
    · refine ⟨by omega, by omega, fun h => by omega⟩
theorem cnA_mono {t : Nat → Int} {o p : Nat} (h : befR t o p) : ∀ n : Nat, cnA t o n ≤ cnA t p n ∧ (o < n → cnA t o n < cnA t p n) := by
  intro n
  induction n with
  | zero => exact ⟨Int.le_refl _, fun h => absurd h (Nat.not_lt_zero _)⟩
  | succ n ih =>
    rw [cnA_s, cnA_s]
    have hb : befR t n o → befR t n p := by
      intro hq
      unfold befR at *
      omega
    by_cases h1 : befR t n o
    · rw [if_pos h1, if_pos (hb h1)]
      refine ⟨by omega, fun h2 => ?_⟩
      by_cases e : o = n
      · subst e; unfold befR at h1; omega
      · have := ih.2 (by omega); omega
    · rw [if_neg h1]
      by_cases h2 : befR t n p
      · rw [if_pos h2]; exact ⟨by omega, fun _ => by omega⟩
      · rw [if_neg h2]
        refine ⟨by omega, fun h3 => ?_⟩
        by_cases e : o = n
        · subst e; exact absurd h h2
        · have := ih.2 (by omega); omega
theorem cnA_inj {t : Nat → Int} {n o p : Nat} (ho : o < n) (hp : p < n) (h : cnA t o n = cnA t p n) : o = p := by
  by_cases e : o = p
  · exact e
  · have h1 : befR t o p ∨ befR t p o := by unfold befR; omega
    rcases h1 with h1 | h1
    · have := (cnA_mono h1 n).2 ho; omega
    · have := (cnA_mono h1 n).2 hp; omega
theorem phpN : ∀ (n : Nat) (f : Nat → Nat), (∀ i, i < n → f i < n) → (∀ i j, i < n → j < n → f i = f j → i = j) → ∀ k, k < n → ∃ i, i < n ∧ f i = k := by
  intro n
  induction n with
  | zero => intro f _ _ k hk; exact absurd hk (Nat.not_lt_zero _)
  | succ n ih =>
    intro f hf inj k hk
    have key : ∀ k, k < n → ∃ i, i < n ∧ (if f i = n then f n else f i) = k := by
      refine ih (fun i => if f i = n then f n else f i) (fun i hi => ?_) (fun i j hi hj h => ?_)
      · show (if f i = n then f n else f i) < n
        split
        · rename_i h1
          have h2 := hf n (by omega)
          have : f n ≠ n := fun h3 => by have := inj i n (by omega) (by omega) (by rw [h1, h3]); omega
          omega
        · have := hf i (by omega); omega
      · replace h : (if f i = n then f n else f i) = (if f j = n then f n else f j) := h
        by_cases h1 : f i = n
        · by_cases h2 : f j = n
          · exact inj i j (by omega) (by omega) (by rw [h1, h2])
          · rw [if_pos h1, if_neg h2] at h
            have := inj n j (by omega) (by omega) h; omega
        · by_cases h2 : f j = n
          · rw [if_neg h1, if_pos h2] at h
            have := inj i n (by omega) (by omega) h; omega
          · rw [if_neg h1, if_neg h2] at h
            exact inj i j (by omega) (by omega) h
    by_cases e : k = f n
    · exact ⟨n, by omega, e.symm⟩
    · by_cases e2 : k = n
      · have h2 := hf n (by omega)
        obtain ⟨i, hi, h3⟩ := key (f n) (by omega)
        by_cases h4 : f i = n
        · exact ⟨i, by omega, by omega⟩
        · rw [if_neg h4] at h3
          have := inj i n (by omega) (by omega) h3; omega
      · obtain ⟨i, hi, h3⟩ := key k (by omega)
        by_cases h4 : f i = n
        · rw [if_pos h4] at h3; omega
        · rw [if_neg h4] at h3; exact ⟨i, by omega, h3⟩
theorem cnA_ex (t : Nat → Int) (n k : Nat) (hk : k < n) : ∃ p : Nat, p < n ∧ cnA t p n = k := by
  obtain ⟨p, hp, h⟩ := phpN n (fun p => (cnA t p n).toNat) (fun i hi => by
    have := cnA_rg (t := t) (p := i) n
    have := this.2.2 hi
    show (cnA t i n).toNat < n
    omega) (fun i j hi hj h => cnA_inj (t := t) (n := n) hi hj (by
      have h1 := cnA_rg (t := t) (p := i) n
      have h2 := cnA_rg (t := t) (p := j) n
      have h3 : (cnA t i n).toNat = (cnA t j n).toNat := h
      omega)) k hk
  refine ⟨p, hp, ?_⟩
  have h1 := cnA_rg (t := t) (p := p) n
  have h3 : (cnA t p n).toNat = k := h
  omega
/-- how many pass a door that is raised -/
def pasR (f : Nat → Int) (bo d ra : Int) : Nat → Int
  | 0 => 0
  | p + 1 => pasR f bo d ra p + (if hasR (ofR f bo (31 + d)) p = 1 ∧ ofR f bo (5 + p) ≤ (Int32.ofInt (ofR f bo (25 + d)) + Int32.ofInt ra).toInt then 1 else 0)
theorem pasR_rg {f : Nat → Int} {bo d ra : Int} : ∀ n : Nat, 0 ≤ pasR f bo d ra n ∧ pasR f bo d ra n ≤ n := by
  intro n
  induction n with
  | zero => exact ⟨Int.le_refl _, Int.le_refl _⟩
  | succ n ih =>
    show 0 ≤ pasR f bo d ra n + _ ∧ pasR f bo d ra n + _ ≤ _
    split <;> omega
theorem pasR_s {f : Nat → Int} {bo d ra p : Int} (hp : 0 ≤ p) : pasR f bo d ra (p + 1).toNat = pasR f bo d ra p.toNat + (if hasR (ofR f bo (31 + d)) p = 1 ∧ ofR f bo (5 + p) ≤ (Int32.ofInt (ofR f bo (25 + d)) + Int32.ofInt ra).toInt then 1 else 0) := by
  rw [show (p + 1).toNat = p.toNat + 1 by omega]
  show pasR f bo d ra p.toNat + (if hasR _ ((p.toNat : Nat) : Int) = 1 ∧ ofR f bo (5 + ((p.toNat : Nat) : Int)) ≤ _ then _ else _) = _
  rw [show ((p.toNat : Nat) : Int) = p by omega]
theorem cnA_s' {t : Nat → Int} {p o : Int} (ho : 0 ≤ o) : cnA t p (o + 1).toNat = cnA t p o.toNat + (if t o.toNat > t p.toNat ∨ (t o.toNat = t p.toNat ∧ o < p) then 1 else 0) := by
  rw [show (o + 1).toNat = o.toNat + 1 by omega]
  show cnA t p o.toNat + (if t o.toNat > t p.toNat ∨ (t o.toNat = t p.toNat ∧ ((o.toNat : Nat) : Int) < p) then _ else _) = _
  rw [show ((o.toNat : Nat) : Int) = o by omega]
def PE (f g : Nat → Int) (bo : Int) (pe : Nat) (D d l : Int) : Prop := (0 ≤ g (100 * d + l).toNat ∧ g (100 * d + l).toNat ≤ 8 * (D - d)) ∧ (d < D → ∃ r : Int, 0 ≤ r ∧ r ≤ l ∧ pasR f bo d r pe + g (100 * (d + 1) + l - r).toNat = g (100 * d + l).toNat)
def PF (f g : Nat → Int) (bo : Int) (pe : Nat) (n D d l : Int) : Prop := ∀ d' l' : Int, 0 ≤ d' → d' ≤ D → 0 ≤ l' → l' ≤ n → (d < d' ∨ d' = d ∧ l' < l) → PE f g bo pe D d' l'
theorem PF_up {f g : Nat → Int} {bo n D d l v : Int} {pe : Nat} (h : PF f g bo pe n D d l) (hd : 0 ≤ d ∧ d ≤ D) (hl : 0 ≤ l ∧ l ≤ n ∧ n ≤ 99) (hv : 0 ≤ v ∧ v ≤ 8 * (D - d)) (hr : d < D → ∃ r : Int, 0 ≤ r ∧ r ≤ l ∧ pasR f bo d r pe + g (100 * (d + 1) + l - r).toNat = v) : PF f (q_up g (100 * d + l).toNat v) bo pe n D d (l + 1) := by
  intro d' l' h1 h2 h3 h4 h5
  have hne : ∀ a b : Int, 0 ≤ a → 0 ≤ b → b ≤ 99 → (d < a ∨ a = d ∧ b < l) → q_up g (100 * d + l).toNat v (100 * a + b).toNat = g (100 * a + b).toNat := fun a b ha hb hb2 hab => q_up_n (by omega)
  by_cases e : d' = d ∧ l' = l
  · obtain ⟨rfl, rfl⟩ := e
    unfold PE
    rw [q_up_s]
    refine ⟨hv, fun h6 => ?_⟩
    obtain ⟨r, r1, r2, r3⟩ := hr h6
    refine ⟨r, r1, r2, ?_⟩
    have := hne (d' + 1) (l' - r) (by omega) (by omega) (by omega) (by omega)
    rw [show 100 * (d' + 1) + (l' - r) = 100 * (d' + 1) + l' - r by omega] at this
    rw [this]; exact r3
  · have e1 := hne d' l' h1 h3 (by omega) (by omega)
    have e2 : ∀ r : Int, 0 ≤ r → r ≤ l' → q_up g (100 * d + l).toNat v (100 * (d' + 1) + l' - r).toNat = g (100 * (d' + 1) + l' - r).toNat := fun r r1 r2 => by
      have := hne (d' + 1) (l' - r) (by omega) (by omega) (by omega) (by omega)
      rw [show 100 * (d' + 1) + (l' - r) = 100 * (d' + 1) + l' - r by omega] at this
      exact this
    have h6 := h d' l' h1 h2 h3 h4 (by omega)
    unfold PE at *
    rw [e1]
    refine ⟨h6.1, fun h7 => ?_⟩
    obtain ⟨r, r1, r2, r3⟩ := h6.2 h7
    exact ⟨r, r1, r2, by rw [e2 r r1 r2]; exact r3⟩
theorem PF_dn {f g : Nat → Int} {bo n D d l d2 : Int} {pe : Nat} (h : PF f g bo pe n D d l) (hl : n < l) (e : d2 = d - 1) : PF f g bo pe n D d2 0 := by
  intro d' l' h1 h2 h3 h4 h5
  exact h d' l' h1 h2 h3 h4 (by omega)
theorem PF_0 {f g : Nat → Int} {bo n D : Int} {pe : Nat} : PF f g bo pe n D D 0 := fun d' l' h1 h2 h3 h4 h5 => by omega
def WZ (g : Nat → Int) (P W w s : Int) : Prop := ∀ w' s' : Int, 0 ≤ w' → w' ≤ W → 0 ≤ s' → s' < P → (w < w' ∨ w' = w ∧ s' < s) → g (7 * (256 * w' + s')).toNat = 0
theorem WZ_up0 {g : Nat → Int} {P W w s : Int} (h : WZ g P W w s) (hw : 0 ≤ w ∧ 0 ≤ s ∧ s < 256 ∧ P ≤ 256) {i : Int} (hi : i = 7 * (256 * w + s)) {v : Int} (hv : v = 0) : WZ (q_up g i.toNat v) P W w (s + 1) := by
  intro w' s' h1 h2 h3 h4 h5
  subst hi; subst hv
  by_cases e : w' = w ∧ s' = s
  · obtain ⟨rfl, rfl⟩ := e; exact q_up_s
  · rw [q_up_n (by omega)]; exact h w' s' h1 h2 h3 h4 (by omega)
theorem WZ_up {g : Nat → Int} {P W w s s2 n : Int} (h : WZ g P W w s2) (hn : 1 ≤ n ∧ n ≤ 6) (hs : 0 ≤ s ∧ 0 ≤ w) {i : Int} (hi : i = 7 * (256 * w + s) + n) {v : Int} : WZ (q_up g i.toNat v) P W w s2 := by
  intro w' s' h1 h2 h3 h4 h5
  subst hi
  rw [q_up_n (by omega)]; exact h w' s' h1 h2 h3 h4 h5
theorem WZ_dn {g : Nat → Int} {P W w s w2 : Int} (h : WZ g P W w s) (hs : P ≤ s) (e : w2 = w - 1) : WZ g P W w2 0 := fun w' s' h1 h2 h3 h4 h5 => h w' s' h1 h2 h3 h4 (by omega)
theorem WZ_0 {g : Nat → Int} {P W : Int} : WZ g P W W 0 := fun w' s' h1 h2 h3 h4 h5 => by omega
def p2R (k : Int) : Int := ((2 ^ k.toNat : Nat) : Int)
theorem e_p2 {z k : Int} (h : z = (Int32.ofInt 1 <<< (Int32.ofInt k &&& 31)).toInt) (hk : 0 ≤ k ∧ k ≤ 8) : z = p2R k ∧ 1 ≤ z ∧ z ≤ 256 := by
  have h1 := e_sh1 h ⟨hk.1, by omega⟩
  have h2 := e_shl h ⟨hk.1, by omega⟩
  exact ⟨h1, by omega, by omega⟩
theorem cpR_s {f h : Nat → Int} {n a b v z i i2 v2 : Int} (hh : ∀ j : Nat, h j = if n * b ≤ j ∧ (j : Int) < n * b + v then f (j - n * b + n * a).toNat else f j) (hv : 0 ≤ v) (hz : z = h i.toNat) (hi : i = n * a + v ∧ 0 ≤ n * a) (hd : ¬ (n * b ≤ n * a + v ∧ n * a + v < n * b + v)) (hi2 : i2 = n * b + v ∧ 0 ≤ n * b) (e2 : v2 = v + 1) : ∀ j : Nat, q_up h i2.toNat z j = if n * b ≤ j ∧ (j : Int) < n * b + v2 then f (j - n * b + n * a).toNat else f j := by
  intro j
  subst e2
  obtain ⟨rfl, h0⟩ := hi
  obtain ⟨rfl, h1⟩ := hi2
  by_cases e : (j : Int) = n * b + v
  · rw [show (n * b + v).toNat = j by omega, q_up_s, hz, hh, if_neg (by omega), if_pos (by omega)]
    congr 1; omega
  · rw [q_up_n (by omega), hh]
    by_cases h3 : n * b ≤ j ∧ (j : Int) < n * b + v
    · rw [if_pos h3, if_pos (by omega)]
    · rw [if_neg h3, if_neg (by omega)]
def seeR (t : Nat → Int) (i l : Int) : Int := if i < l then (Int32.ofInt (t i.toNat) &&& Int32.ofInt 255).toInt else -1
def cmR (w c : Int) : Int := (lg_cmp (Int64.ofInt w) (Int64.ofInt c)).toInt
def TI (a : Int) (t : Nat → Int) : Prop := (a = 0 → BT t 0) ∧ (a = 1 → YT t 0) ∧ (a = 3 → 0 ≤ t 0 ∧ t 0 ≤ 10)
theorem BT_cnt {f : Nat → Int} {a b c z : Int} (h : BT f 0) (ha : (a = 0 ∧ b = 5 ∧ c = 8) ∨ (a = 3 ∧ b = 25 ∧ c = 6) ∨ (a = 4 ∧ b = 37 ∧ c = 6)) (hz : z = f a.toNat) : 0 ≤ z ∧ z ≤ c := by
  obtain ⟨h1, h2, h3, -, -⟩ := h
  rcases ha with ⟨rfl, -, rfl⟩ | ⟨rfl, -, rfl⟩ | ⟨rfl, -, rfl⟩
  · rw [hz]; exact h1
  · rw [hz]; exact h2
  · rw [hz]; exact h3
theorem kp_s1 {h r : Nat → Int} {b : Nat} {v z i v2 : Int} (h1 : ∀ q : Nat, (q : Int) < v → h (b + q) = r q) (hv : 0 ≤ v) (hz : z = r v.toNat) (hi : i = b + v) (e : v2 = v + 1) : ∀ q : Nat, (q : Int) < v2 → q_up h i.toNat z (b + q) = r q := by
  intro q hq
  by_cases e2 : (q : Int) = v
  · rw [show i.toNat = b + q by omega, q_up_s, hz]; congr 1; omega
  · rw [q_up_n (by omega)]; exact h1 q (by omega)
theorem kp_s2 {h t : Nat → Int} {b w : Nat} {v z i : Int} (h2 : ∀ j : Nat, (j < b ∨ b + w ≤ j) → h j = t j) (hv : 0 ≤ v ∧ v < w) (hi : i = b + v) : ∀ j : Nat, (j < b ∨ b + w ≤ j) → q_up h i.toNat z j = t j := by
  intro j hj
  rw [q_up_n (by omega)]; exact h2 j hj
theorem YT_fin {t g r : Nat → Int} {v : Int} (h : YT t 0) (hk : ¬ t 0 = 40) (h1 : ∀ i : Nat, (i : Int) < 4 → g (1 + 4 * (t 0).toNat + i) = r i) (h2 : ∀ j : Nat, (j < 1 + 4 * (t 0).toNat ∨ 1 + 4 * (t 0).toNat + 4 ≤ j) → g j = t j) (hr : (r 0 = 0 ∨ r 0 = 1) → 0 ≤ r 2 ∧ r 2 ≤ 3) (hv : v = t 0 + 1) : YT (q_up g 0 v) 0 := by
  refine YT_keep h hk (by rw [q_up_s, hv]) (fun i hi => ?_) (fun j hj hj2 => ?_) hr
  · rw [q_up_n (by omega)]; exact h1 i (by omega)
  · rw [q_up_n (by omega)]; exact h2 j hj2
theorem bl_s {h : Nat → Int} {a v z v2 : Int} (hz : ∀ j : Nat, (j : Int) < v → h j = if a = 0 ∧ 13 ≤ j ∧ j ≤ 20 then -1 else 0) (hv : 0 ≤ v) (e : v2 = v + 1) (hzv : z = if a = 0 ∧ 13 ≤ v ∧ v ≤ 20 then -1 else 0) : ∀ j : Nat, (j : Int) < v2 → q_up h v.toNat z j = if a = 0 ∧ 13 ≤ j ∧ j ≤ 20 then -1 else 0 := by
  intro j hj
  by_cases e2 : (j : Int) = v
  · rw [show v.toNat = j by omega, q_up_s, hzv]
    by_cases h3 : a = 0 ∧ 13 ≤ j ∧ j ≤ 20
    · rw [if_pos h3, if_pos (by omega)]
    · rw [if_neg h3, if_neg (by omega)]
  · rw [q_up_n (by omega)]; exact hz j (by omega)
theorem bl_TI {h : Nat → Int} {a v : Int} (hz : ∀ j : Nat, (j : Int) < v → h j = if a = 0 ∧ 13 ≤ j ∧ j ≤ 20 then -1 else 0) (hv : 161 ≤ v) (ha : ¬ a = 0) : TI a h := by
  have h0 : ∀ j : Nat, j < 161 → h j = 0 := fun j hj => by rw [hz j (by omega), if_neg (by omega)]
  refine ⟨fun e => absurd e ha, fun _ => ⟨?_, fun k hk _ => ?_⟩, fun _ => ?_⟩
  · rw [h0 0 (by decide)]; omega
  · rw [h0 _ (by omega)]; omega
  · rw [h0 0 (by decide)]; omega
theorem bl_BT {h : Nat → Int} {a v : Int} (hz : ∀ j : Nat, (j : Int) < v → h j = if a = 0 ∧ 13 ≤ j ∧ j ≤ 20 then -1 else 0) (hv : 161 ≤ v) (ha : a = 0) : BT h 0 := by
  refine ⟨?_, ?_, ?_, fun i hi => ?_, fun i hi => ?_⟩
  · rw [hz 0 (by omega), if_neg (by omega)]; omega
  · rw [hz (0 + 3) (by omega), if_neg (by omega)]; omega
  · rw [hz (0 + 4) (by omega), if_neg (by omega)]; omega
  · rw [hz _ (by omega), if_pos (by omega)]; omega
  · rw [hz _ (by omega), if_neg (by omega)]; omega
theorem gr_s {t : Nat → Int} {v1 v2 v3 z i n : Int} (ho : v2 = pch t 0 v3.toNat v1) (h2 : ¬ v2 = -1) (h0 : 0 ≤ v2) (h3 : 0 ≤ v3) (hz : z = t i.toNat) (hi : i = 13 + v2) (hn : n = v3 + 1) : z = pch t 0 n.toNat v1 := by
  rw [show n.toNat = v3.toNat + 1 by omega, pch_s (by omega), ← ho, hz]
  congr 1; omega
theorem gr_q {t : Nat → Int} {v1 v2 v3 z : Int} (hq : ∀ p : Nat, (p : Int) < v1 → pch t 0 8 p = -1) (ho : v2 = pch t 0 v3.toNat v1) (e : v2 = -1) (h1 : 0 ≤ v1) (h3 : v3 ≤ 8) (hz : z = v1 + 1) : ∀ p : Nat, (p : Int) < z → pch t 0 8 p = -1 := by
  intro p hp
  by_cases e2 : (p : Int) = v1
  · rw [e2]; exact pch_le (by rw [← ho]; exact e) (by omega)
  · exact hq p (by omega)
