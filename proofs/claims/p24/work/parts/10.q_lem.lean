/-! ===== ways up ===== -/
def pch (f : Nat → Int) (b : Nat) : Nat → Int → Int
  | 0, o => o
  | n + 1, o => if pch f b n o = -1 then -1 else f (b + 13 + (pch f b n o).toNat)
theorem pch_rg {f : Nat → Int} {b : Nat} (h : ∀ i : Nat, i < 8 → -1 ≤ f (b + 13 + i) ∧ f (b + 13 + i) ≤ 7) {o : Int} (ho : -1 ≤ o ∧ o ≤ 7) : ∀ n : Nat, -1 ≤ pch f b n o ∧ pch f b n o ≤ 7 := by
  intro n
  induction n with
  | zero => exact ho
  | succ n ih =>
    unfold pch
    split
    · omega
    · exact h _ (by omega)
theorem pch_eq {f g : Nat → Int} {b c : Nat} (h : ∀ i : Nat, i < 8 → -1 ≤ f (b + 13 + i) ∧ f (b + 13 + i) ≤ 7) (hfg : ∀ i : Nat, i < 8 → g (c + 13 + i) = f (b + 13 + i)) {o : Int} (ho : -1 ≤ o ∧ o ≤ 7) : ∀ n : Nat, pch g c n o = pch f b n o := by
  intro n
  induction n with
  | zero => rfl
  | succ n ih =>
    unfold pch
    rw [ih]
    have := pch_rg h ho n
    split
    · rfl
    · exact hfg _ (by omega)
theorem pch_end {f : Nat → Int} {b : Nat} {o : Int} {n : Nat} (h : pch f b n o = -1) : ∀ m : Nat, pch f b (n + m) o = -1 := by
  intro m
  induction m with
  | zero => exact h
  | succ m ih => show (if pch f b (n + m) o = -1 then (-1 : Int) else _) = -1; rw [if_pos ih]
theorem pch_le {f : Nat → Int} {b : Nat} {o : Int} {n m : Nat} (h : pch f b n o = -1) (hn : n ≤ m) : pch f b m o = -1 := by
  obtain ⟨d, rfl⟩ := Nat.exists_eq_add_of_le hn
  exact pch_end h d
theorem pch_s {f : Nat → Int} {b : Nat} {o : Int} {n : Nat} (h : ¬ pch f b n o = -1) : pch f b (n + 1) o = f (b + 13 + (pch f b n o).toNat) := by
  show (if pch f b n o = -1 then (-1 : Int) else _) = _
  rw [if_neg h]
/-! ===== pigeonhole, chains of parents ===== -/
theorem pgh : ∀ (m : Nat) (x : Nat → Nat), (∀ i : Nat, i ≤ m → x i < m) → ∃ i j : Nat, i < j ∧ j ≤ m ∧ x i = x j := by
  intro m
  induction m with
  | zero => intro x h; exact absurd (h 0 (Nat.le_refl 0)) (Nat.not_lt_zero _)
  | succ m ih =>
    intro x h
    by_cases c : ∃ i : Nat, i ≤ m ∧ x i = x (m + 1)
    · obtain ⟨i, h1, h2⟩ := c
      exact ⟨i, m + 1, by omega, Nat.le_refl _, h2⟩
    · have hn : ∀ i : Nat, i ≤ m → ¬ x i = x (m + 1) := fun i h1 h2 => c ⟨i, h1, h2⟩
      have hv := h (m + 1) (Nat.le_refl _)
      obtain ⟨i, j, h1, h2, h3⟩ := ih (fun i => if x i = m then x (m + 1) else x i) (fun i hi => by
        have a1 := h i (by omega)
        have a2 := hn i hi
        show (if x i = m then x (m + 1) else x i) < m
        split
        · rename_i e
          omega
        · omega)
      refine ⟨i, j, h1, by omega, ?_⟩
      have b1 := hn i (by omega)
      have b2 := hn j h2
      have h3 : (if x i = m then x (m + 1) else x i) = (if x j = m then x (m + 1) else x j) := h3
      by_cases c1 : x i = m
      · by_cases c2 : x j = m
        · rw [c1, c2]
        · rw [if_pos c1, if_neg c2] at h3
          exact absurd h3.symm b2
      · by_cases c2 : x j = m
        · rw [if_neg c1, if_pos c2] at h3
          exact absurd h3 b1
        · rw [if_neg c1, if_neg c2] at h3
          exact h3
/-- a way up that goes on for as many steps as there are PEOPLE never ends -/
theorem chn {s : Nat → Int → Int} {f : Int → Int} (h0 : ∀ o, s 0 o = o) (hs : ∀ k o, s (k + 1) o = if s k o = -1 then -1 else f (s k o)) (m : Nat) (hf : ∀ o : Int, 0 ≤ o → o < m → f o = -1 ∨ (0 ≤ f o ∧ f o < m)) (p : Int) (hp : 0 ≤ p ∧ p < m) (hm : ¬ s m p = -1) : ∀ k : Nat, ¬ s k p = -1 := by
  have hin : ∀ k : Nat, s k p = -1 ∨ (0 ≤ s k p ∧ s k p < m) := by
    intro k
    induction k with
    | zero => right; rw [h0]; exact hp
    | succ k ih =>
      rw [hs]
      rcases ih with e | ⟨a, b⟩
      · rw [if_pos e]; exact Or.inl rfl
      · rw [if_neg (by omega)]; exact hf _ a b
  have hdn : ∀ k : Nat, s k p = -1 → ∀ d : Nat, s (k + d) p = -1 := by
    intro k hk d
    induction d with
    | zero => exact hk
    | succ d ih =>
      rw [show k + (d + 1) = (k + d) + 1 by omega, hs, if_pos ih]
  have hup : ∀ k : Nat, k ≤ m → ¬ s k p = -1 := fun k hk e => hm (by
    have := hdn k e (m - k)
    rw [show k + (m - k) = m by omega] at this
    exact this)
  obtain ⟨i, j, h1, h2, h3⟩ := pgh m (fun k => (s k p).toNat) (fun k hk => by
    show (s k p).toNat < m
    rcases hin k with e | e
    · exact absurd e (hup k hk)
    · omega)
  have hij : s i p = s j p := by
    have h3 : (s i p).toNat = (s j p).toNat := h3
    rcases hin i with e | e
    · exact absurd e (hup i (by omega))
    · rcases hin j with e' | e'
      · exact absurd e' (hup j h2)
      · omega
  have hsh : ∀ d : Nat, s (i + d) p = s (j + d) p := by
    intro d
    induction d with
    | zero => exact hij
    | succ d ih => rw [show i + (d + 1) = (i + d) + 1 by omega, show j + (d + 1) = (j + d) + 1 by omega, hs, hs, ih]
  intro k
  induction k using Nat.strongRecOn with
  | ind k ih =>
    by_cases c : k < j
    · exact hup k (by omega)
    · have h4 := hsh (k - j)
      rw [show j + (k - j) = k by omega] at h4
      rw [← h4]
      exact ih (i + (k - j)) (by omega)
/-! ===== the class's masks of PEOPLE named, the reference's greatest ===== -/
def NPR (np fp : Int) : Prop := (0 ≤ np ∧ np ≤ 255) ∧ (-1 ≤ fp ∧ fp ≤ 7) ∧ ∀ k : Nat, k ≤ 8 → (((2 ^ k : Nat) : Int) ≤ np ↔ (k : Int) ≤ fp)
theorem NPR_0 : NPR 0 (-1) := by
  refine ⟨⟨by decide, by decide⟩, ⟨by decide, by decide⟩, fun k hk => ?_⟩
  have h1 : 1 ≤ 2 ^ k := Nat.one_le_two_pow
  omega
theorem lor_le : ∀ (m : Fin 256) (a : Fin 8) (k : Fin 9), (2 ^ k.val ≤ (m.val ||| 2 ^ a.val)) ↔ (2 ^ k.val ≤ m.val ∨ k.val ≤ a.val) := by decide +kernel
theorem orI_e {m a : Int} (hm : 0 ≤ m ∧ m ≤ 255) (ha : 0 ≤ a ∧ a ≤ 7) : orI m a = ((m.toNat ||| 2 ^ a.toNat : Nat) : Int) := by
  have h1 := q_sh1 ⟨a.toNat, by omega⟩
  have h2 : (2 : Nat) ^ a.toNat ≤ 128 := by
    have : (2 : Nat) ^ a.toNat ≤ 2 ^ 7 := Nat.pow_le_pow_right (by decide) (by omega)
    exact this
  have e1 : Int32.ofInt 1 <<< (Int32.ofInt a &&& 31) = nI (2 ^ a.toNat) := by
    apply Int32.toInt_inj.mp
    rw [nI_toInt (by omega), q_nI ha.1 (by omega)]
    exact h1
  unfold orI
  rw [e1, q_nI hm.1 (by omega), q_or]
  have h3 : m.toNat ||| 2 ^ a.toNat < 2 ^ 8 := Nat.or_lt_two_pow (by omega) (by omega)
  rw [nI_toInt (by omega)]
theorem NPR_or {np fp a : Int} (h : NPR np fp) (ha : 0 ≤ a ∧ a ≤ 7) : NPR (orI np a) (max fp a) := by
  obtain ⟨h1, h2, h3⟩ := h
  have e := orI_e h1 ha
  have h4 : np.toNat ||| 2 ^ a.toNat < 2 ^ 8 := Nat.or_lt_two_pow (by omega) (by
    have : (2 : Nat) ^ a.toNat ≤ 2 ^ 7 := Nat.pow_le_pow_right (by decide) (by omega)
    omega)
  refine ⟨by omega, by omega, fun k hk => ?_⟩
  have h5 := lor_le ⟨np.toNat, by omega⟩ ⟨a.toNat, by omega⟩ ⟨k, by omega⟩
  have h5 : (2 ^ k ≤ (np.toNat ||| 2 ^ a.toNat)) ↔ (2 ^ k ≤ np.toNat ∨ k ≤ a.toNat) := h5
  have h6 := h3 k hk
  rw [e]
  constructor
  · intro h7
    rcases h5.mp (by omega) with h8 | h8
    · have := h6.mp (by omega)
      omega
    · omega
  · intro h7
    have h8 : 2 ^ k ≤ (np.toNat ||| 2 ^ a.toNat) := h5.mpr (by
      by_cases c : (k : Int) ≤ fp
      · left
        have := h6.mpr c
        omega
      · right; omega)
    omega
/-! ===== packed words ===== -/
def tbF (i : Nat) : Nat → Int := fun j => ((qTb.getD i []).getD j 0).toInt
def Wc : List Int := (0x706572736f6e :: 0x706f6f72 :: 0x636175676874 :: 0x646f6f72 :: 0x776f726b :: 0x6368696c64 :: 0x70617373 :: 0x636f737473 :: 0x77697368 :: 0x66696e65 :: 0x6261696c :: 0x67697665 :: 0x73747265746368 :: 0x67696674 :: 0x676f74 :: 0x6f776564 :: 0x74616c6c :: 0x7468656674 :: 0x6c6965 :: 0x7370656564 :: 0x696e73756c74 :: [])
theorem tbF_b : ∀ (i : Fin 21) (j : Fin 8), byt (tbF i.val) ((j.val : Nat) : Int) = tbF i.val j.val := by decide +kernel
theorem tbF_pk : ∀ i : Fin 21, pkN (tbF i.val) 0 (qTn.getD i.val 0) = Wc.getD i.val 0 := by decide +kernel
theorem tbF_1 : ∀ (i : Fin 21) (j : Fin 8), j.val < qTn.getD i.val 0 → 1 ≤ tbF i.val j.val := by decide +kernel
theorem qTn_7 : ∀ i : Fin 21, qTn.getD i.val 0 ≤ 7 := by decide +kernel
theorem pkN_ext {t s : Nat → Int} {b c : Int} : ∀ k : Nat, (∀ j : Nat, j < k → byt t (b + j) = byt s (c + j)) → pkN t b k = pkN s c k := by
  intro k
  induction k with
  | zero => intro _; rfl
  | succ k ih =>
    intro h
    unfold pkN
    rw [ih (fun j hj => h j (by omega)), h k (by omega)]
/-- the reference's packed word and the class's comparison say the same -/
theorem pk_is {t : Nat → Int} {b e : Int} {i : Nat} (hi : i < 21) (hbe : b ≤ e) (hL : ∀ j : Int, b ≤ j → j < e → isL (byt t j)) : pkN t b (e - b).toNat = Wc.getD i 0 ↔ IsP t b e 1 i := by
  have h7 := qTn_7 ⟨i, hi⟩
  have h7 : qTn.getD i 0 ≤ 7 := h7
  have hp := tbF_pk ⟨i, hi⟩
  have hp : pkN (tbF i) 0 (qTn.getD i 0) = Wc.getD i 0 := hp
  have hb : ∀ j : Nat, j < qTn.getD i 0 → byt (tbF i) (0 + (j : Int)) = tbF i j := fun j hj => by
    rw [Int.zero_add]
    exact tbF_b ⟨i, hi⟩ ⟨j, by omega⟩
  have h1 : ∀ j : Nat, j < qTn.getD i 0 → 1 ≤ byt (tbF i) (0 + (j : Int)) := fun j hj => by
    rw [hb j hj]
    exact tbF_1 ⟨i, hi⟩ ⟨j, by omega⟩ hj
  have h2 : ∀ j : Nat, j < (e - b).toNat → 1 ≤ byt t (b + (j : Int)) := fun j hj => by
    have := hL (b + j) (by omega) (by omega)
    omega
  constructor
  · intro h
    rw [← hp] at h
    obtain ⟨a1, a2⟩ := pkN_inj _ _ h2 h1 h
    refine ⟨rfl, by omega, fun j hj => ?_⟩
    rw [a2 j (by omega), hb j hj]
    rfl
  · rintro ⟨-, a1, a2⟩
    rw [← hp, show (e - b).toNat = qTn.getD i 0 by omega]
    refine pkN_ext _ (fun j hj => ?_)
    rw [a2 j hj, hb j hj]
    rfl
