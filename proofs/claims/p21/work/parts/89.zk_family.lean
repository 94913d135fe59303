/-! ===== sets of PEOPLE as numbers ===== -/
theorem hasR_tb : ∀ (m : Fin 256) (k : Fin 8), hasR (m.val : Int) (k.val : Int) = if m.val.testBit k.val then 1 else 0 := by decide +kernel
theorem hasR_e {m k : Int} (hm : 0 ≤ m ∧ m ≤ 255) (hk : 0 ≤ k ∧ k ≤ 7) : hasR m k = if m.toNat.testBit k.toNat then 1 else 0 := by
  have h := hasR_tb ⟨m.toNat, by omega⟩ ⟨k.toNat, by omega⟩
  have e1 : ((m.toNat : Nat) : Int) = m := by omega
  have e2 : ((k.toNat : Nat) : Int) = k := by omega
  rw [show (((⟨m.toNat, by omega⟩ : Fin 256).val : Nat) : Int) = m from e1, show (((⟨k.toNat, by omega⟩ : Fin 8).val : Nat) : Int) = k from e2] at h
  exact h
theorem hasR_01 {m k : Int} : hasR m k = 0 ∨ hasR m k = 1 := by
  unfold hasR
  split
  · exact Or.inr rfl
  · exact Or.inl rfl
theorem hasR_or {m a j : Int} (hm : 0 ≤ m ∧ m ≤ 255) (ha : 0 ≤ a ∧ a ≤ 7) (hj : 0 ≤ j ∧ j ≤ 7) : hasR (orI m a) j = if j = a then 1 else hasR m j := by
  have e := orI_e hm ha
  have r := orI_rg hm ha
  rw [hasR_e r hj, hasR_e hm hj, show (orI m a).toNat = m.toNat ||| 2 ^ a.toNat by omega, Nat.testBit_or, Nat.testBit_two_pow]
  by_cases c : j = a
  · subst c
    rw [if_pos rfl, decide_eq_true rfl, Bool.or_true, if_pos rfl]
  · rw [if_neg c, decide_eq_false (show ¬ a.toNat = j.toNat by omega), Bool.or_false]
theorem hasR_0 {j : Int} (hj : 0 ≤ j ∧ j ≤ 7) : hasR 0 j = 0 := by
  rw [hasR_e (by omega) hj]
  rw [show ((0 : Int).toNat) = 0 from rfl, Nat.zero_testBit]
  rfl
theorem e_or0 {z x : Int} (h : z = (Int32.ofInt x ||| Int32.ofInt 0).toInt) (hx : -2147483648 ≤ x ∧ x ≤ 2147483647) : z = x := by
  rw [h, show Int32.ofInt 0 = 0 from rfl, Int32.or_zero]
  exact q_io hx
theorem e_orJ {z x y a : Int} (h : z = (Int32.ofInt x ||| Int32.ofInt y).toInt) (hy : y = (Int32.ofInt 1 <<< (Int32.ofInt a &&& 31)).toInt) : z = orI x a := by
  rw [h, hy]
  unfold orI
  rw [Int32.ofInt_toInt]
/-- of those with numbers below k, who has it -/
def fmB (s : Nat → Int) : Nat → Int
  | 0 => 0
  | k + 1 => if s k = -1 then fmB s k else orI (fmB s k) k
theorem fmB_rg {s : Nat → Int} : ∀ k : Nat, k ≤ 8 → 0 ≤ fmB s k ∧ fmB s k ≤ 255 := by
  intro k
  induction k with
  | zero => intro _; exact ⟨Int.le_refl 0, (show (0 : Int) ≤ 255 by decide)⟩
  | succ k ih =>
    intro hk
    have h := ih (by omega)
    show 0 ≤ (if s k = -1 then fmB s k else orI (fmB s k) k) ∧ (if s k = -1 then fmB s k else orI (fmB s k) k) ≤ 255
    split
    · exact h
    · exact orI_rg h (by omega)
theorem fmB_has {s : Nat → Int} : ∀ k : Nat, k ≤ 8 → ∀ j : Nat, j < 8 → hasR (fmB s k) j = if j < k ∧ ¬ s j = -1 then 1 else 0 := by
  intro k
  induction k with
  | zero =>
    intro _ j hj
    rw [show fmB s 0 = 0 from rfl, hasR_0 (by omega), if_neg (by omega)]
  | succ k ih =>
    intro hk j hj
    have h := ih (by omega) j hj
    have r := fmB_rg (s := s) k (by omega)
    show hasR (if s k = -1 then fmB s k else orI (fmB s k) k) j = _
    by_cases c : s k = -1
    · rw [if_pos c, h]
      by_cases c2 : j < k ∧ ¬ s j = -1
      · rw [if_pos c2, if_pos ⟨by omega, c2.2⟩]
      · rw [if_neg c2, if_neg (fun h9 => c2 ⟨by
          by_cases e : j = k
          · rw [e] at h9; exact absurd c h9.2
          · omega, h9.2⟩)]
    · rw [if_neg c, hasR_or r (by omega) (by omega), h]
      by_cases e : j = k
      · subst e
        rw [if_pos rfl, if_pos ⟨by omega, c⟩]
      · rw [if_neg (show ¬ (j : Int) = k by omega)]
        by_cases c2 : j < k ∧ ¬ s j = -1
        · rw [if_pos c2, if_pos ⟨by omega, c2.2⟩]
        · rw [if_neg c2, if_neg (fun h9 => c2 ⟨by omega, h9.2⟩)]
/-- what those of a set have together -/
def smS (D : Nat → Int) (m : Int) : Nat → Int
  | 0 => 0
  | k + 1 => smS D m k + (if hasR m (k : Int) = 1 then D (5 + k) else 0)
theorem smS_s {D : Nat → Int} {m v x s k k' : Int} (h : v = smS D m k.toNat) (hk : 0 ≤ k) (hx : x = if hasR m k = 1 then D (5 + k.toNat) else 0) (hs : s = v + x) (e : k' = k + 1) : s = smS D m k'.toNat := by
  subst e
  rw [show (k + 1).toNat = k.toNat + 1 by omega]
  show s = smS D m k.toNat + (if hasR m ((k.toNat : Nat) : Int) = 1 then D (5 + k.toNat) else 0)
  rw [show ((k.toNat : Nat) : Int) = k by omega, ← h, ← hx]
  exact hs
theorem smS_rg {D : Nat → Int} {m : Int} (hK : BK D) : ∀ k : Nat, k ≤ 8 → 0 ≤ smS D m k ∧ smS D m k ≤ 99 * k := by
  intro k
  induction k with
  | zero => intro _; exact ⟨Int.le_refl 0, Int.le_refl 0⟩
  | succ k ih =>
    intro hk
    have h := ih (by omega)
    have i := BK_i hK (i := k) (by omega)
    show 0 ≤ smS D m k + (if hasR m (k : Int) = 1 then D (5 + k) else 0) ∧ smS D m k + (if hasR m (k : Int) = 1 then D (5 + k) else 0) ≤ 99 * ((k + 1 : Nat) : Int)
    split <;> omega
/-! ===== family ===== -/
theorem cb_sc {f1 f2 f3 f4 f5 f6 f7 D : Nat → Int} {u0 u1 u2 u3 u4 a t r : Int} (h : CBK f1 f2 f3 f4 f5 f6 f7 u0 u1 u2 u3 u4 D) (hs : ScC f2 u0 a t r) (ha : 0 ≤ a ∧ a < D 0) (ht : 0 ≤ t) : ScR D 0 a t r := Sc_cv h.2.1 h.1.2.2.1 h.1.1.1 (BK_p h.2).2 ha ht hs
theorem ob_sc {bs D : Nat → Int} {mbo a t r : Int} (hD : D = rwD bs (75 * mbo).toNat) (hb : 0 ≤ mbo) (h : ScR bs (75 * mbo.toNat) a t r) : ScR D 0 a t r := by
  subst hD
  rw [show (75 * mbo).toNat = 75 * mbo.toNat by omega]
  exact ScR_rw.mpr h
def fmI (D s : Nat → Int) : Nat → Int
  | 0 => 0
  | k + 1 => if s k = -1 then fmI D s k else fmI D s k + D (5 + k)
def fmX (s : Nat → Int) : Nat → Int
  | 0 => 0
  | k + 1 => max (fmX s k) (s k)
def FmS (D : Nat → Int) (t k : Int) (s : Nat → Int) : Prop := ∀ p : Nat, (p : Int) < k → ScR D 0 p t (s p)
def FmB (D : Nat → Int) (t k w : Int) : Prop := ∃ s : Nat → Int, FmS D t k s ∧ w = fmB s k.toNat
def FmI (D : Nat → Int) (t k w : Int) : Prop := ∃ s : Nat → Int, FmS D t k s ∧ w = fmI D s k.toNat
def FmX (D : Nat → Int) (t k w : Int) : Prop := ∃ s : Nat → Int, FmS D t k s ∧ w = fmX s k.toNat
theorem fm_c {D s s' : Nat → Int} : ∀ k : Nat, (∀ p : Nat, p < k → s p = s' p) → fmB s k = fmB s' k ∧ fmI D s k = fmI D s' k ∧ fmX s k = fmX s' k := by
  intro k
  induction k with
  | zero => intro _; exact ⟨rfl, rfl, rfl⟩
  | succ k ih =>
    intro h
    obtain ⟨a1, a2, a3⟩ := ih (fun p hp => h p (by omega))
    have e := h k (by omega)
    refine ⟨?_, ?_, ?_⟩
    · show (if s k = -1 then fmB s k else orI (fmB s k) k) = (if s' k = -1 then fmB s' k else orI (fmB s' k) k)
      rw [e, a1]
    · show (if s k = -1 then fmI D s k else fmI D s k + D (5 + k)) = (if s' k = -1 then fmI D s' k else fmI D s' k + D (5 + k))
      rw [e, a2]
    · show max (fmX s k) (s k) = max (fmX s' k) (s' k)
      rw [e, a3]
theorem FmS_u {D s s' : Nat → Int} {t k : Int} (h : FmS D t k s) (h' : FmS D t k s') : ∀ p : Nat, p < k.toNat → s p = s' p := fun p hp => ScR_u (h p (by omega)) (h' p (by omega))
theorem FmS_s {D s : Nat → Int} {t k k' z : Int} (h : FmS D t k s) (hk : 0 ≤ k) (hz : ScR D 0 k t z) (e : k' = k + 1) : FmS D t k' (q_up s k.toNat z) := fun p hp => by
  by_cases c : p = k.toNat
  · rw [c, q_up_s, show ((k.toNat : Nat) : Int) = k by omega]
    exact hz
  · rw [q_up_n c]
    exact h p (by omega)
theorem fm_up {D s : Nat → Int} {k z : Int} (hk : 0 ≤ k) : fmB (q_up s k.toNat z) k.toNat = fmB s k.toNat ∧ fmI D (q_up s k.toNat z) k.toNat = fmI D s k.toNat ∧ fmX (q_up s k.toNat z) k.toNat = fmX s k.toNat := fm_c k.toNat (fun p hp => q_up_n (by omega))
theorem FmB_0 {D : Nat → Int} {t : Int} : FmB D t 0 0 := ⟨fun _ => 0, fun p hp => by omega, rfl⟩
theorem FmI_0 {D : Nat → Int} {t : Int} : FmI D t 0 0 := ⟨fun _ => 0, fun p hp => by omega, rfl⟩
theorem FmX_0 {D : Nat → Int} {t : Int} : FmX D t 0 0 := ⟨fun _ => 0, fun p hp => by omega, rfl⟩
theorem FmB_s {D : Nat → Int} {t k w k' w' z : Int} (h : FmB D t k w) (hk : 0 ≤ k) (hz : ScR D 0 k t z) (e : k' = k + 1) (hw : z = -1 ∧ w' = w ∨ ¬ z = -1 ∧ w' = orI w k) : FmB D t k' w' := by
  obtain ⟨s, h1, h2⟩ := h
  refine ⟨q_up s k.toNat z, FmS_s h1 hk hz e, ?_⟩
  rw [e, show (k + 1).toNat = k.toNat + 1 by omega]
  show w' = (if q_up s k.toNat z k.toNat = -1 then fmB (q_up s k.toNat z) k.toNat else orI (fmB (q_up s k.toNat z) k.toNat) ((k.toNat : Nat) : Int))
  rw [q_up_s, (fm_up (D := D) hk).1, ← h2, show ((k.toNat : Nat) : Int) = k by omega]
  rcases hw with ⟨c, hw⟩ | ⟨c, hw⟩
  · rw [if_pos c]; exact hw
  · rw [if_neg c]; exact hw
theorem FmI_s {D : Nat → Int} {t k w k' w' z i : Int} (h : FmI D t k w) (hk : 0 ≤ k) (hz : ScR D 0 k t z) (e : k' = k + 1) (hi : i = D (5 + k.toNat) ∨ z = -1) (hw : z = -1 ∧ w' = w ∨ ¬ z = -1 ∧ w' = w + i) : FmI D t k' w' := by
  obtain ⟨s, h1, h2⟩ := h
  refine ⟨q_up s k.toNat z, FmS_s h1 hk hz e, ?_⟩
  rw [e, show (k + 1).toNat = k.toNat + 1 by omega]
  show w' = (if q_up s k.toNat z k.toNat = -1 then fmI D (q_up s k.toNat z) k.toNat else fmI D (q_up s k.toNat z) k.toNat + D (5 + k.toNat))
  rw [q_up_s, (fm_up (D := D) hk).2.1, ← h2]
  rcases hw with ⟨c, hw⟩ | ⟨c, hw⟩
  · rw [if_pos c]; exact hw
  · rw [if_neg c]
    rcases hi with hi | hi
    · rw [← hi]; exact hw
    · exact absurd hi c
theorem FmX_s {D : Nat → Int} {t k w k' w' z : Int} (h : FmX D t k w) (hk : 0 ≤ k) (hz : ScR D 0 k t z) (e : k' = k + 1) (hw : w' = max w z) : FmX D t k' w' := by
  obtain ⟨s, h1, h2⟩ := h
  refine ⟨q_up s k.toNat z, FmS_s h1 hk hz e, ?_⟩
  rw [e, show (k + 1).toNat = k.toNat + 1 by omega]
  show w' = max (fmX (q_up s k.toNat z) k.toNat) (q_up s k.toNat z k.toNat)
  rw [q_up_s, (fm_up (D := D) hk).2.2, ← h2]
  exact hw
/-- the set's inches -/
theorem fm_sm {D s : Nat → Int} {n : Nat} (hn : n ≤ 8) : ∀ k : Nat, k ≤ n → smS D (fmB s n) k = fmI D s k := by
  intro k
  induction k with
  | zero => intro _; rfl
  | succ k ih =>
    intro hk
    show smS D (fmB s n) k + (if hasR (fmB s n) (k : Int) = 1 then D (5 + k) else 0) = (if s k = -1 then fmI D s k else fmI D s k + D (5 + k))
    rw [ih (by omega), fmB_has n hn k (by omega)]
    by_cases c : s k = -1
    · rw [if_pos c, if_neg (show ¬ (k < n ∧ ¬ s k = -1) from fun h9 => h9.2 c), if_neg (by decide)]
      omega
    · rw [if_neg c, if_pos (show k < n ∧ ¬ s k = -1 from ⟨by omega, c⟩), if_pos rfl]
theorem Fm_BI {D : Nat → Int} {t k w z : Int} (h : FmB D t k w) (hk : 0 ≤ k ∧ k ≤ 8) (hz : z = smS D w k.toNat) : FmI D t k z := by
  obtain ⟨s, h1, h2⟩ := h
  refine ⟨s, h1, ?_⟩
  rw [hz, h2]
  exact fm_sm (by omega) _ (Nat.le_refl _)
theorem FmB_rg {D : Nat → Int} {t k w : Int} (h : FmB D t k w) (hk : 0 ≤ k ∧ k ≤ 8) : 0 ≤ w ∧ w ≤ 255 := by
  obtain ⟨s, h1, h2⟩ := h
  rw [h2]
  exact fmB_rg _ (by omega)
def FmA (D : Nat → Int) (b c z : Int) : Prop := (0 ≤ b ∧ b < D 0) ∧ (c = 0 ∧ FmB D b (D 0) z ∨ c = 1 ∧ FmI D b (D 0) z ∨ c = 2 ∧ FmX D b (D 0) z) ∨ ¬ ((0 ≤ b ∧ b < D 0) ∧ 0 ≤ c ∧ c ≤ 2) ∧ z = -1
theorem FmA_u {D : Nat → Int} (b c z z' : Int) (h : FmA D b c z) (h' : FmA D b c z') : z = z' := by
  rcases h with ⟨p, h⟩ | ⟨p, h⟩ <;> rcases h' with ⟨p', h'⟩ | ⟨p', h'⟩
  · rcases h with ⟨c1, s, a1, a2⟩ | ⟨c1, s, a1, a2⟩ | ⟨c1, s, a1, a2⟩ <;> rcases h' with ⟨d1, s', b1, b2⟩ | ⟨d1, s', b1, b2⟩ | ⟨d1, s', b1, b2⟩
    · rw [a2, b2]; exact (fm_c (D := D) _ (FmS_u a1 b1)).1
    · omega
    · omega
    · omega
    · rw [a2, b2]; exact (fm_c (D := D) _ (FmS_u a1 b1)).2.1
    · omega
    · omega
    · omega
    · rw [a2, b2]; exact (fm_c (D := D) _ (FmS_u a1 b1)).2.2
  · exact absurd ⟨p, by rcases h with ⟨c1, -⟩ | ⟨c1, -⟩ | ⟨c1, -⟩ <;> omega⟩ p'
  · exact absurd ⟨p', by rcases h' with ⟨c1, -⟩ | ⟨c1, -⟩ | ⟨c1, -⟩ <;> omega⟩ p
  · rw [h, h']

theorem dG0_familyOf_0 : decode cX0_familyOf 0 = .ok (.iconst 0, 1) := by decide +kernel
theorem dG0_familyOf_1 : decode cX0_familyOf 1 = .ok (.istore_n 2, 1) := by decide +kernel
theorem dG0_familyOf_2 : decode cX0_familyOf 2 = .ok (.iconst 0, 1) := by decide +kernel
theorem dG0_familyOf_3 : decode cX0_familyOf 3 = .ok (.istore_n 3, 1) := by decide +kernel
theorem dG0_familyOf_4 : decode cX0_familyOf 4 = .ok (.iload_n 3, 1) := by decide +kernel
theorem dG0_familyOf_5 : decode cX0_familyOf 5 = .ok (.aload_n 0, 1) := by decide +kernel
theorem dG0_familyOf_6 : decode cX0_familyOf 6 = .ok (.getfield 51, 3) := by decide +kernel
theorem dG0_familyOf_9 : decode cX0_familyOf 9 = .ok (.if_icmp .ge 25, 3) := by decide +kernel
theorem dG0_familyOf_12 : decode cX0_familyOf 12 = .ok (.aload_n 0, 1) := by decide +kernel
theorem dG0_familyOf_13 : decode cX0_familyOf 13 = .ok (.iload_n 3, 1) := by decide +kernel
theorem dG0_familyOf_14 : decode cX0_familyOf 14 = .ok (.iload_n 1, 1) := by decide +kernel
theorem dG0_familyOf_15 : decode cX0_familyOf 15 = .ok (.invokevirtual 96, 3) := by decide +kernel
theorem dG0_familyOf_18 : decode cX0_familyOf 18 = .ok (.iconst (-1), 1) := by decide +kernel
theorem dG0_familyOf_19 : decode cX0_familyOf 19 = .ok (.if_icmp .eq 9, 3) := by decide +kernel
theorem dG0_familyOf_22 : decode cX0_familyOf 22 = .ok (.iload_n 2, 1) := by decide +kernel
theorem dG0_familyOf_23 : decode cX0_familyOf 23 = .ok (.iconst 1, 1) := by decide +kernel
theorem dG0_familyOf_24 : decode cX0_familyOf 24 = .ok (.iload_n 3, 1) := by decide +kernel
theorem dG0_familyOf_25 : decode cX0_familyOf 25 = .ok (.ishl, 1) := by decide +kernel
theorem dG0_familyOf_26 : decode cX0_familyOf 26 = .ok (.ior, 1) := by decide +kernel
theorem dG0_familyOf_27 : decode cX0_familyOf 27 = .ok (.istore_n 2, 1) := by decide +kernel
theorem dG0_familyOf_28 : decode cX0_familyOf 28 = .ok (.iinc 3 1, 3) := by decide +kernel
theorem dG0_familyOf_31 : decode cX0_familyOf 31 = .ok (.goto (-27), 3) := by decide +kernel
theorem dG0_familyOf_34 : decode cX0_familyOf 34 = .ok (.iload_n 2, 1) := by decide +kernel
theorem dG0_familyOf_35 : decode cX0_familyOf 35 = .ok (.ireturn, 1) := by decide +kernel
def is_G0_familyOf : Nat → List Nat := fun d => if d = 4 then [0, 1, 2, 3] else []
set_option maxRecDepth 100000 in
def b_G0_familyOf_28 (J : Nat → List qV → List qV → qW → Prop) (Q : qR) : qK := x_iinc 3 1 (x_cut [0, 1, 2, 3] (J 4))
set_option maxRecDepth 100000 in
theorem s_G0_familyOf_28 {p : Program} {l : Launch} {e : Env} {R : Room} {s : State} {m : MethodId} {args : Array Value} {below : List Frame} {meth : Method} {c : Code} {nW : Nat} {dC : Nat → ClassId} {dI : Nat → Nat → Nat} {k : Nat → ClassId} {g : Nat → Nat} {A : Nat → Prop} {J : Nat → List qV → List qV → qW → Prop} {Q : qR} (X : q_X p R s m args meth c cX0_familyOf 4 nW 2 45 RX0 (some .int) dC dI k g A) (hJ : ∀ d : Nat, q_Sd p l e R s m args below meth c 4 nW dC dI k g A (MQ below (q_post (dC, dI) k g nW Q A) args s 0 0 A) d (x_cut (is_G0_familyOf d) (J d))) : q_Sd p l e R s m args below meth c 4 nW dC dI k g A (MQ below (q_post (dC, dI) k g nW Q A) args s 0 0 A) 28 (b_G0_familyOf_28 J Q) := by
  unfold b_G0_familyOf_28
  refine s_iinc X (by decide) dG0_familyOf_28 ?_
  refine s_goto X (tgt := 4) dG0_familyOf_31 (by decide) ?_
  exact hJ 4
set_option maxRecDepth 100000 in
def b_G0_familyOf_4 (J : Nat → List qV → List qV → qW → Prop) (Q : qR) : qK := x_iload 3 (x_aload 0 (x_get 0 7 (x_icmp_ge (x_iload 2 (x_iret Q)) (x_aload 0 (x_iload 3 (x_iload 1 (x_callr (some 0) 3 spr_G0_stepsUp (x_int (-1) (x_icmp_eq (b_G0_familyOf_28 J Q) (x_iload 2 (x_int 1 (x_iload 3 (x_ishl (x_ior (x_istore 2 (b_G0_familyOf_28 J Q))))))))))))))))
set_option maxRecDepth 100000 in
theorem s_G0_familyOf_4 {p : Program} {l : Launch} {e : Env} {R : Room} {s : State} {m : MethodId} {args : Array Value} {below : List Frame} {meth : Method} {c : Code} {nW : Nat} {dC : Nat → ClassId} {dI : Nat → Nat → Nat} {k : Nat → ClassId} {g : Nat → Nat} {A : Nat → Prop} {J : Nat → List qV → List qV → qW → Prop} {Q : qR} (X : q_X p R s m args meth c cX0_familyOf 4 nW 2 45 RX0 (some .int) dC dI k g A) (hJ : ∀ d : Nat, q_Sd p l e R s m args below meth c 4 nW dC dI k g A (MQ below (q_post (dC, dI) k g nW Q A) args s 0 0 A) d (x_cut (is_G0_familyOf d) (J d))) : q_Sd p l e R s m args below meth c 4 nW dC dI k g A (MQ below (q_post (dC, dI) k g nW Q A) args s 0 0 A) 4 (b_G0_familyOf_4 J Q) := by
  unfold b_G0_familyOf_4
  refine s_iload_n X rfl dG0_familyOf_4 ?_
  refine s_aload_n X rfl dG0_familyOf_5 ?_
  refine s_get X (T := TX0) (C := RX0) (N := 12) tu_X0 rfl (by decide) tw_193 dG0_familyOf_6 ?_
  refine s_icmp_ge X (tgt := 34) dG0_familyOf_9 (by decide) ?_ ?_
  · refine s_iload_n X rfl dG0_familyOf_34 ?_
    exact s_iret X dG0_familyOf_35
  · refine s_aload_n X rfl dG0_familyOf_12 ?_
    refine s_iload_n X rfl dG0_familyOf_13 ?_
    refine s_iload_n X rfl dG0_familyOf_14 ?_
    refine s_callVr X (m_G0_stepsUp l) tw_756 tw_757 tw_1487 tw_122 tw_758 rfl (by decide +kernel) ⟨by decide, by decide⟩ dG0_familyOf_15 ?_
    refine s_iconst X ⟨by decide, by decide⟩ dG0_familyOf_18 ?_
    refine s_icmp_eq X (tgt := 28) dG0_familyOf_19 (by decide) ?_ ?_
    · exact s_G0_familyOf_28 X hJ
    · refine s_iload_n X rfl dG0_familyOf_22 ?_
      refine s_iconst X ⟨by decide, by decide⟩ dG0_familyOf_23 ?_
      refine s_iload_n X rfl dG0_familyOf_24 ?_
      refine s_ishl X dG0_familyOf_25 ?_
      refine s_ior X dG0_familyOf_26 ?_
      refine s_istore_n X rfl (by decide) dG0_familyOf_27 ?_
      exact s_G0_familyOf_28 X hJ
set_option maxRecDepth 100000 in
def b_G0_familyOf_0 (J : Nat → List qV → List qV → qW → Prop) (Q : qR) : qK := x_int 0 (x_istore 2 (x_int 0 (x_istore 3 (x_cut [0, 1, 2, 3] (J 4)))))
set_option maxRecDepth 100000 in
theorem s_G0_familyOf_0 {p : Program} {l : Launch} {e : Env} {R : Room} {s : State} {m : MethodId} {args : Array Value} {below : List Frame} {meth : Method} {c : Code} {nW : Nat} {dC : Nat → ClassId} {dI : Nat → Nat → Nat} {k : Nat → ClassId} {g : Nat → Nat} {A : Nat → Prop} {J : Nat → List qV → List qV → qW → Prop} {Q : qR} (X : q_X p R s m args meth c cX0_familyOf 4 nW 2 45 RX0 (some .int) dC dI k g A) (hJ : ∀ d : Nat, q_Sd p l e R s m args below meth c 4 nW dC dI k g A (MQ below (q_post (dC, dI) k g nW Q A) args s 0 0 A) d (x_cut (is_G0_familyOf d) (J d))) : q_Sd p l e R s m args below meth c 4 nW dC dI k g A (MQ below (q_post (dC, dI) k g nW Q A) args s 0 0 A) 0 (b_G0_familyOf_0 J Q) := by
  unfold b_G0_familyOf_0
  refine s_iconst X ⟨by decide, by decide⟩ dG0_familyOf_0 ?_
  refine s_istore_n X rfl (by decide) dG0_familyOf_1 ?_
  refine s_iconst X ⟨by decide, by decide⟩ dG0_familyOf_2 ?_
  refine s_istore_n X rfl (by decide) dG0_familyOf_3 ?_
  exact hJ 4

def spr_G0_familyOf : List qV → qW → (Option qV → Prop) → Prop := fun av w Q => ∃ (f1 : Nat → Int) (f2 : Nat → Int) (f3 : Nat → Int) (f4 : Nat → Int) (f5 : Nat → Int) (f6 : Nat → Int) (f7 : Nat → Int) (u0 : Int) (u1 : Int) (u2 : Int) (u3 : Int) (u4 : Int) (D : Nat → Int) (a : Int), av = [q2 0, q1 a] ∧ w = wB f1 f2 f3 f4 f5 f6 f7 u0 u1 u2 u3 u4 ∧ (0 ≤ u0 ∧ u0 ≤ 8) ∧ (CBK f1 f2 f3 f4 f5 f6 f7 u0 u1 u2 u3 u4 D) ∧ (0 ≤ a ∧ a < u0) ∧ (∀ (r : Int) , FmB D a u0 r → Q (some (q1 r)))
def sp_G0_familyOf : qS := fun av w Q => spr_G0_familyOf av w (fun r => Q r w)
def I_G0_familyOf (f1 : Nat → Int) (f2 : Nat → Int) (f3 : Nat → Int) (f4 : Nat → Int) (f5 : Nat → Int) (f6 : Nat → Int) (f7 : Nat → Int) (u0 : Int) (u1 : Int) (u2 : Int) (u3 : Int) (u4 : Int) (D : Nat → Int) (a : Int) : Nat → Nat → List qV → List qV → qW → Prop := fun dz mz vz sz wz => if dz = 4 then (∃ (v2 : Int) (v3 : Int), vz = [q2 0, q1 a, q1 v2, q1 v3] ∧ sz = [] ∧ wz = wB f1 f2 f3 f4 f5 f6 f7 u0 u1 u2 u3 u4 ∧ mz = (u0 - v3).toNat ∧ (0 ≤ v3 ∧ v3 ≤ u0) ∧ (FmB D a v3 v2)) else False
set_option maxHeartbeats 4000000 in
set_option maxRecDepth 100000 in
theorem m_G0_familyOf (l : Launch) : q_M l yX0_familyOf cX0_familyOf 4 (some .int) 2 45 sp_G0_familyOf := by
  refine q_meth (by decide) (fun av w Q h => by obtain ⟨f1, f2, f3, f4, f5, f6, f7, u0, u1, u2, u3, u4, D, a, rfl, rfl, hu0, hD, ha, hQ⟩ := h; exact Nat.le_of_ble_eq_true rfl) ?_
  intro p e R s m args below meth c dC dI k g A av w Q hsp oka okw X
  obtain ⟨f1, f2, f3, f4, f5, f6, f7, u0, u1, u2, u3, u4, D, a, rfl, rfl, hu0, hD, ha, hQ⟩ := hsp
  have o_a : -2147483648 ≤ a ∧ a ≤ 2147483647 := oka _ (List.mem_of_getElem? (i := 1) rfl)
  refine s_mono (s_G0_familyOf_0 X (J := fun dz vz sz wz => ∃ mz, I_G0_familyOf f1 f2 f3 f4 f5 f6 f7 u0 u1 u2 u3 u4 D a dz mz vz sz wz) (q_loopn (I_G0_familyOf f1 f2 f3 f4 f5 f6 f7 u0 u1 u2 u3 u4 D a) (fun dz J => if dz = 4 then b_G0_familyOf_4 J Q else q_F) ?hs ?hv)) ?_
  case hs =>
    intro d J hJ
    by_cases h4 : d = 4
    · subst h4; exact s_G0_familyOf_4 X hJ
    simp only [h4, if_false]
    exact s_F
  case hv =>
    intro dz mz vz sz wz hI okv oks okw hlen
    by_cases h4 : dz = 4
    · subst h4
      obtain ⟨v2, v3, rfl, rfl, rfl, hn, hp, hs9⟩ := hI
      have hu := cb_u0 hD
      apply And.intro
      · intro h9
        exact hQ _ (by rw [show u0 = v3 by omega]; exact hs9)
      · intro h9
        refine Exists.intro [0, 1, 2, 3, 4, 5, 6, 7] (Exists.intro [q2 0, q1 _, q1 _] (Exists.intro (wB _ _ _ _ _ _ _ _ _ _ _ _) (And.intro rfl (And.intro rfl (And.intro rfl (And.intro ⟨⟨_, rfl⟩, rfl⟩ ?_))))))
        refine Exists.intro _ (Exists.intro _ (Exists.intro _ (Exists.intro _ (Exists.intro _ (Exists.intro _ (Exists.intro _ (Exists.intro _ (Exists.intro _ (Exists.intro _ (Exists.intro _ (Exists.intro _ (Exists.intro _ (Exists.intro _ (And.intro rfl (And.intro rfl (And.intro (by first | omega | assumption | exact q_rg_up (by assumption) (by omega) | exact q_rg_up (q_rg_up (by assumption) (by omega)) (by omega) | exact q_rg_cpy (by assumption) (by assumption)) (?_)))))))))))))))))
        intro z15 h15
        have q15 := cb_sc hD h15 (by omega) (by omega)
        apply And.intro
        · intro h19
          intro z28 h28
          first | replace h28 := e_add h28 (by omega) | replace h28 := e_rng h28
          exact ⟨_, ⟨_, _, rfl, rfl, rfl, rfl, (by first | omega | assumption | exact q_rg_up (by assumption) (by omega) | exact q_rg_up (q_rg_up (by assumption) (by omega)) (by omega) | exact q_rg_cpy (by assumption) (by assumption)), (by first | exact FmB_0 | exact FmB_s hs9 (by omega) q15 (by omega) (Or.inr ⟨by omega, q26⟩) | exact FmB_s hs9 (by omega) q15 (by omega) (Or.inl ⟨by omega, rfl⟩))⟩, by omega⟩
        · intro h19
          intro z25 h25
          skip
          intro z26 h26
          have q26 := e_orJ h26 h25
          intro z28 h28
          first | replace h28 := e_add h28 (by omega) | replace h28 := e_rng h28
          exact ⟨_, ⟨_, _, rfl, rfl, rfl, rfl, (by first | omega | assumption | exact q_rg_up (by assumption) (by omega) | exact q_rg_up (q_rg_up (by assumption) (by omega)) (by omega) | exact q_rg_cpy (by assumption) (by assumption)), (by first | exact FmB_0 | exact FmB_s hs9 (by omega) q15 (by omega) (Or.inr ⟨by omega, q26⟩) | exact FmB_s hs9 (by omega) q15 (by omega) (Or.inl ⟨by omega, rfl⟩))⟩, by omega⟩
    simp only [I_G0_familyOf, h4, if_false] at hI
  rintro lv st w' ⟨rfl, rfl, rfl⟩
  exact ⟨_, _, _, rfl, rfl, rfl, rfl, (by first | omega | assumption | exact q_rg_up (by assumption) (by omega) | exact q_rg_up (q_rg_up (by assumption) (by omega)) (by omega) | exact q_rg_cpy (by assumption) (by assumption)), (by first | exact FmB_0 | exact FmB_s hs9 (by omega) q15 (by omega) (Or.inr ⟨by omega, q26⟩) | exact FmB_s hs9 (by omega) q15 (by omega) (Or.inl ⟨by omega, rfl⟩))⟩

theorem dG0_familyInches_0 : decode cX0_familyInches 0 = .ok (.iconst 0, 1) := by decide +kernel
theorem dG0_familyInches_1 : decode cX0_familyInches 1 = .ok (.istore_n 2, 1) := by decide +kernel
theorem dG0_familyInches_2 : decode cX0_familyInches 2 = .ok (.iconst 0, 1) := by decide +kernel
theorem dG0_familyInches_3 : decode cX0_familyInches 3 = .ok (.istore_n 3, 1) := by decide +kernel
theorem dG0_familyInches_4 : decode cX0_familyInches 4 = .ok (.iload_n 3, 1) := by decide +kernel
theorem dG0_familyInches_5 : decode cX0_familyInches 5 = .ok (.aload_n 0, 1) := by decide +kernel
theorem dG0_familyInches_6 : decode cX0_familyInches 6 = .ok (.getfield 51, 3) := by decide +kernel
theorem dG0_familyInches_9 : decode cX0_familyInches 9 = .ok (.if_icmp .ge 28, 3) := by decide +kernel
theorem dG0_familyInches_12 : decode cX0_familyInches 12 = .ok (.aload_n 0, 1) := by decide +kernel
theorem dG0_familyInches_13 : decode cX0_familyInches 13 = .ok (.iload_n 3, 1) := by decide +kernel
theorem dG0_familyInches_14 : decode cX0_familyInches 14 = .ok (.iload_n 1, 1) := by decide +kernel
theorem dG0_familyInches_15 : decode cX0_familyInches 15 = .ok (.invokevirtual 96, 3) := by decide +kernel
theorem dG0_familyInches_18 : decode cX0_familyInches 18 = .ok (.iconst (-1), 1) := by decide +kernel
theorem dG0_familyInches_19 : decode cX0_familyInches 19 = .ok (.if_icmp .eq 12, 3) := by decide +kernel
theorem dG0_familyInches_22 : decode cX0_familyInches 22 = .ok (.iload_n 2, 1) := by decide +kernel
theorem dG0_familyInches_23 : decode cX0_familyInches 23 = .ok (.aload_n 0, 1) := by decide +kernel
theorem dG0_familyInches_24 : decode cX0_familyInches 24 = .ok (.getfield 9, 3) := by decide +kernel
theorem dG0_familyInches_27 : decode cX0_familyInches 27 = .ok (.iload_n 3, 1) := by decide +kernel
theorem dG0_familyInches_28 : decode cX0_familyInches 28 = .ok (.iaload, 1) := by decide +kernel
theorem dG0_familyInches_29 : decode cX0_familyInches 29 = .ok (.iadd, 1) := by decide +kernel
theorem dG0_familyInches_30 : decode cX0_familyInches 30 = .ok (.istore_n 2, 1) := by decide +kernel
theorem dG0_familyInches_31 : decode cX0_familyInches 31 = .ok (.iinc 3 1, 3) := by decide +kernel
theorem dG0_familyInches_34 : decode cX0_familyInches 34 = .ok (.goto (-30), 3) := by decide +kernel
theorem dG0_familyInches_37 : decode cX0_familyInches 37 = .ok (.iload_n 2, 1) := by decide +kernel
theorem dG0_familyInches_38 : decode cX0_familyInches 38 = .ok (.ireturn, 1) := by decide +kernel
def is_G0_familyInches : Nat → List Nat := fun d => if d = 4 then [0, 1, 2, 3] else []
set_option maxRecDepth 100000 in
def b_G0_familyInches_31 (J : Nat → List qV → List qV → qW → Prop) (Q : qR) : qK := x_iinc 3 1 (x_cut [0, 1, 2, 3] (J 4))
set_option maxRecDepth 100000 in
theorem s_G0_familyInches_31 {p : Program} {l : Launch} {e : Env} {R : Room} {s : State} {m : MethodId} {args : Array Value} {below : List Frame} {meth : Method} {c : Code} {nW : Nat} {dC : Nat → ClassId} {dI : Nat → Nat → Nat} {k : Nat → ClassId} {g : Nat → Nat} {A : Nat → Prop} {J : Nat → List qV → List qV → qW → Prop} {Q : qR} (X : q_X p R s m args meth c cX0_familyInches 4 nW 2 45 RX0 (some .int) dC dI k g A) (hJ : ∀ d : Nat, q_Sd p l e R s m args below meth c 4 nW dC dI k g A (MQ below (q_post (dC, dI) k g nW Q A) args s 0 0 A) d (x_cut (is_G0_familyInches d) (J d))) : q_Sd p l e R s m args below meth c 4 nW dC dI k g A (MQ below (q_post (dC, dI) k g nW Q A) args s 0 0 A) 31 (b_G0_familyInches_31 J Q) := by
  unfold b_G0_familyInches_31
  refine s_iinc X (by decide) dG0_familyInches_31 ?_
  refine s_goto X (tgt := 4) dG0_familyInches_34 (by decide) ?_
  exact hJ 4
set_option maxRecDepth 100000 in
def b_G0_familyInches_4 (J : Nat → List qV → List qV → qW → Prop) (Q : qR) : qK := x_iload 3 (x_aload 0 (x_get 0 7 (x_icmp_ge (x_iload 2 (x_iret Q)) (x_aload 0 (x_iload 3 (x_iload 1 (x_callr (some 0) 3 spr_G0_stepsUp (x_int (-1) (x_icmp_eq (b_G0_familyInches_31 J Q) (x_iload 2 (x_aload 0 (x_get 0 0 (x_iload 3 (x_iald (x_iadd (x_istore 2 (b_G0_familyInches_31 J Q)))))))))))))))))
set_option maxRecDepth 100000 in
theorem s_G0_familyInches_4 {p : Program} {l : Launch} {e : Env} {R : Room} {s : State} {m : MethodId} {args : Array Value} {below : List Frame} {meth : Method} {c : Code} {nW : Nat} {dC : Nat → ClassId} {dI : Nat → Nat → Nat} {k : Nat → ClassId} {g : Nat → Nat} {A : Nat → Prop} {J : Nat → List qV → List qV → qW → Prop} {Q : qR} (X : q_X p R s m args meth c cX0_familyInches 4 nW 2 45 RX0 (some .int) dC dI k g A) (hJ : ∀ d : Nat, q_Sd p l e R s m args below meth c 4 nW dC dI k g A (MQ below (q_post (dC, dI) k g nW Q A) args s 0 0 A) d (x_cut (is_G0_familyInches d) (J d))) : q_Sd p l e R s m args below meth c 4 nW dC dI k g A (MQ below (q_post (dC, dI) k g nW Q A) args s 0 0 A) 4 (b_G0_familyInches_4 J Q) := by
  unfold b_G0_familyInches_4
  refine s_iload_n X rfl dG0_familyInches_4 ?_
  refine s_aload_n X rfl dG0_familyInches_5 ?_
  refine s_get X (T := TX0) (C := RX0) (N := 12) tu_X0 rfl (by decide) tw_193 dG0_familyInches_6 ?_
  refine s_icmp_ge X (tgt := 37) dG0_familyInches_9 (by decide) ?_ ?_
  · refine s_iload_n X rfl dG0_familyInches_37 ?_
    exact s_iret X dG0_familyInches_38
  · refine s_aload_n X rfl dG0_familyInches_12 ?_
    refine s_iload_n X rfl dG0_familyInches_13 ?_
    refine s_iload_n X rfl dG0_familyInches_14 ?_
    refine s_callVr X (m_G0_stepsUp l) tw_756 tw_757 tw_1487 tw_122 tw_758 rfl (by decide +kernel) ⟨by decide, by decide⟩ dG0_familyInches_15 ?_
    refine s_iconst X ⟨by decide, by decide⟩ dG0_familyInches_18 ?_
    refine s_icmp_eq X (tgt := 31) dG0_familyInches_19 (by decide) ?_ ?_
    · exact s_G0_familyInches_31 X hJ
    · refine s_iload_n X rfl dG0_familyInches_22 ?_
      refine s_aload_n X rfl dG0_familyInches_23 ?_
      refine s_get X (T := TX0) (C := RX0) (N := 12) tu_X0 rfl (by decide) tw_164 dG0_familyInches_24 ?_
      refine s_iload_n X rfl dG0_familyInches_27 ?_
      refine s_iald X dG0_familyInches_28 ?_
      refine s_iadd X dG0_familyInches_29 ?_
      refine s_istore_n X rfl (by decide) dG0_familyInches_30 ?_
      exact s_G0_familyInches_31 X hJ
set_option maxRecDepth 100000 in
def b_G0_familyInches_0 (J : Nat → List qV → List qV → qW → Prop) (Q : qR) : qK := x_int 0 (x_istore 2 (x_int 0 (x_istore 3 (x_cut [0, 1, 2, 3] (J 4)))))
set_option maxRecDepth 100000 in
theorem s_G0_familyInches_0 {p : Program} {l : Launch} {e : Env} {R : Room} {s : State} {m : MethodId} {args : Array Value} {below : List Frame} {meth : Method} {c : Code} {nW : Nat} {dC : Nat → ClassId} {dI : Nat → Nat → Nat} {k : Nat → ClassId} {g : Nat → Nat} {A : Nat → Prop} {J : Nat → List qV → List qV → qW → Prop} {Q : qR} (X : q_X p R s m args meth c cX0_familyInches 4 nW 2 45 RX0 (some .int) dC dI k g A) (hJ : ∀ d : Nat, q_Sd p l e R s m args below meth c 4 nW dC dI k g A (MQ below (q_post (dC, dI) k g nW Q A) args s 0 0 A) d (x_cut (is_G0_familyInches d) (J d))) : q_Sd p l e R s m args below meth c 4 nW dC dI k g A (MQ below (q_post (dC, dI) k g nW Q A) args s 0 0 A) 0 (b_G0_familyInches_0 J Q) := by
  unfold b_G0_familyInches_0
  refine s_iconst X ⟨by decide, by decide⟩ dG0_familyInches_0 ?_
  refine s_istore_n X rfl (by decide) dG0_familyInches_1 ?_
  refine s_iconst X ⟨by decide, by decide⟩ dG0_familyInches_2 ?_
  refine s_istore_n X rfl (by decide) dG0_familyInches_3 ?_
  exact hJ 4

def spr_G0_familyInches : List qV → qW → (Option qV → Prop) → Prop := fun av w Q => ∃ (f1 : Nat → Int) (f2 : Nat → Int) (f3 : Nat → Int) (f4 : Nat → Int) (f5 : Nat → Int) (f6 : Nat → Int) (f7 : Nat → Int) (u0 : Int) (u1 : Int) (u2 : Int) (u3 : Int) (u4 : Int) (D : Nat → Int) (a : Int), av = [q2 0, q1 a] ∧ w = wB f1 f2 f3 f4 f5 f6 f7 u0 u1 u2 u3 u4 ∧ (0 ≤ u0 ∧ u0 ≤ 8) ∧ (CBK f1 f2 f3 f4 f5 f6 f7 u0 u1 u2 u3 u4 D) ∧ (0 ≤ a ∧ a < u0) ∧ (∀ (r : Int) , FmI D a u0 r → Q (some (q1 r)))
def sp_G0_familyInches : qS := fun av w Q => spr_G0_familyInches av w (fun r => Q r w)
def I_G0_familyInches (f1 : Nat → Int) (f2 : Nat → Int) (f3 : Nat → Int) (f4 : Nat → Int) (f5 : Nat → Int) (f6 : Nat → Int) (f7 : Nat → Int) (u0 : Int) (u1 : Int) (u2 : Int) (u3 : Int) (u4 : Int) (D : Nat → Int) (a : Int) : Nat → Nat → List qV → List qV → qW → Prop := fun dz mz vz sz wz => if dz = 4 then (∃ (v2 : Int) (v3 : Int), vz = [q2 0, q1 a, q1 v2, q1 v3] ∧ sz = [] ∧ wz = wB f1 f2 f3 f4 f5 f6 f7 u0 u1 u2 u3 u4 ∧ mz = (u0 - v3).toNat ∧ (0 ≤ v3 ∧ v3 ≤ u0) ∧ (0 ≤ v2 ∧ v2 ≤ 99 * v3) ∧ (FmI D a v3 v2)) else False
set_option maxHeartbeats 4000000 in
set_option maxRecDepth 100000 in
theorem m_G0_familyInches (l : Launch) : q_M l yX0_familyInches cX0_familyInches 4 (some .int) 2 45 sp_G0_familyInches := by
  refine q_meth (by decide) (fun av w Q h => by obtain ⟨f1, f2, f3, f4, f5, f6, f7, u0, u1, u2, u3, u4, D, a, rfl, rfl, hu0, hD, ha, hQ⟩ := h; exact Nat.le_of_ble_eq_true rfl) ?_
  intro p e R s m args below meth c dC dI k g A av w Q hsp oka okw X
  obtain ⟨f1, f2, f3, f4, f5, f6, f7, u0, u1, u2, u3, u4, D, a, rfl, rfl, hu0, hD, ha, hQ⟩ := hsp
  have o_a : -2147483648 ≤ a ∧ a ≤ 2147483647 := oka _ (List.mem_of_getElem? (i := 1) rfl)
  refine s_mono (s_G0_familyInches_0 X (J := fun dz vz sz wz => ∃ mz, I_G0_familyInches f1 f2 f3 f4 f5 f6 f7 u0 u1 u2 u3 u4 D a dz mz vz sz wz) (q_loopn (I_G0_familyInches f1 f2 f3 f4 f5 f6 f7 u0 u1 u2 u3 u4 D a) (fun dz J => if dz = 4 then b_G0_familyInches_4 J Q else q_F) ?hs ?hv)) ?_
  case hs =>
    intro d J hJ
    by_cases h4 : d = 4
    · subst h4; exact s_G0_familyInches_4 X hJ
    simp only [h4, if_false]
    exact s_F
  case hv =>
    intro dz mz vz sz wz hI okv oks okw hlen
    by_cases h4 : dz = 4
    · subst h4
      obtain ⟨v2, v3, rfl, rfl, rfl, hn, hp, hv, hs9⟩ := hI
      have hu := cb_u0 hD
      apply And.intro
      · intro h9
        exact hQ _ (by rw [show u0 = v3 by omega]; exact hs9)
      · intro h9
        refine Exists.intro [0, 1, 2, 3, 4, 5, 6, 7] (Exists.intro [q2 0, q1 _, q1 _] (Exists.intro (wB _ _ _ _ _ _ _ _ _ _ _ _) (And.intro rfl (And.intro rfl (And.intro rfl (And.intro ⟨⟨_, rfl⟩, rfl⟩ ?_))))))
        refine Exists.intro _ (Exists.intro _ (Exists.intro _ (Exists.intro _ (Exists.intro _ (Exists.intro _ (Exists.intro _ (Exists.intro _ (Exists.intro _ (Exists.intro _ (Exists.intro _ (Exists.intro _ (Exists.intro _ (Exists.intro _ (And.intro rfl (And.intro rfl (And.intro (by first | omega | assumption | exact q_rg_up (by assumption) (by omega) | exact q_rg_up (q_rg_up (by assumption) (by omega)) (by omega) | exact q_rg_cpy (by assumption) (by assumption)) (?_)))))))))))))))))
        intro z15 h15
        have q15 := cb_sc hD h15 (by omega) (by omega)
        apply And.intro
        · intro h19
          intro z31 h31
          first | replace h31 := e_add h31 (by omega) | replace h31 := e_rng h31
          exact ⟨_, ⟨_, _, rfl, rfl, rfl, rfl, (by first | omega | assumption | exact q_rg_up (by assumption) (by omega) | exact q_rg_up (q_rg_up (by assumption) (by omega)) (by omega) | exact q_rg_cpy (by assumption) (by assumption)), (by first | omega | assumption | exact q_rg_up (by assumption) (by omega) | exact q_rg_up (q_rg_up (by assumption) (by omega)) (by omega) | exact q_rg_cpy (by assumption) (by assumption)), (by first | exact FmI_0 | exact FmI_s hs9 (by omega) q15 (by omega) (Or.inl i28) (Or.inr ⟨by omega, by omega⟩) | exact FmI_s (i := 0) hs9 (by omega) q15 (by omega) (Or.inr (by omega)) (Or.inl ⟨by omega, rfl⟩))⟩, by omega⟩
        · intro h19
          apply And.intro
          · exact ⟨by omega, by omega⟩
          intro z28 h28
          obtain ⟨i28, j28⟩ := cb_i hD h28 (by omega)
          intro z29 h29
          first | replace h29 := e_add h29 (by omega) | replace h29 := e_rng h29
          intro z31 h31
          first | replace h31 := e_add h31 (by omega) | replace h31 := e_rng h31
          exact ⟨_, ⟨_, _, rfl, rfl, rfl, rfl, (by first | omega | assumption | exact q_rg_up (by assumption) (by omega) | exact q_rg_up (q_rg_up (by assumption) (by omega)) (by omega) | exact q_rg_cpy (by assumption) (by assumption)), (by first | omega | assumption | exact q_rg_up (by assumption) (by omega) | exact q_rg_up (q_rg_up (by assumption) (by omega)) (by omega) | exact q_rg_cpy (by assumption) (by assumption)), (by first | exact FmI_0 | exact FmI_s hs9 (by omega) q15 (by omega) (Or.inl i28) (Or.inr ⟨by omega, by omega⟩) | exact FmI_s (i := 0) hs9 (by omega) q15 (by omega) (Or.inr (by omega)) (Or.inl ⟨by omega, rfl⟩))⟩, by omega⟩
    simp only [I_G0_familyInches, h4, if_false] at hI
  rintro lv st w' ⟨rfl, rfl, rfl⟩
  exact ⟨_, _, _, rfl, rfl, rfl, rfl, (by first | omega | assumption | exact q_rg_up (by assumption) (by omega) | exact q_rg_up (q_rg_up (by assumption) (by omega)) (by omega) | exact q_rg_cpy (by assumption) (by assumption)), (by first | omega | assumption | exact q_rg_up (by assumption) (by omega) | exact q_rg_up (q_rg_up (by assumption) (by omega)) (by omega) | exact q_rg_cpy (by assumption) (by assumption)), (by first | exact FmI_0 | exact FmI_s hs9 (by omega) q15 (by omega) (Or.inl i28) (Or.inr ⟨by omega, by omega⟩) | exact FmI_s (i := 0) hs9 (by omega) q15 (by omega) (Or.inr (by omega)) (Or.inl ⟨by omega, rfl⟩))⟩

theorem dG0_familySteps_0 : decode cX0_familySteps 0 = .ok (.iconst 0, 1) := by decide +kernel
theorem dG0_familySteps_1 : decode cX0_familySteps 1 = .ok (.istore_n 2, 1) := by decide +kernel
theorem dG0_familySteps_2 : decode cX0_familySteps 2 = .ok (.iconst 0, 1) := by decide +kernel
theorem dG0_familySteps_3 : decode cX0_familySteps 3 = .ok (.istore_n 3, 1) := by decide +kernel
theorem dG0_familySteps_4 : decode cX0_familySteps 4 = .ok (.iload_n 3, 1) := by decide +kernel
theorem dG0_familySteps_5 : decode cX0_familySteps 5 = .ok (.aload_n 0, 1) := by decide +kernel
theorem dG0_familySteps_6 : decode cX0_familySteps 6 = .ok (.getfield 51, 3) := by decide +kernel
theorem dG0_familySteps_9 : decode cX0_familySteps 9 = .ok (.if_icmp .ge 20, 3) := by decide +kernel
theorem dG0_familySteps_12 : decode cX0_familySteps 12 = .ok (.iload_n 2, 1) := by decide +kernel
theorem dG0_familySteps_13 : decode cX0_familySteps 13 = .ok (.aload_n 0, 1) := by decide +kernel
theorem dG0_familySteps_14 : decode cX0_familySteps 14 = .ok (.iload_n 3, 1) := by decide +kernel
theorem dG0_familySteps_15 : decode cX0_familySteps 15 = .ok (.iload_n 1, 1) := by decide +kernel
theorem dG0_familySteps_16 : decode cX0_familySteps 16 = .ok (.invokevirtual 96, 3) := by decide +kernel
theorem dG0_familySteps_19 : decode cX0_familySteps 19 = .ok (.invokestatic 99, 3) := by decide +kernel
theorem dG0_familySteps_22 : decode cX0_familySteps 22 = .ok (.istore_n 2, 1) := by decide +kernel
theorem dG0_familySteps_23 : decode cX0_familySteps 23 = .ok (.iinc 3 1, 3) := by decide +kernel
theorem dG0_familySteps_26 : decode cX0_familySteps 26 = .ok (.goto (-22), 3) := by decide +kernel
theorem dG0_familySteps_29 : decode cX0_familySteps 29 = .ok (.iload_n 2, 1) := by decide +kernel
theorem dG0_familySteps_30 : decode cX0_familySteps 30 = .ok (.ireturn, 1) := by decide +kernel
def is_G0_familySteps : Nat → List Nat := fun d => if d = 4 then [0, 1, 2, 3] else []
set_option maxRecDepth 100000 in
def b_G0_familySteps_4 (J : Nat → List qV → List qV → qW → Prop) (Q : qR) : qK := x_iload 3 (x_aload 0 (x_get 0 7 (x_icmp_ge (x_iload 2 (x_iret Q)) (x_iload 2 (x_aload 0 (x_iload 3 (x_iload 1 (x_callr (some 0) 3 spr_G0_stepsUp (x_max (x_istore 2 (x_iinc 3 1 (x_cut [0, 1, 2, 3] (J 4)))))))))))))
set_option maxRecDepth 100000 in
theorem s_G0_familySteps_4 {p : Program} {l : Launch} {e : Env} {R : Room} {s : State} {m : MethodId} {args : Array Value} {below : List Frame} {meth : Method} {c : Code} {nW : Nat} {dC : Nat → ClassId} {dI : Nat → Nat → Nat} {k : Nat → ClassId} {g : Nat → Nat} {A : Nat → Prop} {J : Nat → List qV → List qV → qW → Prop} {Q : qR} (X : q_X p R s m args meth c cX0_familySteps 4 nW 2 45 RX0 (some .int) dC dI k g A) (hJ : ∀ d : Nat, q_Sd p l e R s m args below meth c 4 nW dC dI k g A (MQ below (q_post (dC, dI) k g nW Q A) args s 0 0 A) d (x_cut (is_G0_familySteps d) (J d))) : q_Sd p l e R s m args below meth c 4 nW dC dI k g A (MQ below (q_post (dC, dI) k g nW Q A) args s 0 0 A) 4 (b_G0_familySteps_4 J Q) := by
  unfold b_G0_familySteps_4
  refine s_iload_n X rfl dG0_familySteps_4 ?_
  refine s_aload_n X rfl dG0_familySteps_5 ?_
  refine s_get X (T := TX0) (C := RX0) (N := 12) tu_X0 rfl (by decide) tw_193 dG0_familySteps_6 ?_
  refine s_icmp_ge X (tgt := 29) dG0_familySteps_9 (by decide) ?_ ?_
  · refine s_iload_n X rfl dG0_familySteps_29 ?_
    exact s_iret X dG0_familySteps_30
  · refine s_iload_n X rfl dG0_familySteps_12 ?_
    refine s_aload_n X rfl dG0_familySteps_13 ?_
    refine s_iload_n X rfl dG0_familySteps_14 ?_
    refine s_iload_n X rfl dG0_familySteps_15 ?_
    refine s_callVr X (m_G0_stepsUp l) tw_756 tw_757 tw_1487 tw_122 tw_758 rfl (by decide +kernel) ⟨by decide, by decide⟩ dG0_familySteps_16 ?_
    refine s_max X tw_902 tw_531 tw_135 tw_532 ⟨by decide, by decide⟩ dG0_familySteps_19 ?_
    refine s_istore_n X rfl (by decide) dG0_familySteps_22 ?_
    refine s_iinc X (by decide) dG0_familySteps_23 ?_
    refine s_goto X (tgt := 4) dG0_familySteps_26 (by decide) ?_
    exact hJ 4
set_option maxRecDepth 100000 in
def b_G0_familySteps_0 (J : Nat → List qV → List qV → qW → Prop) (Q : qR) : qK := x_int 0 (x_istore 2 (x_int 0 (x_istore 3 (x_cut [0, 1, 2, 3] (J 4)))))
set_option maxRecDepth 100000 in
theorem s_G0_familySteps_0 {p : Program} {l : Launch} {e : Env} {R : Room} {s : State} {m : MethodId} {args : Array Value} {below : List Frame} {meth : Method} {c : Code} {nW : Nat} {dC : Nat → ClassId} {dI : Nat → Nat → Nat} {k : Nat → ClassId} {g : Nat → Nat} {A : Nat → Prop} {J : Nat → List qV → List qV → qW → Prop} {Q : qR} (X : q_X p R s m args meth c cX0_familySteps 4 nW 2 45 RX0 (some .int) dC dI k g A) (hJ : ∀ d : Nat, q_Sd p l e R s m args below meth c 4 nW dC dI k g A (MQ below (q_post (dC, dI) k g nW Q A) args s 0 0 A) d (x_cut (is_G0_familySteps d) (J d))) : q_Sd p l e R s m args below meth c 4 nW dC dI k g A (MQ below (q_post (dC, dI) k g nW Q A) args s 0 0 A) 0 (b_G0_familySteps_0 J Q) := by
  unfold b_G0_familySteps_0
  refine s_iconst X ⟨by decide, by decide⟩ dG0_familySteps_0 ?_
  refine s_istore_n X rfl (by decide) dG0_familySteps_1 ?_
  refine s_iconst X ⟨by decide, by decide⟩ dG0_familySteps_2 ?_
  refine s_istore_n X rfl (by decide) dG0_familySteps_3 ?_
  exact hJ 4

def spr_G0_familySteps : List qV → qW → (Option qV → Prop) → Prop := fun av w Q => ∃ (f1 : Nat → Int) (f2 : Nat → Int) (f3 : Nat → Int) (f4 : Nat → Int) (f5 : Nat → Int) (f6 : Nat → Int) (f7 : Nat → Int) (u0 : Int) (u1 : Int) (u2 : Int) (u3 : Int) (u4 : Int) (D : Nat → Int) (a : Int), av = [q2 0, q1 a] ∧ w = wB f1 f2 f3 f4 f5 f6 f7 u0 u1 u2 u3 u4 ∧ (0 ≤ u0 ∧ u0 ≤ 8) ∧ (CBK f1 f2 f3 f4 f5 f6 f7 u0 u1 u2 u3 u4 D) ∧ (0 ≤ a ∧ a < u0) ∧ (∀ (r : Int) , FmX D a u0 r → Q (some (q1 r)))
def sp_G0_familySteps : qS := fun av w Q => spr_G0_familySteps av w (fun r => Q r w)
def I_G0_familySteps (f1 : Nat → Int) (f2 : Nat → Int) (f3 : Nat → Int) (f4 : Nat → Int) (f5 : Nat → Int) (f6 : Nat → Int) (f7 : Nat → Int) (u0 : Int) (u1 : Int) (u2 : Int) (u3 : Int) (u4 : Int) (D : Nat → Int) (a : Int) : Nat → Nat → List qV → List qV → qW → Prop := fun dz mz vz sz wz => if dz = 4 then (∃ (v2 : Int) (v3 : Int), vz = [q2 0, q1 a, q1 v2, q1 v3] ∧ sz = [] ∧ wz = wB f1 f2 f3 f4 f5 f6 f7 u0 u1 u2 u3 u4 ∧ mz = (u0 - v3).toNat ∧ (0 ≤ v3 ∧ v3 ≤ u0) ∧ (FmX D a v3 v2)) else False
set_option maxHeartbeats 4000000 in
set_option maxRecDepth 100000 in
theorem m_G0_familySteps (l : Launch) : q_M l yX0_familySteps cX0_familySteps 4 (some .int) 2 45 sp_G0_familySteps := by
  refine q_meth (by decide) (fun av w Q h => by obtain ⟨f1, f2, f3, f4, f5, f6, f7, u0, u1, u2, u3, u4, D, a, rfl, rfl, hu0, hD, ha, hQ⟩ := h; exact Nat.le_of_ble_eq_true rfl) ?_
  intro p e R s m args below meth c dC dI k g A av w Q hsp oka okw X
  obtain ⟨f1, f2, f3, f4, f5, f6, f7, u0, u1, u2, u3, u4, D, a, rfl, rfl, hu0, hD, ha, hQ⟩ := hsp
  have o_a : -2147483648 ≤ a ∧ a ≤ 2147483647 := oka _ (List.mem_of_getElem? (i := 1) rfl)
  refine s_mono (s_G0_familySteps_0 X (J := fun dz vz sz wz => ∃ mz, I_G0_familySteps f1 f2 f3 f4 f5 f6 f7 u0 u1 u2 u3 u4 D a dz mz vz sz wz) (q_loopn (I_G0_familySteps f1 f2 f3 f4 f5 f6 f7 u0 u1 u2 u3 u4 D a) (fun dz J => if dz = 4 then b_G0_familySteps_4 J Q else q_F) ?hs ?hv)) ?_
  case hs =>
    intro d J hJ
    by_cases h4 : d = 4
    · subst h4; exact s_G0_familySteps_4 X hJ
    simp only [h4, if_false]
    exact s_F
  case hv =>
    intro dz mz vz sz wz hI okv oks okw hlen
    by_cases h4 : dz = 4
    · subst h4
      obtain ⟨v2, v3, rfl, rfl, rfl, hn, hp, hs9⟩ := hI
      have hu := cb_u0 hD
      apply And.intro
      · intro h9
        exact hQ _ (by rw [show u0 = v3 by omega]; exact hs9)
      · intro h9
        refine Exists.intro [0, 1, 2, 3, 4, 5, 6, 7] (Exists.intro [q2 0, q1 _, q1 _] (Exists.intro (wB _ _ _ _ _ _ _ _ _ _ _ _) (And.intro rfl (And.intro rfl (And.intro rfl (And.intro ⟨⟨_, rfl⟩, rfl⟩ ?_))))))
        refine Exists.intro _ (Exists.intro _ (Exists.intro _ (Exists.intro _ (Exists.intro _ (Exists.intro _ (Exists.intro _ (Exists.intro _ (Exists.intro _ (Exists.intro _ (Exists.intro _ (Exists.intro _ (Exists.intro _ (Exists.intro _ (And.intro rfl (And.intro rfl (And.intro (by first | omega | assumption | exact q_rg_up (by assumption) (by omega) | exact q_rg_up (q_rg_up (by assumption) (by omega)) (by omega) | exact q_rg_cpy (by assumption) (by assumption)) (?_)))))))))))))))))
        intro z16 h16
        have q16 := cb_sc hD h16 (by omega) (by omega)
        intro z19 h19
        intro z23 h23
        first | replace h23 := e_add h23 (by omega) | replace h23 := e_rng h23
        exact ⟨_, ⟨_, _, rfl, rfl, rfl, rfl, (by first | omega | assumption | exact q_rg_up (by assumption) (by omega) | exact q_rg_up (q_rg_up (by assumption) (by omega)) (by omega) | exact q_rg_cpy (by assumption) (by assumption)), (by first | exact FmX_0 | exact FmX_s hs9 (by omega) q16 (by omega) (by omega))⟩, by omega⟩
    simp only [I_G0_familySteps, h4, if_false] at hI
  rintro lv st w' ⟨rfl, rfl, rfl⟩
  exact ⟨_, _, _, rfl, rfl, rfl, rfl, (by first | omega | assumption | exact q_rg_up (by assumption) (by omega) | exact q_rg_up (q_rg_up (by assumption) (by omega)) (by omega) | exact q_rg_cpy (by assumption) (by assumption)), (by first | exact FmX_0 | exact FmX_s hs9 (by omega) q16 (by omega) (by omega))⟩

theorem dGX11_family_0 : decode cX11_family 0 = .ok (.aload_n 0, 1) := by decide +kernel
theorem dGX11_family_1 : decode cX11_family 1 = .ok (.getfield 10, 3) := by decide +kernel
theorem dGX11_family_4 : decode cX11_family 4 = .ok (.iload_n 1, 1) := by decide +kernel
theorem dGX11_family_5 : decode cX11_family 5 = .ok (.invokevirtual 94, 3) := by decide +kernel
theorem dGX11_family_8 : decode cX11_family 8 = .ok (.astore 4, 2) := by decide +kernel
theorem dGX11_family_10 : decode cX11_family 10 = .ok (.aload 4, 2) := by decide +kernel
theorem dGX11_family_12 : decode cX11_family 12 = .ok (.ifnull 12, 3) := by decide +kernel
theorem dGX11_family_15 : decode cX11_family 15 = .ok (.aload 4, 2) := by decide +kernel
theorem dGX11_family_17 : decode cX11_family 17 = .ok (.iload_n 2, 1) := by decide +kernel
theorem dGX11_family_18 : decode cX11_family 18 = .ok (.invokevirtual 173, 3) := by decide +kernel
theorem dGX11_family_21 : decode cX11_family 21 = .ok (.ifCond .ne 5, 3) := by decide +kernel
theorem dGX11_family_24 : decode cX11_family 24 = .ok (.iconst (-1), 1) := by decide +kernel
theorem dGX11_family_25 : decode cX11_family 25 = .ok (.ireturn, 1) := by decide +kernel
theorem dGX11_family_26 : decode cX11_family 26 = .ok (.iload_n 3, 1) := by decide +kernel
theorem dGX11_family_27 : decode cX11_family 27 = .ok (.tableswitch 46 0 2 #[25, 32, 39], 25) := by decide +kernel
theorem dGX11_family_52 : decode cX11_family 52 = .ok (.aload 4, 2) := by decide +kernel
theorem dGX11_family_54 : decode cX11_family 54 = .ok (.iload_n 2, 1) := by decide +kernel
theorem dGX11_family_55 : decode cX11_family 55 = .ok (.invokevirtual 247, 3) := by decide +kernel
theorem dGX11_family_58 : decode cX11_family 58 = .ok (.ireturn, 1) := by decide +kernel
theorem dGX11_family_59 : decode cX11_family 59 = .ok (.aload 4, 2) := by decide +kernel
theorem dGX11_family_61 : decode cX11_family 61 = .ok (.iload_n 2, 1) := by decide +kernel
theorem dGX11_family_62 : decode cX11_family 62 = .ok (.invokevirtual 250, 3) := by decide +kernel
theorem dGX11_family_65 : decode cX11_family 65 = .ok (.ireturn, 1) := by decide +kernel
theorem dGX11_family_66 : decode cX11_family 66 = .ok (.aload 4, 2) := by decide +kernel
theorem dGX11_family_68 : decode cX11_family 68 = .ok (.iload_n 2, 1) := by decide +kernel
theorem dGX11_family_69 : decode cX11_family 69 = .ok (.invokevirtual 253, 3) := by decide +kernel
theorem dGX11_family_72 : decode cX11_family 72 = .ok (.ireturn, 1) := by decide +kernel
theorem dGX11_family_73 : decode cX11_family 73 = .ok (.iconst (-1), 1) := by decide +kernel
theorem dGX11_family_74 : decode cX11_family 74 = .ok (.ireturn, 1) := by decide +kernel
def is_GX11_family : Nat → List Nat := fun d => []
set_option maxRecDepth 100000 in
def b_GX11_family_24 (J : Nat → List qV → List qV → qW → Prop) (Q : qR) : qK := x_int (-1) (x_iret Q)
set_option maxRecDepth 100000 in
theorem s_GX11_family_24 {p : Program} {l : Launch} {e : Env} {R : Room} {s : State} {m : MethodId} {args : Array Value} {below : List Frame} {meth : Method} {c : Code} {nW : Nat} {dC : Nat → ClassId} {dI : Nat → Nat → Nat} {k : Nat → ClassId} {g : Nat → Nat} {A : Nat → Prop} {J : Nat → List qV → List qV → qW → Prop} {Q : qR} (X : q_X p R s m args meth c cX11_family 5 nW 3 68 RX11 (some .int) dC dI k g A) (hJ : ∀ d : Nat, q_Sd p l e R s m args below meth c 5 nW dC dI k g A (MQ below (q_post (dC, dI) k g nW Q A) args s 0 0 A) d (x_cut (is_GX11_family d) (J d))) : q_Sd p l e R s m args below meth c 5 nW dC dI k g A (MQ below (q_post (dC, dI) k g nW Q A) args s 0 0 A) 24 (b_GX11_family_24 J Q) := by
  unfold b_GX11_family_24
  refine s_iconst X ⟨by decide, by decide⟩ dGX11_family_24 ?_
  exact s_iret X dGX11_family_25
set_option maxRecDepth 100000 in
def b_GX11_family_0 (J : Nat → List qV → List qV → qW → Prop) (Q : qR) : qK := x_aload 0 (x_get 11 0 (x_iload 1 (x_callr (some 8) 2 spr_G8_boroughAt (x_astore 4 (x_aload 4 (x_ifnull (b_GX11_family_24 J Q) (x_aload 4 (x_iload 2 (x_callr (some 0) 2 spr_X0_has (x_if_ne (x_iload 3 (x_sw 0 2 [x_aload 4 (x_iload 2 (x_callr (some 0) 2 spr_G0_familyOf (x_iret Q))), x_aload 4 (x_iload 2 (x_callr (some 0) 2 spr_G0_familyInches (x_iret Q))), x_aload 4 (x_iload 2 (x_callr (some 0) 2 spr_G0_familySteps (x_iret Q)))] (x_int (-1) (x_iret Q)))) (b_GX11_family_24 J Q)))))))))))
set_option maxRecDepth 100000 in
theorem s_GX11_family_0 {p : Program} {l : Launch} {e : Env} {R : Room} {s : State} {m : MethodId} {args : Array Value} {below : List Frame} {meth : Method} {c : Code} {nW : Nat} {dC : Nat → ClassId} {dI : Nat → Nat → Nat} {k : Nat → ClassId} {g : Nat → Nat} {A : Nat → Prop} {J : Nat → List qV → List qV → qW → Prop} {Q : qR} (X : q_X p R s m args meth c cX11_family 5 nW 3 68 RX11 (some .int) dC dI k g A) (hJ : ∀ d : Nat, q_Sd p l e R s m args below meth c 5 nW dC dI k g A (MQ below (q_post (dC, dI) k g nW Q A) args s 0 0 A) d (x_cut (is_GX11_family d) (J d))) : q_Sd p l e R s m args below meth c 5 nW dC dI k g A (MQ below (q_post (dC, dI) k g nW Q A) args s 0 0 A) 0 (b_GX11_family_0 J Q) := by
  unfold b_GX11_family_0
  refine s_aload_n X rfl dGX11_family_0 ?_
  refine s_get X (T := TX11) (C := RX11) (N := 8) tu_X11 rfl (by decide) tw_326 dGX11_family_1 ?_
  refine s_iload_n X rfl dGX11_family_4 ?_
  refine s_callVr X (m_G8_boroughAt l) tw_541 tw_542 tw_543 tw_121 tw_544 rfl (by decide +kernel) ⟨by decide, by decide⟩ dGX11_family_5 ?_
  refine s_astore X (by decide) dGX11_family_8 ?_
  refine s_aload X dGX11_family_10 ?_
  refine s_ifnull X (tgt := 24) dGX11_family_12 (by decide) ?_ ?_
  · exact s_GX11_family_24 X hJ
  · refine s_aload X dGX11_family_15 ?_
    refine s_iload_n X rfl dGX11_family_17 ?_
    refine s_callVr X (m_X0_has l) tw_742 tw_399 tw_400 tw_122 tw_401 rfl (by decide +kernel) ⟨by decide, by decide⟩ dGX11_family_18 ?_
    refine s_if_ne X (tgt := 26) dGX11_family_21 (by decide) ?_ ?_
    · refine s_iload_n X rfl dGX11_family_26 ?_
      refine s_sw X (ts := [52, 59, 66]) (td := 73) dGX11_family_27 (by decide) (by decide) (by decide) rfl ?_ ?_
      · intro i t K ht hK
        match i, ht, hK with
        | 0, ht, hK =>
          cases ht
          cases hK
          refine s_aload X dGX11_family_52 ?_
          refine s_iload_n X rfl dGX11_family_54 ?_
          refine s_callVr X (m_G0_familyOf l) tw_890 tw_891 tw_892 tw_122 tw_893 rfl (by decide +kernel) ⟨by decide, by decide⟩ dGX11_family_55 ?_
          exact s_iret X dGX11_family_58
        | 1, ht, hK =>
          cases ht
          cases hK
          refine s_aload X dGX11_family_59 ?_
          refine s_iload_n X rfl dGX11_family_61 ?_
          refine s_callVr X (m_G0_familyInches l) tw_894 tw_895 tw_896 tw_122 tw_897 rfl (by decide +kernel) ⟨by decide, by decide⟩ dGX11_family_62 ?_
          exact s_iret X dGX11_family_65
        | 2, ht, hK =>
          cases ht
          cases hK
          refine s_aload X dGX11_family_66 ?_
          refine s_iload_n X rfl dGX11_family_68 ?_
          refine s_callVr X (m_G0_familySteps l) tw_898 tw_899 tw_900 tw_122 tw_901 rfl (by decide +kernel) ⟨by decide, by decide⟩ dGX11_family_69 ?_
          exact s_iret X dGX11_family_72
        | i + 3, ht, hK => exact absurd ht (by simp)
      · refine s_iconst X ⟨by decide, by decide⟩ dGX11_family_73 ?_
        exact s_iret X dGX11_family_74
    · exact s_GX11_family_24 X hJ

def spr_GX11_family : List qV → qW → (Option qV → Prop) → Prop := fun av w Q => ∃ (tp : Nat → Int) (ct : Nat → Int) (ln : Int) (fa : Int) (pl : Int) (b0f1 : Nat → Int) (b0f2 : Nat → Int) (b0f3 : Nat → Int) (b0f4 : Nat → Int) (b0f5 : Nat → Int) (b0f6 : Nat → Int) (b0f7 : Nat → Int) (b0u0 : Int) (b0u1 : Int) (b0u2 : Int) (b0u3 : Int) (b0u4 : Int) (b1f1 : Nat → Int) (b1f2 : Nat → Int) (b1f3 : Nat → Int) (b1f4 : Nat → Int) (b1f5 : Nat → Int) (b1f6 : Nat → Int) (b1f7 : Nat → Int) (b1u0 : Int) (b1u1 : Int) (b1u2 : Int) (b1u3 : Int) (b1u4 : Int) (a : Int) (b : Int) (cc : Int) (D0 : Nat → Int) (D1 : Nat → Int), av = [q2 0, q1 a, q1 b, q1 cc] ∧ w = [.inr (11, [q2 1, q2 21, q2 22, q2 23, q2 24, q2 25, q2 26, q2 27]), .inr (8, [q2 2, q2 3, q2 4, q2 28, q2 29, q2 30, q1 ln, q1 fa, q1 pl]), .inl (1, 600, .inl tp), .inl (0, 4, .inl ct), .inl (4, 2, .inr (.inr [some 5, some 13])), .inr (0, [q2 6, q2 7, q2 8, q2 9, q2 10, q2 11, q2 12, q1 b0u0, q1 b0u1, q1 b0u2, q1 b0u3, q1 b0u4]), .inl (0, 8, .inl b0f1), .inl (0, 8, .inl b0f2), .inl (0, 4, .inl b0f3), .inl (0, 32, .inl b0f4), .inl (0, 6, .inl b0f5), .inl (0, 6, .inl b0f6), .inl (0, 6, .inl b0f7), .inr (0, [q2 14, q2 15, q2 16, q2 17, q2 18, q2 19, q2 20, q1 b1u0, q1 b1u1, q1 b1u2, q1 b1u3, q1 b1u4]), .inl (0, 8, .inl b1f1), .inl (0, 8, .inl b1f2), .inl (0, 4, .inl b1f3), .inl (0, 32, .inl b1f4), .inl (0, 6, .inl b1f5), .inl (0, 6, .inl b1f6), .inl (0, 6, .inl b1f7)] ∧ (q_rg 0 2 ct) ∧ (0 ≤ ln ∧ ln ≤ 600) ∧ (0 ≤ b0u0 ∧ b0u0 ≤ 8 ∧ 0 ≤ b0u3 ∧ b0u3 ≤ 6 ∧ 0 ≤ b0u4 ∧ b0u4 ≤ 6) ∧ (q_rg 0 9 b0f3) ∧ (0 ≤ b1u0 ∧ b1u0 ≤ 8 ∧ 0 ≤ b1u3 ∧ b1u3 ≤ 6 ∧ 0 ≤ b1u4 ∧ b1u4 ≤ 6) ∧ (q_rg 0 9 b1f3) ∧ (0 < ct (0 : Int).toNat → CBK b0f1 b0f2 b0f3 b0f4 b0f5 b0f6 b0f7 b0u0 b0u1 b0u2 b0u3 b0u4 D0) ∧ (1 < ct (0 : Int).toNat → CBK b1f1 b1f2 b1f3 b1f4 b1f5 b1f6 b1f7 b1u0 b1u1 b1u2 b1u3 b1u4 D1) ∧ (∀ (r : Int) , (((bA (ct (0 : Int).toNat) D0 D1 a (-1) r (fun D z => FmA D b cc z)))) → Q (some (q1 r)))
def sp_GX11_family : qS := fun av w Q => spr_GX11_family av w (fun r => Q r w)
set_option maxHeartbeats 4000000 in
set_option maxRecDepth 100000 in
theorem m_GX11_family (l : Launch) : q_M l yX11_family cX11_family 5 (some .int) 3 68 sp_GX11_family := by
  refine q_meth (by decide) (fun av w Q h => by obtain ⟨tp, ct, ln, fa, pl, b0f1, b0f2, b0f3, b0f4, b0f5, b0f6, b0f7, b0u0, b0u1, b0u2, b0u3, b0u4, b1f1, b1f2, b1f3, b1f4, b1f5, b1f6, b1f7, b1u0, b1u1, b1u2, b1u3, b1u4, a, b, cc, D0, D1, rfl, rfl, hct, hln, hb0, hf0, hb1, hf1, hr0, hr1, hQ⟩ := h; exact Nat.le_of_ble_eq_true rfl) ?_
  intro p e R s m args below meth c dC dI k g A av w Q hsp oka okw X
  obtain ⟨tp, ct, ln, fa, pl, b0f1, b0f2, b0f3, b0f4, b0f5, b0f6, b0f7, b0u0, b0u1, b0u2, b0u3, b0u4, b1f1, b1f2, b1f3, b1f4, b1f5, b1f6, b1f7, b1u0, b1u1, b1u2, b1u3, b1u4, a, b, cc, D0, D1, rfl, rfl, hct, hln, hb0, hf0, hb1, hf1, hr0, hr1, hQ⟩ := hsp
  have o_a : -2147483648 ≤ a ∧ a ≤ 2147483647 := oka _ (List.mem_of_getElem? (i := 1) rfl)
  have o_b : -2147483648 ≤ b ∧ b ≤ 2147483647 := oka _ (List.mem_of_getElem? (i := 2) rfl)
  have o_cc : -2147483648 ≤ cc ∧ cc ≤ 2147483647 := oka _ (List.mem_of_getElem? (i := 3) rfl)
  refine s_mono (s_GX11_family_0 X (J := fun _ _ _ _ => False) (fun d => s_cutF)) ?_
  rintro lv st w' ⟨rfl, rfl, rfl⟩
  refine Exists.intro [1, 2, 3, 4, 28, 29, 30, 5, 13] (Exists.intro [q2 0, q1 _] (Exists.intro ((wT4_0 _ _ _ _ _)) (And.intro rfl (And.intro rfl (And.intro rfl (And.intro ⟨⟨_, rfl⟩, rfl⟩ ?_))))))
  refine Exists.intro _ (Exists.intro _ (Exists.intro _ (Exists.intro _ (Exists.intro _ (Exists.intro _ (And.intro rfl (And.intro rfl (?_))))))))
  intro z5 h5
  rcases h5 with ⟨rfl, c5⟩ | ⟨rfl, rfl, c5⟩ | ⟨rfl, rfl, c5⟩
  · first | have hD := hr0 c5 | have hD := hr1 c5 | skip
    first | have hu := cb_u0 hD | skip
    exact hQ _ (by first | exact Or.inr ⟨(by have q9 := hct (0 : Int).toNat; omega), rfl⟩ | exact Or.inl ⟨⟨by omega, by omega⟩, Or.inl ⟨rfl, (by first | exact Or.inl ⟨⟨by omega, by omega⟩, Or.inl ⟨by omega, by rw [← hu.1]; exact h55⟩⟩ | exact Or.inl ⟨⟨by omega, by omega⟩, Or.inr (Or.inl ⟨by omega, by rw [← hu.1]; exact h62⟩)⟩ | exact Or.inl ⟨⟨by omega, by omega⟩, Or.inr (Or.inr ⟨by omega, by rw [← hu.1]; exact h69⟩)⟩ | exact Or.inr ⟨fun q9 => (by obtain ⟨⟨q1, q2⟩, q3, q4⟩ := q9; omega), rfl⟩)⟩⟩ | exact Or.inl ⟨⟨by omega, by omega⟩, Or.inr ⟨rfl, (by first | exact Or.inl ⟨⟨by omega, by omega⟩, Or.inl ⟨by omega, by rw [← hu.1]; exact h55⟩⟩ | exact Or.inl ⟨⟨by omega, by omega⟩, Or.inr (Or.inl ⟨by omega, by rw [← hu.1]; exact h62⟩)⟩ | exact Or.inl ⟨⟨by omega, by omega⟩, Or.inr (Or.inr ⟨by omega, by rw [← hu.1]; exact h69⟩)⟩ | exact Or.inr ⟨fun q9 => (by obtain ⟨⟨q1, q2⟩, q3, q4⟩ := q9; omega), rfl⟩)⟩⟩)
  · first | have hD := hr0 c5 | have hD := hr1 c5 | skip
    first | have hu := cb_u0 hD | skip
    refine Exists.intro [5, 6, 7, 8, 9, 10, 11, 12] (Exists.intro [q2 0, q1 _] (Exists.intro (wB _ _ _ _ _ _ _ _ _ _ _ _) (And.intro rfl (And.intro rfl (And.intro rfl (And.intro ⟨⟨_, rfl⟩, rfl⟩ ?_))))))
    refine Exists.intro _ (Exists.intro _ (Exists.intro _ (Exists.intro _ (Exists.intro _ (Exists.intro _ (Exists.intro _ (Exists.intro _ (Exists.intro _ (Exists.intro _ (Exists.intro _ (Exists.intro _ (Exists.intro _ (And.intro rfl (And.intro rfl (?_)))))))))))))))
    intro z18 h18
    apply And.intro
    · intro h21
      apply And.intro
      · apply And.intro
        · intro h27
          refine Exists.intro [5, 6, 7, 8, 9, 10, 11, 12] (Exists.intro [q2 0, q1 _] (Exists.intro (wB _ _ _ _ _ _ _ _ _ _ _ _) (And.intro rfl (And.intro rfl (And.intro rfl (And.intro ⟨⟨_, rfl⟩, rfl⟩ ?_))))))
          refine Exists.intro _ (Exists.intro _ (Exists.intro _ (Exists.intro _ (Exists.intro _ (Exists.intro _ (Exists.intro _ (Exists.intro _ (Exists.intro _ (Exists.intro _ (Exists.intro _ (Exists.intro _ (Exists.intro _ (Exists.intro _ (And.intro rfl (And.intro rfl (And.intro (by first | omega | assumption | exact q_rg_up (by assumption) (by omega) | exact q_rg_up (q_rg_up (by assumption) (by omega)) (by omega) | exact q_rg_cpy (by assumption) (by assumption)) (And.intro hD (And.intro (by first | omega | assumption | exact q_rg_up (by assumption) (by omega) | exact q_rg_up (q_rg_up (by assumption) (by omega)) (by omega) | exact q_rg_cpy (by assumption) (by assumption)) (?_)))))))))))))))))))
          intro z55 h55
          exact hQ _ (by first | exact Or.inr ⟨(by have q9 := hct (0 : Int).toNat; omega), rfl⟩ | exact Or.inl ⟨⟨by omega, by omega⟩, Or.inl ⟨rfl, (by first | exact Or.inl ⟨⟨by omega, by omega⟩, Or.inl ⟨by omega, by rw [← hu.1]; exact h55⟩⟩ | exact Or.inl ⟨⟨by omega, by omega⟩, Or.inr (Or.inl ⟨by omega, by rw [← hu.1]; exact h62⟩)⟩ | exact Or.inl ⟨⟨by omega, by omega⟩, Or.inr (Or.inr ⟨by omega, by rw [← hu.1]; exact h69⟩)⟩ | exact Or.inr ⟨fun q9 => (by obtain ⟨⟨q1, q2⟩, q3, q4⟩ := q9; omega), rfl⟩)⟩⟩ | exact Or.inl ⟨⟨by omega, by omega⟩, Or.inr ⟨rfl, (by first | exact Or.inl ⟨⟨by omega, by omega⟩, Or.inl ⟨by omega, by rw [← hu.1]; exact h55⟩⟩ | exact Or.inl ⟨⟨by omega, by omega⟩, Or.inr (Or.inl ⟨by omega, by rw [← hu.1]; exact h62⟩)⟩ | exact Or.inl ⟨⟨by omega, by omega⟩, Or.inr (Or.inr ⟨by omega, by rw [← hu.1]; exact h69⟩)⟩ | exact Or.inr ⟨fun q9 => (by obtain ⟨⟨q1, q2⟩, q3, q4⟩ := q9; omega), rfl⟩)⟩⟩)
        apply And.intro
        · intro h27
          refine Exists.intro [5, 6, 7, 8, 9, 10, 11, 12] (Exists.intro [q2 0, q1 _] (Exists.intro (wB _ _ _ _ _ _ _ _ _ _ _ _) (And.intro rfl (And.intro rfl (And.intro rfl (And.intro ⟨⟨_, rfl⟩, rfl⟩ ?_))))))
          refine Exists.intro _ (Exists.intro _ (Exists.intro _ (Exists.intro _ (Exists.intro _ (Exists.intro _ (Exists.intro _ (Exists.intro _ (Exists.intro _ (Exists.intro _ (Exists.intro _ (Exists.intro _ (Exists.intro _ (Exists.intro _ (And.intro rfl (And.intro rfl (And.intro (by first | omega | assumption | exact q_rg_up (by assumption) (by omega) | exact q_rg_up (q_rg_up (by assumption) (by omega)) (by omega) | exact q_rg_cpy (by assumption) (by assumption)) (And.intro hD (And.intro (by first | omega | assumption | exact q_rg_up (by assumption) (by omega) | exact q_rg_up (q_rg_up (by assumption) (by omega)) (by omega) | exact q_rg_cpy (by assumption) (by assumption)) (?_)))))))))))))))))))
          intro z62 h62
          exact hQ _ (by first | exact Or.inr ⟨(by have q9 := hct (0 : Int).toNat; omega), rfl⟩ | exact Or.inl ⟨⟨by omega, by omega⟩, Or.inl ⟨rfl, (by first | exact Or.inl ⟨⟨by omega, by omega⟩, Or.inl ⟨by omega, by rw [← hu.1]; exact h55⟩⟩ | exact Or.inl ⟨⟨by omega, by omega⟩, Or.inr (Or.inl ⟨by omega, by rw [← hu.1]; exact h62⟩)⟩ | exact Or.inl ⟨⟨by omega, by omega⟩, Or.inr (Or.inr ⟨by omega, by rw [← hu.1]; exact h69⟩)⟩ | exact Or.inr ⟨fun q9 => (by obtain ⟨⟨q1, q2⟩, q3, q4⟩ := q9; omega), rfl⟩)⟩⟩ | exact Or.inl ⟨⟨by omega, by omega⟩, Or.inr ⟨rfl, (by first | exact Or.inl ⟨⟨by omega, by omega⟩, Or.inl ⟨by omega, by rw [← hu.1]; exact h55⟩⟩ | exact Or.inl ⟨⟨by omega, by omega⟩, Or.inr (Or.inl ⟨by omega, by rw [← hu.1]; exact h62⟩)⟩ | exact Or.inl ⟨⟨by omega, by omega⟩, Or.inr (Or.inr ⟨by omega, by rw [← hu.1]; exact h69⟩)⟩ | exact Or.inr ⟨fun q9 => (by obtain ⟨⟨q1, q2⟩, q3, q4⟩ := q9; omega), rfl⟩)⟩⟩)
        apply And.intro
        · intro h27
          refine Exists.intro [5, 6, 7, 8, 9, 10, 11, 12] (Exists.intro [q2 0, q1 _] (Exists.intro (wB _ _ _ _ _ _ _ _ _ _ _ _) (And.intro rfl (And.intro rfl (And.intro rfl (And.intro ⟨⟨_, rfl⟩, rfl⟩ ?_))))))
          refine Exists.intro _ (Exists.intro _ (Exists.intro _ (Exists.intro _ (Exists.intro _ (Exists.intro _ (Exists.intro _ (Exists.intro _ (Exists.intro _ (Exists.intro _ (Exists.intro _ (Exists.intro _ (Exists.intro _ (Exists.intro _ (And.intro rfl (And.intro rfl (And.intro (by first | omega | assumption | exact q_rg_up (by assumption) (by omega) | exact q_rg_up (q_rg_up (by assumption) (by omega)) (by omega) | exact q_rg_cpy (by assumption) (by assumption)) (And.intro hD (And.intro (by first | omega | assumption | exact q_rg_up (by assumption) (by omega) | exact q_rg_up (q_rg_up (by assumption) (by omega)) (by omega) | exact q_rg_cpy (by assumption) (by assumption)) (?_)))))))))))))))))))
          intro z69 h69
          exact hQ _ (by first | exact Or.inr ⟨(by have q9 := hct (0 : Int).toNat; omega), rfl⟩ | exact Or.inl ⟨⟨by omega, by omega⟩, Or.inl ⟨rfl, (by first | exact Or.inl ⟨⟨by omega, by omega⟩, Or.inl ⟨by omega, by rw [← hu.1]; exact h55⟩⟩ | exact Or.inl ⟨⟨by omega, by omega⟩, Or.inr (Or.inl ⟨by omega, by rw [← hu.1]; exact h62⟩)⟩ | exact Or.inl ⟨⟨by omega, by omega⟩, Or.inr (Or.inr ⟨by omega, by rw [← hu.1]; exact h69⟩)⟩ | exact Or.inr ⟨fun q9 => (by obtain ⟨⟨q1, q2⟩, q3, q4⟩ := q9; omega), rfl⟩)⟩⟩ | exact Or.inl ⟨⟨by omega, by omega⟩, Or.inr ⟨rfl, (by first | exact Or.inl ⟨⟨by omega, by omega⟩, Or.inl ⟨by omega, by rw [← hu.1]; exact h55⟩⟩ | exact Or.inl ⟨⟨by omega, by omega⟩, Or.inr (Or.inl ⟨by omega, by rw [← hu.1]; exact h62⟩)⟩ | exact Or.inl ⟨⟨by omega, by omega⟩, Or.inr (Or.inr ⟨by omega, by rw [← hu.1]; exact h69⟩)⟩ | exact Or.inr ⟨fun q9 => (by obtain ⟨⟨q1, q2⟩, q3, q4⟩ := q9; omega), rfl⟩)⟩⟩)
        exact trivial
      · intro h27
        exact hQ _ (by first | exact Or.inr ⟨(by have q9 := hct (0 : Int).toNat; omega), rfl⟩ | exact Or.inl ⟨⟨by omega, by omega⟩, Or.inl ⟨rfl, (by first | exact Or.inl ⟨⟨by omega, by omega⟩, Or.inl ⟨by omega, by rw [← hu.1]; exact h55⟩⟩ | exact Or.inl ⟨⟨by omega, by omega⟩, Or.inr (Or.inl ⟨by omega, by rw [← hu.1]; exact h62⟩)⟩ | exact Or.inl ⟨⟨by omega, by omega⟩, Or.inr (Or.inr ⟨by omega, by rw [← hu.1]; exact h69⟩)⟩ | exact Or.inr ⟨fun q9 => (by obtain ⟨⟨q1, q2⟩, q3, q4⟩ := q9; omega), rfl⟩)⟩⟩ | exact Or.inl ⟨⟨by omega, by omega⟩, Or.inr ⟨rfl, (by first | exact Or.inl ⟨⟨by omega, by omega⟩, Or.inl ⟨by omega, by rw [← hu.1]; exact h55⟩⟩ | exact Or.inl ⟨⟨by omega, by omega⟩, Or.inr (Or.inl ⟨by omega, by rw [← hu.1]; exact h62⟩)⟩ | exact Or.inl ⟨⟨by omega, by omega⟩, Or.inr (Or.inr ⟨by omega, by rw [← hu.1]; exact h69⟩)⟩ | exact Or.inr ⟨fun q9 => (by obtain ⟨⟨q1, q2⟩, q3, q4⟩ := q9; omega), rfl⟩)⟩⟩)
    · intro h21
      exact hQ _ (by first | exact Or.inr ⟨(by have q9 := hct (0 : Int).toNat; omega), rfl⟩ | exact Or.inl ⟨⟨by omega, by omega⟩, Or.inl ⟨rfl, (by first | exact Or.inl ⟨⟨by omega, by omega⟩, Or.inl ⟨by omega, by rw [← hu.1]; exact h55⟩⟩ | exact Or.inl ⟨⟨by omega, by omega⟩, Or.inr (Or.inl ⟨by omega, by rw [← hu.1]; exact h62⟩)⟩ | exact Or.inl ⟨⟨by omega, by omega⟩, Or.inr (Or.inr ⟨by omega, by rw [← hu.1]; exact h69⟩)⟩ | exact Or.inr ⟨fun q9 => (by obtain ⟨⟨q1, q2⟩, q3, q4⟩ := q9; omega), rfl⟩)⟩⟩ | exact Or.inl ⟨⟨by omega, by omega⟩, Or.inr ⟨rfl, (by first | exact Or.inl ⟨⟨by omega, by omega⟩, Or.inl ⟨by omega, by rw [← hu.1]; exact h55⟩⟩ | exact Or.inl ⟨⟨by omega, by omega⟩, Or.inr (Or.inl ⟨by omega, by rw [← hu.1]; exact h62⟩)⟩ | exact Or.inl ⟨⟨by omega, by omega⟩, Or.inr (Or.inr ⟨by omega, by rw [← hu.1]; exact h69⟩)⟩ | exact Or.inr ⟨fun q9 => (by obtain ⟨⟨q1, q2⟩, q3, q4⟩ := q9; omega), rfl⟩)⟩⟩)
  · first | have hD := hr0 c5 | have hD := hr1 c5 | skip
    first | have hu := cb_u0 hD | skip
    refine Exists.intro [13, 14, 15, 16, 17, 18, 19, 20] (Exists.intro [q2 0, q1 _] (Exists.intro (wB _ _ _ _ _ _ _ _ _ _ _ _) (And.intro rfl (And.intro rfl (And.intro rfl (And.intro ⟨⟨_, rfl⟩, rfl⟩ ?_))))))
    refine Exists.intro _ (Exists.intro _ (Exists.intro _ (Exists.intro _ (Exists.intro _ (Exists.intro _ (Exists.intro _ (Exists.intro _ (Exists.intro _ (Exists.intro _ (Exists.intro _ (Exists.intro _ (Exists.intro _ (And.intro rfl (And.intro rfl (?_)))))))))))))))
    intro z18 h18
    apply And.intro
    · intro h21
      apply And.intro
      · apply And.intro
        · intro h27
          refine Exists.intro [13, 14, 15, 16, 17, 18, 19, 20] (Exists.intro [q2 0, q1 _] (Exists.intro (wB _ _ _ _ _ _ _ _ _ _ _ _) (And.intro rfl (And.intro rfl (And.intro rfl (And.intro ⟨⟨_, rfl⟩, rfl⟩ ?_))))))
          refine Exists.intro _ (Exists.intro _ (Exists.intro _ (Exists.intro _ (Exists.intro _ (Exists.intro _ (Exists.intro _ (Exists.intro _ (Exists.intro _ (Exists.intro _ (Exists.intro _ (Exists.intro _ (Exists.intro _ (Exists.intro _ (And.intro rfl (And.intro rfl (And.intro (by first | omega | assumption | exact q_rg_up (by assumption) (by omega) | exact q_rg_up (q_rg_up (by assumption) (by omega)) (by omega) | exact q_rg_cpy (by assumption) (by assumption)) (And.intro hD (And.intro (by first | omega | assumption | exact q_rg_up (by assumption) (by omega) | exact q_rg_up (q_rg_up (by assumption) (by omega)) (by omega) | exact q_rg_cpy (by assumption) (by assumption)) (?_)))))))))))))))))))
          intro z55 h55
          exact hQ _ (by first | exact Or.inr ⟨(by have q9 := hct (0 : Int).toNat; omega), rfl⟩ | exact Or.inl ⟨⟨by omega, by omega⟩, Or.inl ⟨rfl, (by first | exact Or.inl ⟨⟨by omega, by omega⟩, Or.inl ⟨by omega, by rw [← hu.1]; exact h55⟩⟩ | exact Or.inl ⟨⟨by omega, by omega⟩, Or.inr (Or.inl ⟨by omega, by rw [← hu.1]; exact h62⟩)⟩ | exact Or.inl ⟨⟨by omega, by omega⟩, Or.inr (Or.inr ⟨by omega, by rw [← hu.1]; exact h69⟩)⟩ | exact Or.inr ⟨fun q9 => (by obtain ⟨⟨q1, q2⟩, q3, q4⟩ := q9; omega), rfl⟩)⟩⟩ | exact Or.inl ⟨⟨by omega, by omega⟩, Or.inr ⟨rfl, (by first | exact Or.inl ⟨⟨by omega, by omega⟩, Or.inl ⟨by omega, by rw [← hu.1]; exact h55⟩⟩ | exact Or.inl ⟨⟨by omega, by omega⟩, Or.inr (Or.inl ⟨by omega, by rw [← hu.1]; exact h62⟩)⟩ | exact Or.inl ⟨⟨by omega, by omega⟩, Or.inr (Or.inr ⟨by omega, by rw [← hu.1]; exact h69⟩)⟩ | exact Or.inr ⟨fun q9 => (by obtain ⟨⟨q1, q2⟩, q3, q4⟩ := q9; omega), rfl⟩)⟩⟩)
        apply And.intro
        · intro h27
          refine Exists.intro [13, 14, 15, 16, 17, 18, 19, 20] (Exists.intro [q2 0, q1 _] (Exists.intro (wB _ _ _ _ _ _ _ _ _ _ _ _) (And.intro rfl (And.intro rfl (And.intro rfl (And.intro ⟨⟨_, rfl⟩, rfl⟩ ?_))))))
          refine Exists.intro _ (Exists.intro _ (Exists.intro _ (Exists.intro _ (Exists.intro _ (Exists.intro _ (Exists.intro _ (Exists.intro _ (Exists.intro _ (Exists.intro _ (Exists.intro _ (Exists.intro _ (Exists.intro _ (Exists.intro _ (And.intro rfl (And.intro rfl (And.intro (by first | omega | assumption | exact q_rg_up (by assumption) (by omega) | exact q_rg_up (q_rg_up (by assumption) (by omega)) (by omega) | exact q_rg_cpy (by assumption) (by assumption)) (And.intro hD (And.intro (by first | omega | assumption | exact q_rg_up (by assumption) (by omega) | exact q_rg_up (q_rg_up (by assumption) (by omega)) (by omega) | exact q_rg_cpy (by assumption) (by assumption)) (?_)))))))))))))))))))
          intro z62 h62
          exact hQ _ (by first | exact Or.inr ⟨(by have q9 := hct (0 : Int).toNat; omega), rfl⟩ | exact Or.inl ⟨⟨by omega, by omega⟩, Or.inl ⟨rfl, (by first | exact Or.inl ⟨⟨by omega, by omega⟩, Or.inl ⟨by omega, by rw [← hu.1]; exact h55⟩⟩ | exact Or.inl ⟨⟨by omega, by omega⟩, Or.inr (Or.inl ⟨by omega, by rw [← hu.1]; exact h62⟩)⟩ | exact Or.inl ⟨⟨by omega, by omega⟩, Or.inr (Or.inr ⟨by omega, by rw [← hu.1]; exact h69⟩)⟩ | exact Or.inr ⟨fun q9 => (by obtain ⟨⟨q1, q2⟩, q3, q4⟩ := q9; omega), rfl⟩)⟩⟩ | exact Or.inl ⟨⟨by omega, by omega⟩, Or.inr ⟨rfl, (by first | exact Or.inl ⟨⟨by omega, by omega⟩, Or.inl ⟨by omega, by rw [← hu.1]; exact h55⟩⟩ | exact Or.inl ⟨⟨by omega, by omega⟩, Or.inr (Or.inl ⟨by omega, by rw [← hu.1]; exact h62⟩)⟩ | exact Or.inl ⟨⟨by omega, by omega⟩, Or.inr (Or.inr ⟨by omega, by rw [← hu.1]; exact h69⟩)⟩ | exact Or.inr ⟨fun q9 => (by obtain ⟨⟨q1, q2⟩, q3, q4⟩ := q9; omega), rfl⟩)⟩⟩)
        apply And.intro
        · intro h27
          refine Exists.intro [13, 14, 15, 16, 17, 18, 19, 20] (Exists.intro [q2 0, q1 _] (Exists.intro (wB _ _ _ _ _ _ _ _ _ _ _ _) (And.intro rfl (And.intro rfl (And.intro rfl (And.intro ⟨⟨_, rfl⟩, rfl⟩ ?_))))))
          refine Exists.intro _ (Exists.intro _ (Exists.intro _ (Exists.intro _ (Exists.intro _ (Exists.intro _ (Exists.intro _ (Exists.intro _ (Exists.intro _ (Exists.intro _ (Exists.intro _ (Exists.intro _ (Exists.intro _ (Exists.intro _ (And.intro rfl (And.intro rfl (And.intro (by first | omega | assumption | exact q_rg_up (by assumption) (by omega) | exact q_rg_up (q_rg_up (by assumption) (by omega)) (by omega) | exact q_rg_cpy (by assumption) (by assumption)) (And.intro hD (And.intro (by first | omega | assumption | exact q_rg_up (by assumption) (by omega) | exact q_rg_up (q_rg_up (by assumption) (by omega)) (by omega) | exact q_rg_cpy (by assumption) (by assumption)) (?_)))))))))))))))))))
          intro z69 h69
          exact hQ _ (by first | exact Or.inr ⟨(by have q9 := hct (0 : Int).toNat; omega), rfl⟩ | exact Or.inl ⟨⟨by omega, by omega⟩, Or.inl ⟨rfl, (by first | exact Or.inl ⟨⟨by omega, by omega⟩, Or.inl ⟨by omega, by rw [← hu.1]; exact h55⟩⟩ | exact Or.inl ⟨⟨by omega, by omega⟩, Or.inr (Or.inl ⟨by omega, by rw [← hu.1]; exact h62⟩)⟩ | exact Or.inl ⟨⟨by omega, by omega⟩, Or.inr (Or.inr ⟨by omega, by rw [← hu.1]; exact h69⟩)⟩ | exact Or.inr ⟨fun q9 => (by obtain ⟨⟨q1, q2⟩, q3, q4⟩ := q9; omega), rfl⟩)⟩⟩ | exact Or.inl ⟨⟨by omega, by omega⟩, Or.inr ⟨rfl, (by first | exact Or.inl ⟨⟨by omega, by omega⟩, Or.inl ⟨by omega, by rw [← hu.1]; exact h55⟩⟩ | exact Or.inl ⟨⟨by omega, by omega⟩, Or.inr (Or.inl ⟨by omega, by rw [← hu.1]; exact h62⟩)⟩ | exact Or.inl ⟨⟨by omega, by omega⟩, Or.inr (Or.inr ⟨by omega, by rw [← hu.1]; exact h69⟩)⟩ | exact Or.inr ⟨fun q9 => (by obtain ⟨⟨q1, q2⟩, q3, q4⟩ := q9; omega), rfl⟩)⟩⟩)
        exact trivial
      · intro h27
        exact hQ _ (by first | exact Or.inr ⟨(by have q9 := hct (0 : Int).toNat; omega), rfl⟩ | exact Or.inl ⟨⟨by omega, by omega⟩, Or.inl ⟨rfl, (by first | exact Or.inl ⟨⟨by omega, by omega⟩, Or.inl ⟨by omega, by rw [← hu.1]; exact h55⟩⟩ | exact Or.inl ⟨⟨by omega, by omega⟩, Or.inr (Or.inl ⟨by omega, by rw [← hu.1]; exact h62⟩)⟩ | exact Or.inl ⟨⟨by omega, by omega⟩, Or.inr (Or.inr ⟨by omega, by rw [← hu.1]; exact h69⟩)⟩ | exact Or.inr ⟨fun q9 => (by obtain ⟨⟨q1, q2⟩, q3, q4⟩ := q9; omega), rfl⟩)⟩⟩ | exact Or.inl ⟨⟨by omega, by omega⟩, Or.inr ⟨rfl, (by first | exact Or.inl ⟨⟨by omega, by omega⟩, Or.inl ⟨by omega, by rw [← hu.1]; exact h55⟩⟩ | exact Or.inl ⟨⟨by omega, by omega⟩, Or.inr (Or.inl ⟨by omega, by rw [← hu.1]; exact h62⟩)⟩ | exact Or.inl ⟨⟨by omega, by omega⟩, Or.inr (Or.inr ⟨by omega, by rw [← hu.1]; exact h69⟩)⟩ | exact Or.inr ⟨fun q9 => (by obtain ⟨⟨q1, q2⟩, q3, q4⟩ := q9; omega), rfl⟩)⟩⟩)
    · intro h21
      exact hQ _ (by first | exact Or.inr ⟨(by have q9 := hct (0 : Int).toNat; omega), rfl⟩ | exact Or.inl ⟨⟨by omega, by omega⟩, Or.inl ⟨rfl, (by first | exact Or.inl ⟨⟨by omega, by omega⟩, Or.inl ⟨by omega, by rw [← hu.1]; exact h55⟩⟩ | exact Or.inl ⟨⟨by omega, by omega⟩, Or.inr (Or.inl ⟨by omega, by rw [← hu.1]; exact h62⟩)⟩ | exact Or.inl ⟨⟨by omega, by omega⟩, Or.inr (Or.inr ⟨by omega, by rw [← hu.1]; exact h69⟩)⟩ | exact Or.inr ⟨fun q9 => (by obtain ⟨⟨q1, q2⟩, q3, q4⟩ := q9; omega), rfl⟩)⟩⟩ | exact Or.inl ⟨⟨by omega, by omega⟩, Or.inr ⟨rfl, (by first | exact Or.inl ⟨⟨by omega, by omega⟩, Or.inl ⟨by omega, by rw [← hu.1]; exact h55⟩⟩ | exact Or.inl ⟨⟨by omega, by omega⟩, Or.inr (Or.inl ⟨by omega, by rw [← hu.1]; exact h62⟩)⟩ | exact Or.inl ⟨⟨by omega, by omega⟩, Or.inr (Or.inr ⟨by omega, by rw [← hu.1]; exact h69⟩)⟩ | exact Or.inr ⟨fun q9 => (by obtain ⟨⟨q1, q2⟩, q3, q4⟩ := q9; omega), rfl⟩)⟩⟩)
