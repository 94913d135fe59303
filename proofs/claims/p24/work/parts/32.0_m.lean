def spm_X9_run : List qV → qW → (Option qV → qW → Prop) → Prop := fun av w Q => ∃ (h1 : Nat → Int) (h2 : Nat → Int) (h3 : Nat → Int) (p0 : Int) (s0 : Int) (f1 : Nat → Int) (f2 : Nat → Int) (f3 : Nat → Int) (f4 : Nat → Int) (f5 : Nat → Int) (f6 : Nat → Int) (f7 : Nat → Int) (u0 : Int) (u1 : Int) (u2 : Int) (u3 : Int) (u4 : Int) (k1 : Nat → Int) (k2 : Nat → Int) (k3 : Nat → Int) (k4 : Nat → Int) (dd : Int) (a : Int), av = [q2 0, q2 4, q2 12, q1 a] ∧ w = (wKo 0 h1 h2 h3 p0 s0 ++ wBo 4 f1 f2 f3 f4 f5 f6 f7 u0 u1 u2 u3 u4 ++ wYo 12 k1 k2 k3 k4 dd) ∧ (0 ≤ u0 ∧ u0 ≤ 8) ∧ (0 ≤ dd ∧ dd ≤ 40) ∧ (∀ (r : Int) (x1 : Nat → Int) (x2 : Nat → Int) (x3 : Nat → Int) (x4 : Int) (x5 : Int), 0 ≤ r ∧ r ≤ 40 → Q (some (q1 r)) (wKo 0 x1 x2 x3 x4 x5))
theorem mq_X9_run : ∀ (av : List qV) (w : qW) (P P' : Option qV → qW → Prop), (∀ r wm, P r wm → P' r wm) → spm_X9_run av w P → spm_X9_run av w P' := by
  intro av w P P' hP h
  obtain ⟨h1, h2, h3, p0, s0, f1, f2, f3, f4, f5, f6, f7, u0, u1, u2, u3, u4, k1, k2, k3, k4, dd, a, e1, e2, hu0, hd, hQ9⟩ := h
  exact ⟨h1, h2, h3, p0, s0, f1, f2, f3, f4, f5, f6, f7, u0, u1, u2, u3, u4, k1, k2, k3, k4, dd, a, e1, e2, hu0, hd, fun r x1 x2 x3 x4 x5 hp9 => hP _ _ (hQ9 r x1 x2 x3 x4 x5 hp9)⟩
theorem mm_X9_run (l : Launch) : q_M l yX9_run cX9_run 5 (some .int) 3 89 (fun av w Q => spm_X9_run av w (fun r wm => wm.length = 4 → Q r (wm ++ w.drop 4))) := by
  refine q_M_mono (fun av w Q h => ?_) (m_X9_run l)
  obtain ⟨h1, h2, h3, p0, s0, f1, f2, f3, f4, f5, f6, f7, u0, u1, u2, u3, u4, k1, k2, k3, k4, dd, a, rfl, rfl, hu0, hd, hQ9⟩ := h
  exact ⟨h1, h2, h3, p0, s0, f1, f2, f3, f4, f5, f6, f7, u0, u1, u2, u3, u4, k1, k2, k3, k4, dd, a, rfl, rfl, hu0, hd, fun r x1 x2 x3 x4 x5 hp9 => hQ9 r x1 x2 x3 x4 x5 hp9 rfl⟩

def spm_X9_draw : List qV → qW → (Option qV → qW → Prop) → Prop := fun av w Q => ∃ (h1 : Nat → Int) (h2 : Nat → Int) (h3 : Nat → Int) (p0 : Int) (s0 : Int) (f1 : Nat → Int) (f2 : Nat → Int) (f3 : Nat → Int) (f4 : Nat → Int) (f5 : Nat → Int) (f6 : Nat → Int) (f7 : Nat → Int) (u0 : Int) (u1 : Int) (u2 : Int) (u3 : Int) (u4 : Int) (a : Int) (b : Int), av = [q2 0, q2 4, q1 a, q1 b] ∧ w = (wKo 0 h1 h2 h3 p0 s0 ++ wBo 4 f1 f2 f3 f4 f5 f6 f7 u0 u1 u2 u3 u4) ∧ (0 ≤ u0 ∧ u0 ≤ 8) ∧ (∀ (x1 : Nat → Int) (x2 : Nat → Int) (x3 : Nat → Int) (x4 : Int) (x5 : Int), Q none (wKo 0 x1 x2 x3 x4 x5))
theorem mq_X9_draw : ∀ (av : List qV) (w : qW) (P P' : Option qV → qW → Prop), (∀ r wm, P r wm → P' r wm) → spm_X9_draw av w P → spm_X9_draw av w P' := by
  intro av w P P' hP h
  obtain ⟨h1, h2, h3, p0, s0, f1, f2, f3, f4, f5, f6, f7, u0, u1, u2, u3, u4, a, b, e1, e2, hu0, hQ9⟩ := h
  exact ⟨h1, h2, h3, p0, s0, f1, f2, f3, f4, f5, f6, f7, u0, u1, u2, u3, u4, a, b, e1, e2, hu0, fun x1 x2 x3 x4 x5 => hP _ _ (hQ9 x1 x2 x3 x4 x5)⟩
theorem mm_X9_draw (l : Launch) : q_M l yX9_draw cX9_draw 8 none 3 89 (fun av w Q => spm_X9_draw av w (fun r wm => wm.length = 4 → Q r (wm ++ w.drop 4))) := by
  refine q_M_mono (fun av w Q h => ?_) (m_X9_draw l)
  obtain ⟨h1, h2, h3, p0, s0, f1, f2, f3, f4, f5, f6, f7, u0, u1, u2, u3, u4, a, b, rfl, rfl, hu0, hQ9⟩ := h
  exact ⟨h1, h2, h3, p0, s0, f1, f2, f3, f4, f5, f6, f7, u0, u1, u2, u3, u4, a, b, rfl, rfl, hu0, fun x1 x2 x3 x4 x5 => hQ9 x1 x2 x3 x4 x5 rfl⟩

def spm_X9_fewestGifts : List qV → qW → (Option qV → qW → Prop) → Prop := fun av w Q => ∃ (h1 : Nat → Int) (h2 : Nat → Int) (h3 : Nat → Int) (p0 : Int) (s0 : Int) (f1 : Nat → Int) (f2 : Nat → Int) (f3 : Nat → Int) (f4 : Nat → Int) (f5 : Nat → Int) (f6 : Nat → Int) (f7 : Nat → Int) (u0 : Int) (u1 : Int) (u2 : Int) (u3 : Int) (u4 : Int), av = [q2 0, q2 4] ∧ w = (wKo 0 h1 h2 h3 p0 s0 ++ wBo 4 f1 f2 f3 f4 f5 f6 f7 u0 u1 u2 u3 u4) ∧ (0 ≤ u0 ∧ u0 ≤ 8) ∧ (∀ (r : Int) (x1 : Nat → Int) (x2 : Nat → Int) (x3 : Nat → Int) (x4 : Int) (x5 : Int), Q (some (q1 r)) (wKo 0 x1 x2 x3 x4 x5))
theorem mq_X9_fewestGifts : ∀ (av : List qV) (w : qW) (P P' : Option qV → qW → Prop), (∀ r wm, P r wm → P' r wm) → spm_X9_fewestGifts av w P → spm_X9_fewestGifts av w P' := by
  intro av w P P' hP h
  obtain ⟨h1, h2, h3, p0, s0, f1, f2, f3, f4, f5, f6, f7, u0, u1, u2, u3, u4, e1, e2, hu0, hQ9⟩ := h
  exact ⟨h1, h2, h3, p0, s0, f1, f2, f3, f4, f5, f6, f7, u0, u1, u2, u3, u4, e1, e2, hu0, fun r x1 x2 x3 x4 x5 => hP _ _ (hQ9 r x1 x2 x3 x4 x5)⟩
theorem mm_X9_fewestGifts (l : Launch) : q_M l yX9_fewestGifts cX9_fewestGifts 6 (some .int) 2 45 (fun av w Q => spm_X9_fewestGifts av w (fun r wm => wm.length = 4 → Q r (wm ++ w.drop 4))) := by
  refine q_M_mono (fun av w Q h => ?_) (m_X9_fewestGifts l)
  obtain ⟨h1, h2, h3, p0, s0, f1, f2, f3, f4, f5, f6, f7, u0, u1, u2, u3, u4, rfl, rfl, hu0, hQ9⟩ := h
  exact ⟨h1, h2, h3, p0, s0, f1, f2, f3, f4, f5, f6, f7, u0, u1, u2, u3, u4, rfl, rfl, hu0, fun r x1 x2 x3 x4 x5 => hQ9 r x1 x2 x3 x4 x5 rfl⟩

def spm_X5_plan : List qV → qW → (Option qV → qW → Prop) → Prop := fun av w Q => ∃ (c1 : Nat → Int) (m0 : Int) (n0 : Int) (f1 : Nat → Int) (f2 : Nat → Int) (f3 : Nat → Int) (f4 : Nat → Int) (f5 : Nat → Int) (f6 : Nat → Int) (f7 : Nat → Int) (u0 : Int) (u1 : Int) (u2 : Int) (u3 : Int) (u4 : Int) (a : Int), av = [q2 0, q2 2, q1 a] ∧ w = (wRo 0 c1 m0 n0 ++ wBo 2 f1 f2 f3 f4 f5 f6 f7 u0 u1 u2 u3 u4) ∧ (0 ≤ u0 ∧ u0 ≤ 8 ∧ 0 ≤ u3 ∧ u3 ≤ 6 ∧ 0 ≤ u4 ∧ u4 ≤ 6) ∧ (∀ (x1 : Nat → Int) (x2 : Int) (x3 : Int), Q none (wRo 0 x1 x2 x3))
theorem mq_X5_plan : ∀ (av : List qV) (w : qW) (P P' : Option qV → qW → Prop), (∀ r wm, P r wm → P' r wm) → spm_X5_plan av w P → spm_X5_plan av w P' := by
  intro av w P P' hP h
  obtain ⟨c1, m0, n0, f1, f2, f3, f4, f5, f6, f7, u0, u1, u2, u3, u4, a, e1, e2, hu0, hQ9⟩ := h
  exact ⟨c1, m0, n0, f1, f2, f3, f4, f5, f6, f7, u0, u1, u2, u3, u4, a, e1, e2, hu0, fun x1 x2 x3 => hP _ _ (hQ9 x1 x2 x3)⟩
theorem mm_X5_plan (l : Launch) : q_M l yX5_plan cX5_plan 6 none 3 68 (fun av w Q => spm_X5_plan av w (fun r wm => wm.length = 2 → Q r (wm ++ w.drop 2))) := by
  refine q_M_mono (fun av w Q h => ?_) (m_X5_plan l)
  obtain ⟨c1, m0, n0, f1, f2, f3, f4, f5, f6, f7, u0, u1, u2, u3, u4, a, rfl, rfl, hu0, hQ9⟩ := h
  exact ⟨c1, m0, n0, f1, f2, f3, f4, f5, f6, f7, u0, u1, u2, u3, u4, a, rfl, rfl, hu0, fun x1 x2 x3 => hQ9 x1 x2 x3 rfl⟩

def spm_X4_plan : List qV → qW → (Option qV → qW → Prop) → Prop := fun av w Q => ∃ (h1 : Nat → Int) (h2 : Nat → Int) (h3 : Nat → Int) (p4 : Int) (f1 : Nat → Int) (f2 : Nat → Int) (f3 : Nat → Int) (f4 : Nat → Int) (f5 : Nat → Int) (f6 : Nat → Int) (f7 : Nat → Int) (u0 : Int) (u1 : Int) (u2 : Int) (u3 : Int) (u4 : Int) (a : Int), av = [q2 0, q2 4, q1 a] ∧ w = (wZo 0 h1 h2 h3 p4 ++ wBo 4 f1 f2 f3 f4 f5 f6 f7 u0 u1 u2 u3 u4) ∧ (0 ≤ u0 ∧ u0 ≤ 8 ∧ 0 ≤ u3 ∧ u3 ≤ 6 ∧ 0 ≤ u4 ∧ u4 ≤ 6) ∧ (q_rg 0 2147483647 h2) ∧ (q_rg 0 8 h3) ∧ (0 ≤ a ∧ a ≤ 99) ∧ (∀ (x1 : Nat → Int) (x2 : Nat → Int) (x3 : Nat → Int) (x4 : Int), (bbP x1 ∧ q_rg 0 2147483647 x2 ∧ q_rg 0 8 x3) → Q none (wZo 0 x1 x2 x3 x4))
theorem mq_X4_plan : ∀ (av : List qV) (w : qW) (P P' : Option qV → qW → Prop), (∀ r wm, P r wm → P' r wm) → spm_X4_plan av w P → spm_X4_plan av w P' := by
  intro av w P P' hP h
  obtain ⟨h1, h2, h3, p4, f1, f2, f3, f4, f5, f6, f7, u0, u1, u2, u3, u4, a, e1, e2, hu0, hs, hg, ha, hQ9⟩ := h
  exact ⟨h1, h2, h3, p4, f1, f2, f3, f4, f5, f6, f7, u0, u1, u2, u3, u4, a, e1, e2, hu0, hs, hg, ha, fun x1 x2 x3 x4 hp9 => hP _ _ (hQ9 x1 x2 x3 x4 hp9)⟩
theorem mm_X4_plan (l : Launch) : q_M l yX4_plan cX4_plan 6 none 2 48 (fun av w Q => spm_X4_plan av w (fun r wm => wm.length = 4 → Q r (wm ++ w.drop 4))) := by
  refine q_M_mono (fun av w Q h => ?_) (m_X4_plan l)
  obtain ⟨h1, h2, h3, p4, f1, f2, f3, f4, f5, f6, f7, u0, u1, u2, u3, u4, a, rfl, rfl, hu0, hs, hg, ha, hQ9⟩ := h
  exact ⟨h1, h2, h3, p4, f1, f2, f3, f4, f5, f6, f7, u0, u1, u2, u3, u4, a, rfl, rfl, hu0, hs, hg, ha, fun x1 x2 x3 x4 hp9 => hQ9 x1 x2 x3 x4 hp9 rfl⟩

def spm_X4_raiseOf : List qV → qW → (Option qV → qW → Prop) → Prop := fun av w Q => ∃ (h1 : Nat → Int) (h2 : Nat → Int) (h3 : Nat → Int) (p4 : Int) (f1 : Nat → Int) (f2 : Nat → Int) (f3 : Nat → Int) (f4 : Nat → Int) (f5 : Nat → Int) (f6 : Nat → Int) (f7 : Nat → Int) (u0 : Int) (u1 : Int) (u2 : Int) (u3 : Int) (u4 : Int) (a : Int) (b : Int), av = [q2 0, q2 4, q1 a, q1 b] ∧ w = (wZo 0 h1 h2 h3 p4 ++ wBo 4 f1 f2 f3 f4 f5 f6 f7 u0 u1 u2 u3 u4) ∧ (0 ≤ u0 ∧ u0 ≤ 8 ∧ 0 ≤ u3 ∧ u3 ≤ 6 ∧ 0 ≤ u4 ∧ u4 ≤ 6) ∧ (q_rg 0 2147483647 h2) ∧ (q_rg 0 8 h3) ∧ (bbP h1) ∧ (0 ≤ a ∧ a ≤ 99) ∧ (∀ (r : Int) (x2 : Nat → Int) (x3 : Nat → Int) (x4 : Int), (q_rg 0 2147483647 x2 ∧ q_rg 0 8 x3) → Q (some (q1 r)) (wZo 0 h1 x2 x3 x4))
theorem mq_X4_raiseOf : ∀ (av : List qV) (w : qW) (P P' : Option qV → qW → Prop), (∀ r wm, P r wm → P' r wm) → spm_X4_raiseOf av w P → spm_X4_raiseOf av w P' := by
  intro av w P P' hP h
  obtain ⟨h1, h2, h3, p4, f1, f2, f3, f4, f5, f6, f7, u0, u1, u2, u3, u4, a, b, e1, e2, hu0, hs, hg, hb, ha, hQ9⟩ := h
  exact ⟨h1, h2, h3, p4, f1, f2, f3, f4, f5, f6, f7, u0, u1, u2, u3, u4, a, b, e1, e2, hu0, hs, hg, hb, ha, fun r x2 x3 x4 hp9 => hP _ _ (hQ9 r x2 x3 x4 hp9)⟩
theorem mm_X4_raiseOf (l : Launch) : q_M l yX4_raiseOf cX4_raiseOf 7 (some .int) 2 48 (fun av w Q => spm_X4_raiseOf av w (fun r wm => wm.length = 4 → Q r (wm ++ w.drop 4))) := by
  refine q_M_mono (fun av w Q h => ?_) (m_X4_raiseOf l)
  obtain ⟨h1, h2, h3, p4, f1, f2, f3, f4, f5, f6, f7, u0, u1, u2, u3, u4, a, b, rfl, rfl, hu0, hs, hg, hb, ha, hQ9⟩ := h
  exact ⟨h1, h2, h3, p4, f1, f2, f3, f4, f5, f6, f7, u0, u1, u2, u3, u4, a, b, rfl, rfl, hu0, hs, hg, hb, ha, fun r x2 x3 x4 hp9 => hQ9 r x2 x3 x4 hp9 rfl⟩

def spm_X1_couples : List qV → qW → (Option qV → qW → Prop) → Prop := fun av w Q => ∃ (c1 : Nat → Int) (c2 : Nat → Int) (c3 : Nat → Int) (f1 : Nat → Int) (f2 : Nat → Int) (f3 : Nat → Int) (f4 : Nat → Int) (f5 : Nat → Int) (f6 : Nat → Int) (f7 : Nat → Int) (u0 : Int) (u1 : Int) (u2 : Int) (u3 : Int) (u4 : Int) (a : Int), av = [q2 0, q2 4, q1 a] ∧ w = (wCo 0 c1 c2 c3 ++ wBo 4 f1 f2 f3 f4 f5 f6 f7 u0 u1 u2 u3 u4) ∧ (0 ≤ u0 ∧ u0 ≤ 8) ∧ (∀ (r : Int) (x1 : Nat → Int), Q (some (q1 r)) (wCo 0 x1 c2 c3))
theorem mq_X1_couples : ∀ (av : List qV) (w : qW) (P P' : Option qV → qW → Prop), (∀ r wm, P r wm → P' r wm) → spm_X1_couples av w P → spm_X1_couples av w P' := by
  intro av w P P' hP h
  obtain ⟨c1, c2, c3, f1, f2, f3, f4, f5, f6, f7, u0, u1, u2, u3, u4, a, e1, e2, hu0, hQ9⟩ := h
  exact ⟨c1, c2, c3, f1, f2, f3, f4, f5, f6, f7, u0, u1, u2, u3, u4, a, e1, e2, hu0, fun r x1 => hP _ _ (hQ9 r x1)⟩
theorem mm_X1_couples (l : Launch) : q_M l yX1_couples cX1_couples 6 (some .int) 1 23 (fun av w Q => spm_X1_couples av w (fun r wm => wm.length = 4 → Q r (wm ++ w.drop 4))) := by
  refine q_M_mono (fun av w Q h => ?_) (m_X1_couples l)
  obtain ⟨c1, c2, c3, f1, f2, f3, f4, f5, f6, f7, u0, u1, u2, u3, u4, a, rfl, rfl, hu0, hQ9⟩ := h
  exact ⟨c1, c2, c3, f1, f2, f3, f4, f5, f6, f7, u0, u1, u2, u3, u4, a, rfl, rfl, hu0, fun r x1 => hQ9 r x1 rfl⟩

def spm_X1_orders : List qV → qW → (Option qV → qW → Prop) → Prop := fun av w Q => ∃ (c1 : Nat → Int) (c2 : Nat → Int) (c3 : Nat → Int) (f1 : Nat → Int) (f2 : Nat → Int) (f3 : Nat → Int) (f4 : Nat → Int) (f5 : Nat → Int) (f6 : Nat → Int) (f7 : Nat → Int) (u0 : Int) (u1 : Int) (u2 : Int) (u3 : Int) (u4 : Int) (a : Int), av = [q2 0, q2 4, q1 a] ∧ w = (wCo 0 c1 c2 c3 ++ wBo 4 f1 f2 f3 f4 f5 f6 f7 u0 u1 u2 u3 u4) ∧ (0 ≤ u0 ∧ u0 ≤ 8) ∧ (∀ (r : Int) (x1 : Nat → Int) (x3 : Nat → Int), Q (some (q3 r)) (wCo 0 x1 c2 x3))
theorem mq_X1_orders : ∀ (av : List qV) (w : qW) (P P' : Option qV → qW → Prop), (∀ r wm, P r wm → P' r wm) → spm_X1_orders av w P → spm_X1_orders av w P' := by
  intro av w P P' hP h
  obtain ⟨c1, c2, c3, f1, f2, f3, f4, f5, f6, f7, u0, u1, u2, u3, u4, a, e1, e2, hu0, hQ9⟩ := h
  exact ⟨c1, c2, c3, f1, f2, f3, f4, f5, f6, f7, u0, u1, u2, u3, u4, a, e1, e2, hu0, fun r x1 x3 => hP _ _ (hQ9 r x1 x3)⟩
theorem mm_X1_orders (l : Launch) : q_M l yX1_orders cX1_orders 10 (some .long) 1 24 (fun av w Q => spm_X1_orders av w (fun r wm => wm.length = 4 → Q r (wm ++ w.drop 4))) := by
  refine q_M_mono (fun av w Q h => ?_) (m_X1_orders l)
  obtain ⟨c1, c2, c3, f1, f2, f3, f4, f5, f6, f7, u0, u1, u2, u3, u4, a, rfl, rfl, hu0, hQ9⟩ := h
  exact ⟨c1, c2, c3, f1, f2, f3, f4, f5, f6, f7, u0, u1, u2, u3, u4, a, rfl, rfl, hu0, fun r x1 x3 => hQ9 r x1 x3 rfl⟩

def spm_X1_highestHat : List qV → qW → (Option qV → qW → Prop) → Prop := fun av w Q => ∃ (c1 : Nat → Int) (c2 : Nat → Int) (c3 : Nat → Int) (f1 : Nat → Int) (f2 : Nat → Int) (f3 : Nat → Int) (f4 : Nat → Int) (f5 : Nat → Int) (f6 : Nat → Int) (f7 : Nat → Int) (u0 : Int) (u1 : Int) (u2 : Int) (u3 : Int) (u4 : Int), av = [q2 0, q2 4] ∧ w = (wCo 0 c1 c2 c3 ++ wBo 4 f1 f2 f3 f4 f5 f6 f7 u0 u1 u2 u3 u4) ∧ (0 ≤ u0 ∧ u0 ≤ 8) ∧ (∀ (r : Int) (x1 : Nat → Int), Q (some (q1 r)) (wCo 0 x1 c2 c3))
theorem mq_X1_highestHat : ∀ (av : List qV) (w : qW) (P P' : Option qV → qW → Prop), (∀ r wm, P r wm → P' r wm) → spm_X1_highestHat av w P → spm_X1_highestHat av w P' := by
  intro av w P P' hP h
  obtain ⟨c1, c2, c3, f1, f2, f3, f4, f5, f6, f7, u0, u1, u2, u3, u4, e1, e2, hu0, hQ9⟩ := h
  exact ⟨c1, c2, c3, f1, f2, f3, f4, f5, f6, f7, u0, u1, u2, u3, u4, e1, e2, hu0, fun r x1 => hP _ _ (hQ9 r x1)⟩
theorem mm_X1_highestHat (l : Launch) : q_M l yX1_highestHat cX1_highestHat 4 (some .int) 1 23 (fun av w Q => spm_X1_highestHat av w (fun r wm => wm.length = 4 → Q r (wm ++ w.drop 4))) := by
  refine q_M_mono (fun av w Q h => ?_) (m_X1_highestHat l)
  obtain ⟨c1, c2, c3, f1, f2, f3, f4, f5, f6, f7, u0, u1, u2, u3, u4, rfl, rfl, hu0, hQ9⟩ := h
  exact ⟨c1, c2, c3, f1, f2, f3, f4, f5, f6, f7, u0, u1, u2, u3, u4, rfl, rfl, hu0, fun r x1 => hQ9 r x1 rfl⟩

def spm_X1_hatInches : List qV → qW → (Option qV → qW → Prop) → Prop := fun av w Q => ∃ (c1 : Nat → Int) (c2 : Nat → Int) (c3 : Nat → Int) (f1 : Nat → Int) (f2 : Nat → Int) (f3 : Nat → Int) (f4 : Nat → Int) (f5 : Nat → Int) (f6 : Nat → Int) (f7 : Nat → Int) (u0 : Int) (u1 : Int) (u2 : Int) (u3 : Int) (u4 : Int), av = [q2 0, q2 4] ∧ w = (wCo 0 c1 c2 c3 ++ wBo 4 f1 f2 f3 f4 f5 f6 f7 u0 u1 u2 u3 u4) ∧ (0 ≤ u0 ∧ u0 ≤ 8) ∧ (∀ (r : Int) (x1 : Nat → Int), Q (some (q1 r)) (wCo 0 x1 c2 c3))
theorem mq_X1_hatInches : ∀ (av : List qV) (w : qW) (P P' : Option qV → qW → Prop), (∀ r wm, P r wm → P' r wm) → spm_X1_hatInches av w P → spm_X1_hatInches av w P' := by
  intro av w P P' hP h
  obtain ⟨c1, c2, c3, f1, f2, f3, f4, f5, f6, f7, u0, u1, u2, u3, u4, e1, e2, hu0, hQ9⟩ := h
  exact ⟨c1, c2, c3, f1, f2, f3, f4, f5, f6, f7, u0, u1, u2, u3, u4, e1, e2, hu0, fun r x1 => hP _ _ (hQ9 r x1)⟩
theorem mm_X1_hatInches (l : Launch) : q_M l yX1_hatInches cX1_hatInches 5 (some .int) 1 23 (fun av w Q => spm_X1_hatInches av w (fun r wm => wm.length = 4 → Q r (wm ++ w.drop 4))) := by
  refine q_M_mono (fun av w Q h => ?_) (m_X1_hatInches l)
  obtain ⟨c1, c2, c3, f1, f2, f3, f4, f5, f6, f7, u0, u1, u2, u3, u4, rfl, rfl, hu0, hQ9⟩ := h
  exact ⟨c1, c2, c3, f1, f2, f3, f4, f5, f6, f7, u0, u1, u2, u3, u4, rfl, rfl, hu0, fun r x1 => hQ9 r x1 rfl⟩

def spm_X1_team : List qV → qW → (Option qV → qW → Prop) → Prop := fun av w Q => ∃ (c1 : Nat → Int) (c2 : Nat → Int) (c3 : Nat → Int) (f1 : Nat → Int) (f2 : Nat → Int) (f3 : Nat → Int) (f4 : Nat → Int) (f5 : Nat → Int) (f6 : Nat → Int) (f7 : Nat → Int) (u0 : Int) (u1 : Int) (u2 : Int) (u3 : Int) (u4 : Int), av = [q2 0, q2 4] ∧ w = (wCo 0 c1 c2 c3 ++ wBo 4 f1 f2 f3 f4 f5 f6 f7 u0 u1 u2 u3 u4) ∧ (0 ≤ u0 ∧ u0 ≤ 8) ∧ (∀ (r : Int) (x2 : Nat → Int), Q (some (q1 r)) (wCo 0 c1 x2 c3))
theorem mq_X1_team : ∀ (av : List qV) (w : qW) (P P' : Option qV → qW → Prop), (∀ r wm, P r wm → P' r wm) → spm_X1_team av w P → spm_X1_team av w P' := by
  intro av w P P' hP h
  obtain ⟨c1, c2, c3, f1, f2, f3, f4, f5, f6, f7, u0, u1, u2, u3, u4, e1, e2, hu0, hQ9⟩ := h
  exact ⟨c1, c2, c3, f1, f2, f3, f4, f5, f6, f7, u0, u1, u2, u3, u4, e1, e2, hu0, fun r x2 => hP _ _ (hQ9 r x2)⟩
theorem mm_X1_team (l : Launch) : q_M l yX1_team cX1_team 5 (some .int) 2 44 (fun av w Q => spm_X1_team av w (fun r wm => wm.length = 4 → Q r (wm ++ w.drop 4))) := by
  refine q_M_mono (fun av w Q h => ?_) (m_X1_team l)
  obtain ⟨c1, c2, c3, f1, f2, f3, f4, f5, f6, f7, u0, u1, u2, u3, u4, rfl, rfl, hu0, hQ9⟩ := h
  exact ⟨c1, c2, c3, f1, f2, f3, f4, f5, f6, f7, u0, u1, u2, u3, u4, rfl, rfl, hu0, fun r x2 => hQ9 r x2 rfl⟩

def spm_X1_fewest : List qV → qW → (Option qV → qW → Prop) → Prop := fun av w Q => ∃ (c1 : Nat → Int) (c2 : Nat → Int) (c3 : Nat → Int) (fw : Nat → Int) (a : Int) (b : Int), av = [q2 0, q2 4, q1 a, q1 b] ∧ w = (wCo 0 c1 c2 c3 ++ [.inl (0, 8, .inl fw)]) ∧ (0 ≤ a ∧ a ≤ 8) ∧ (∀ (r : Int) (x2 : Nat → Int), Q (some (q1 r)) (wCo 0 c1 x2 c3))
theorem mq_X1_fewest : ∀ (av : List qV) (w : qW) (P P' : Option qV → qW → Prop), (∀ r wm, P r wm → P' r wm) → spm_X1_fewest av w P → spm_X1_fewest av w P' := by
  intro av w P P' hP h
  obtain ⟨c1, c2, c3, fw, a, b, e1, e2, ha, hQ9⟩ := h
  exact ⟨c1, c2, c3, fw, a, b, e1, e2, ha, fun r x2 => hP _ _ (hQ9 r x2)⟩
theorem mm_X1_fewest (l : Launch) : q_M l yX1_fewest cX1_fewest 6 (some .int) 1 24 (fun av w Q => spm_X1_fewest av w (fun r wm => wm.length = 4 → Q r (wm ++ w.drop 4))) := by
  refine q_M_mono (fun av w Q h => ?_) (m_X1_fewest l)
  obtain ⟨c1, c2, c3, fw, a, b, rfl, rfl, ha, hQ9⟩ := h
  exact ⟨c1, c2, c3, fw, a, b, rfl, rfl, ha, fun r x2 => hQ9 r x2 rfl⟩

def spm_X1_exactWays : List qV → qW → (Option qV → qW → Prop) → Prop := fun av w Q => ∃ (c1 : Nat → Int) (c2 : Nat → Int) (c3 : Nat → Int) (g1 : Nat → Int) (o1 : Int), av = [q2 0, q2 4] ∧ w = (wCo 0 c1 c2 c3 ++ wLo 4 g1 o1) ∧ (∀ (r : Int) (x2 : Nat → Int), Q (some (q1 r)) (wCo 0 c1 x2 c3))
theorem mq_X1_exactWays : ∀ (av : List qV) (w : qW) (P P' : Option qV → qW → Prop), (∀ r wm, P r wm → P' r wm) → spm_X1_exactWays av w P → spm_X1_exactWays av w P' := by
  intro av w P P' hP h
  obtain ⟨c1, c2, c3, g1, o1, e1, e2, hQ9⟩ := h
  exact ⟨c1, c2, c3, g1, o1, e1, e2, fun r x2 => hP _ _ (hQ9 r x2)⟩
theorem mm_X1_exactWays (l : Launch) : q_M l yX1_exactWays cX1_exactWays 4 (some .int) 1 24 (fun av w Q => spm_X1_exactWays av w (fun r wm => wm.length = 4 → Q r (wm ++ w.drop 4))) := by
  refine q_M_mono (fun av w Q h => ?_) (m_X1_exactWays l)
  obtain ⟨c1, c2, c3, g1, o1, rfl, rfl, hQ9⟩ := h
  exact ⟨c1, c2, c3, g1, o1, rfl, rfl, fun r x2 => hQ9 r x2 rfl⟩

def spm_X1_firstExact : List qV → qW → (Option qV → qW → Prop) → Prop := fun av w Q => ∃ (c1 : Nat → Int) (c2 : Nat → Int) (c3 : Nat → Int) (g1 : Nat → Int) (o1 : Int), av = [q2 0, q2 4] ∧ w = (wCo 0 c1 c2 c3 ++ wLo 4 g1 o1) ∧ (∀ (r : Int) (x2 : Nat → Int), Q (some (q1 r)) (wCo 0 c1 x2 c3))
theorem mq_X1_firstExact : ∀ (av : List qV) (w : qW) (P P' : Option qV → qW → Prop), (∀ r wm, P r wm → P' r wm) → spm_X1_firstExact av w P → spm_X1_firstExact av w P' := by
  intro av w P P' hP h
  obtain ⟨c1, c2, c3, g1, o1, e1, e2, hQ9⟩ := h
  exact ⟨c1, c2, c3, g1, o1, e1, e2, fun r x2 => hP _ _ (hQ9 r x2)⟩
theorem mm_X1_firstExact (l : Launch) : q_M l yX1_firstExact cX1_firstExact 4 (some .int) 1 24 (fun av w Q => spm_X1_firstExact av w (fun r wm => wm.length = 4 → Q r (wm ++ w.drop 4))) := by
  refine q_M_mono (fun av w Q h => ?_) (m_X1_firstExact l)
  obtain ⟨c1, c2, c3, g1, o1, rfl, rfl, hQ9⟩ := h
  exact ⟨c1, c2, c3, g1, o1, rfl, rfl, fun r x2 => hQ9 r x2 rfl⟩

def spm_X2_ways : List qV → qW → (Option qV → qW → Prop) → Prop := fun av w Q => ∃ (o1 : Nat → Int) (a1 : Nat → Int) (m1 : Nat → Int) (s1 : Nat → Int) (g0 : Int) (a : Int), av = [q2 0, q1 a] ∧ w = (wGo 0 o1 a1 m1 s1 g0) ∧ (0 ≤ g0 ∧ g0 ≤ 8) ∧ (∀ (r : Int) (x3 : Nat → Int), Q (some (q3 r)) (wGo 0 o1 a1 x3 s1 g0))
theorem mq_X2_ways : ∀ (av : List qV) (w : qW) (P P' : Option qV → qW → Prop), (∀ r wm, P r wm → P' r wm) → spm_X2_ways av w P → spm_X2_ways av w P' := by
  intro av w P P' hP h
  obtain ⟨o1, a1, m1, s1, g0, a, e1, e2, hg0, hQ9⟩ := h
  exact ⟨o1, a1, m1, s1, g0, a, e1, e2, hg0, fun r x3 => hP _ _ (hQ9 r x3)⟩
theorem mm_X2_ways (l : Launch) : q_M l yX2_ways cX2_ways 2 (some .long) 2 50 (fun av w Q => spm_X2_ways av w (fun r wm => wm.length = 5 → Q r (wm ++ w.drop 5))) := by
  refine q_M_mono (fun av w Q h => ?_) (m_X2_ways l)
  obtain ⟨o1, a1, m1, s1, g0, a, rfl, rfl, hg0, hQ9⟩ := h
  exact ⟨o1, a1, m1, s1, g0, a, rfl, rfl, hg0, fun r x3 => hQ9 r x3 rfl⟩

def spm_X2_didJust : List qV → qW → (Option qV → qW → Prop) → Prop := fun av w Q => ∃ (o1 : Nat → Int) (a1 : Nat → Int) (m1 : Nat → Int) (s1 : Nat → Int) (g0 : Int) (a : Int) (b : Int) (q : Int), av = [q2 0, q1 a, q1 b, q1 q] ∧ w = (wGo 0 o1 a1 m1 s1 g0) ∧ (0 ≤ g0 ∧ g0 ≤ 8) ∧ (∀ (r : Int) (x3 : Nat → Int), Q (some (q3 r)) (wGo 0 o1 a1 x3 s1 g0))
theorem mq_X2_didJust : ∀ (av : List qV) (w : qW) (P P' : Option qV → qW → Prop), (∀ r wm, P r wm → P' r wm) → spm_X2_didJust av w P → spm_X2_didJust av w P' := by
  intro av w P P' hP h
  obtain ⟨o1, a1, m1, s1, g0, a, b, q, e1, e2, hg0, hQ9⟩ := h
  exact ⟨o1, a1, m1, s1, g0, a, b, q, e1, e2, hg0, fun r x3 => hP _ _ (hQ9 r x3)⟩
theorem mm_X2_didJust (l : Launch) : q_M l yX2_didJust cX2_didJust 4 (some .long) 2 50 (fun av w Q => spm_X2_didJust av w (fun r wm => wm.length = 5 → Q r (wm ++ w.drop 5))) := by
  refine q_M_mono (fun av w Q h => ?_) (m_X2_didJust l)
  obtain ⟨o1, a1, m1, s1, g0, a, b, q, rfl, rfl, hg0, hQ9⟩ := h
  exact ⟨o1, a1, m1, s1, g0, a, b, q, rfl, rfl, hg0, fun r x3 => hQ9 r x3 rfl⟩

def spm_X2_surely : List qV → qW → (Option qV → qW → Prop) → Prop := fun av w Q => ∃ (o1 : Nat → Int) (a1 : Nat → Int) (m1 : Nat → Int) (s1 : Nat → Int) (g0 : Int) (a : Int) (b : Int), av = [q2 0, q1 a, q1 b] ∧ w = (wGo 0 o1 a1 m1 s1 g0) ∧ (0 ≤ g0 ∧ g0 ≤ 8) ∧ (0 ≤ b ∧ b ≤ 8) ∧ (∀ (r : Int) (x3 : Nat → Int), Q (some (q1 r)) (wGo 0 o1 a1 x3 s1 g0))
theorem mq_X2_surely : ∀ (av : List qV) (w : qW) (P P' : Option qV → qW → Prop), (∀ r wm, P r wm → P' r wm) → spm_X2_surely av w P → spm_X2_surely av w P' := by
  intro av w P P' hP h
  obtain ⟨o1, a1, m1, s1, g0, a, b, e1, e2, hg0, hb, hQ9⟩ := h
  exact ⟨o1, a1, m1, s1, g0, a, b, e1, e2, hg0, hb, fun r x3 => hP _ _ (hQ9 r x3)⟩
theorem mm_X2_surely (l : Launch) : q_M l yX2_surely cX2_surely 6 (some .int) 3 71 (fun av w Q => spm_X2_surely av w (fun r wm => wm.length = 5 → Q r (wm ++ w.drop 5))) := by
  refine q_M_mono (fun av w Q h => ?_) (m_X2_surely l)
  obtain ⟨o1, a1, m1, s1, g0, a, b, rfl, rfl, hg0, hb, hQ9⟩ := h
  exact ⟨o1, a1, m1, s1, g0, a, b, rfl, rfl, hg0, hb, fun r x3 => hQ9 r x3 rfl⟩

def spm_X2_whomToAsk : List qV → qW → (Option qV → qW → Prop) → Prop := fun av w Q => ∃ (o1 : Nat → Int) (a1 : Nat → Int) (m1 : Nat → Int) (s1 : Nat → Int) (g0 : Int) (a : Int), av = [q2 0, q1 a] ∧ w = (wGo 0 o1 a1 m1 s1 g0) ∧ (0 ≤ g0 ∧ g0 ≤ 8) ∧ (0 ≤ a ∧ a ≤ 8) ∧ (∀ (r : Int) (x3 : Nat → Int), Q (some (q1 r)) (wGo 0 o1 a1 x3 s1 g0))
theorem mq_X2_whomToAsk : ∀ (av : List qV) (w : qW) (P P' : Option qV → qW → Prop), (∀ r wm, P r wm → P' r wm) → spm_X2_whomToAsk av w P → spm_X2_whomToAsk av w P' := by
  intro av w P P' hP h
  obtain ⟨o1, a1, m1, s1, g0, a, e1, e2, hg0, ha, hQ9⟩ := h
  exact ⟨o1, a1, m1, s1, g0, a, e1, e2, hg0, ha, fun r x3 => hP _ _ (hQ9 r x3)⟩
theorem mm_X2_whomToAsk (l : Launch) : q_M l yX2_whomToAsk cX2_whomToAsk 8 (some .int) 3 75 (fun av w Q => spm_X2_whomToAsk av w (fun r wm => wm.length = 5 → Q r (wm ++ w.drop 5))) := by
  refine q_M_mono (fun av w Q h => ?_) (m_X2_whomToAsk l)
  obtain ⟨o1, a1, m1, s1, g0, a, rfl, rfl, hg0, ha, hQ9⟩ := h
  exact ⟨o1, a1, m1, s1, g0, a, rfl, rfl, hg0, ha, fun r x3 => hQ9 r x3 rfl⟩

def spm_X2_open : List qV → qW → (Option qV → qW → Prop) → Prop := fun av w Q => ∃ (o1 : Nat → Int) (a1 : Nat → Int) (m1 : Nat → Int) (s1 : Nat → Int) (g0 : Int) (f1 : Nat → Int) (f2 : Nat → Int) (f3 : Nat → Int) (f4 : Nat → Int) (f5 : Nat → Int) (f6 : Nat → Int) (f7 : Nat → Int) (u0 : Int) (u1 : Int) (u2 : Int) (u3 : Int) (u4 : Int) (p1 : Nat → Int) (p2 : Nat → Int) (c1 : Int), av = [q2 0, q2 5, q2 13] ∧ w = (wGo 0 o1 a1 m1 s1 g0 ++ wBo 5 f1 f2 f3 f4 f5 f6 f7 u0 u1 u2 u3 u4 ++ wSo 13 p1 p2 c1) ∧ (0 ≤ u0 ∧ u0 ≤ 8) ∧ (0 ≤ c1 ∧ c1 ≤ 10) ∧ (q_rg 0 9 f3) ∧ (∀ (r : Int) (x1 : Nat → Int) (x2 : Nat → Int) (x4 : Nat → Int) (x5 : Int), ((r = 0 ∨ r = 1) ∧ 0 ≤ x5 ∧ x5 ≤ 8) → Q (some (q1 r)) (wGo 0 x1 x2 m1 x4 x5))
theorem mq_X2_open : ∀ (av : List qV) (w : qW) (P P' : Option qV → qW → Prop), (∀ r wm, P r wm → P' r wm) → spm_X2_open av w P → spm_X2_open av w P' := by
  intro av w P P' hP h
  obtain ⟨o1, a1, m1, s1, g0, f1, f2, f3, f4, f5, f6, f7, u0, u1, u2, u3, u4, p1, p2, c1, e1, e2, hu0, hc, hf, hQ9⟩ := h
  exact ⟨o1, a1, m1, s1, g0, f1, f2, f3, f4, f5, f6, f7, u0, u1, u2, u3, u4, p1, p2, c1, e1, e2, hu0, hc, hf, fun r x1 x2 x4 x5 hp9 => hP _ _ (hQ9 r x1 x2 x4 x5 hp9)⟩
theorem mm_X2_open (l : Launch) : q_M l yX2_open cX2_open 5 (some .boolean) 2 49 (fun av w Q => spm_X2_open av w (fun r wm => wm.length = 5 → Q r (wm ++ w.drop 5))) := by
  refine q_M_mono (fun av w Q h => ?_) (m_X2_open l)
  obtain ⟨o1, a1, m1, s1, g0, f1, f2, f3, f4, f5, f6, f7, u0, u1, u2, u3, u4, p1, p2, c1, rfl, rfl, hu0, hc, hf, hQ9⟩ := h
  exact ⟨o1, a1, m1, s1, g0, f1, f2, f3, f4, f5, f6, f7, u0, u1, u2, u3, u4, p1, p2, c1, rfl, rfl, hu0, hc, hf, fun r x1 x2 x4 x5 hp9 => hQ9 r x1 x2 x4 x5 hp9 rfl⟩
