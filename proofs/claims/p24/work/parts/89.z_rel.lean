/-! ===== what the two sides have in common ===== -/
def rowD (F : Nat → Nat → Int) (m b : Nat) : Nat → Int := fun j => F m (b + j)
/-- the texts of one kind: as many as there are, each block as the reference's row has it -/
def KCl (C : (Nat → Nat → Int) → (Nat → Nat → Int) → Nat → (Nat → Int) → Prop) (m W c p0 st : Nat) (F U : Nat → Nat → Int) (o i : Nat) : Prop := ∀ k : Nat, k < 2 → (k : Int) < F 90 (4 * i + c) → C F U (o + p0 + st * k) (rowD F m (2 * W * i + W * k))
def RBh (F U : Nat → Nat → Int) (o i : Nat) : Prop := (U o 0 = F 87 i ∧ U o 1 = F 88 i ∧ U o 2 = F 89 i) ∧ (∀ j : Nat, j < 600 → F (o + 1) j = F 86 (600 * i + j)) ∧ (∀ s : Nat, s < 4 → F (o + 2) s = F 90 (4 * i + s))
def RBc (F U : Nat → Nat → Int) (o i : Nat) : Prop := KCl CBp 91 75 0 7 8 F U o i ∧ KCl CYp 92 161 1 23 5 F U o i ∧ KCl CLp 93 9 2 33 2 F U o i ∧ KCl CSp 94 21 3 37 3 F U o i
/-- the block of all that is told at o is as the reference's rows i -/
def RB (F U : Nat → Nat → Int) (o i : Nat) : Prop := RBh F U o i ∧ RBc F U o i
def EqM (F : Nat → Nat → Int) (i : Nat) (F' : Nat → Nat → Int) (i' : Nat) : Prop := (F' 87 i' = F 87 i ∧ F' 88 i' = F 88 i ∧ F' 89 i' = F 89 i) ∧ (∀ j : Nat, j < 600 → F' 86 (600 * i' + j) = F 86 (600 * i + j)) ∧ (∀ s : Nat, s < 4 → F' 90 (4 * i' + s) = F 90 (4 * i + s)) ∧ (∀ j : Nat, j < 150 → F' 91 (150 * i' + j) = F 91 (150 * i + j)) ∧ (∀ j : Nat, j < 322 → F' 92 (322 * i' + j) = F 92 (322 * i + j)) ∧ (∀ j : Nat, j < 18 → F' 93 (18 * i' + j) = F 93 (18 * i + j)) ∧ (∀ j : Nat, j < 42 → F' 94 (42 * i' + j) = F 94 (42 * i + j))
theorem CB_D {f1 f2 f3 f4 f5 f6 f7 D D' : Nat → Int} {u0 u1 u2 u3 u4 : Int} (h : CB f1 f2 f3 f4 f5 f6 f7 u0 u1 u2 u3 u4 D) (e : ∀ j : Nat, j < 75 → D' j = D j) : CB f1 f2 f3 f4 f5 f6 f7 u0 u1 u2 u3 u4 D' := by
  obtain ⟨⟨a0, a1, a2, a3, a4⟩, b1, b2, b3, b4, b5, b6, b7⟩ := h
  exact ⟨⟨by rw [e 0 (by decide)]; exact a0, by rw [e 1 (by decide)]; exact a1, by rw [e 2 (by decide)]; exact a2, by rw [e 3 (by decide)]; exact a3, by rw [e 4 (by decide)]; exact a4⟩, fun i hi => by rw [e _ (by omega)]; exact b1 i hi, fun i hi => by rw [e _ (by omega)]; exact b2 i hi, fun i hi => by rw [e _ (by omega)]; exact b3 i hi, fun i hi => by rw [e _ (by omega)]; exact b4 i hi, fun i hi => by rw [e _ (by omega)]; exact b5 i hi, fun i hi => by rw [e _ (by omega)]; exact b6 i hi, fun i hi => by rw [e _ (by omega)]; exact b7 i hi⟩
theorem CY_D {k1 k2 k3 k4 D D' : Nat → Int} {d : Int} (h : CY k1 k2 k3 k4 d D) (h40 : d ≤ 40) (e : ∀ j : Nat, j < 161 → D' j = D j) : CY k1 k2 k3 k4 d D' := by
  obtain ⟨a, b⟩ := h
  refine ⟨by rw [e 0 (by decide)]; exact a, fun i hi => ?_⟩
  rw [e 0 (by decide)] at hi
  obtain ⟨b1, b2, b3, b4⟩ := b i hi
  exact ⟨by rw [e _ (by omega)]; exact b1, by rw [e _ (by omega)]; exact b2, by rw [e _ (by omega)]; exact b3, by rw [e _ (by omega)]; exact b4⟩
theorem CL_D {g D D' : Nat → Int} {o : Int} (h : CL g o D) (e : ∀ j : Nat, j < 9 → D' j = D j) : CL g o D' := ⟨by rw [e 8 (by decide)]; exact h.1, fun i hi => by rw [e i (by omega)]; exact h.2 i hi⟩
theorem CS_D {p q D D' : Nat → Int} {c : Int} (h : CS p q c D) (h10 : c ≤ 10) (e : ∀ j : Nat, j < 21 → D' j = D j) : CS p q c D' := by
  obtain ⟨a, b⟩ := h
  refine ⟨by rw [e 0 (by decide)]; exact a, fun i hi => ?_⟩
  rw [e 0 (by decide)] at hi
  obtain ⟨b1, b2⟩ := b i hi
  exact ⟨by rw [e _ (by omega)]; exact b1, by rw [e _ (by omega)]; exact b2⟩
/-- a kind's predicate looks at its own places, and at W numbers -/
def GdC (C : (Nat → Nat → Int) → (Nat → Nat → Int) → Nat → (Nat → Int) → Prop) (W st : Nat) : Prop := (∀ (F U F' U' : Nat → Nat → Int) (p : Nat) (D : Nat → Int), C F U p D → (∀ q : Nat, p ≤ q → q < p + st → F' q = F q ∧ U' q = U q) → C F' U' p D) ∧ (∀ (F U : Nat → Nat → Int) (p : Nat) (D D' : Nat → Int), C F U p D → (∀ j : Nat, j < W → D' j = D j) → C F U p D')
theorem gd_B : GdC CBp 75 8 := ⟨fun F U F' U' p D h e => CB_FU h (fun j hj => (e _ (by omega) (by omega)).1) (e p (Nat.le_refl p) (by omega)).2, fun F U p D D' h e => CB_D h e⟩
theorem gd_Y : GdC CYp 161 5 := ⟨fun F U F' U' p D h e => CY_FU h (fun j hj => (e _ (by omega) (by omega)).1) (e p (Nat.le_refl p) (by omega)).2, fun F U p D D' h e => ⟨CY_D h.1 h.2 e, h.2⟩⟩
theorem gd_L : GdC CLp 9 2 := ⟨fun F U F' U' p D h e => CL_FU h (fun j hj => (e _ (by omega) (by omega)).1) (e p (Nat.le_refl p) (by omega)).2, fun F U p D D' h e => CL_D h e⟩
theorem gd_S : GdC CSp 21 3 := ⟨fun F U F' U' p D h e => CS_FU h (fun j hj => (e _ (by omega) (by omega)).1) (e p (Nat.le_refl p) (by omega)).2, fun F U p D D' h e => ⟨CS_D h.1 h.2 e, h.2⟩⟩
/-- nothing of that kind has changed -/
theorem KCl_k {C : (Nat → Nat → Int) → (Nat → Nat → Int) → Nat → (Nat → Int) → Prop} {m W c p0 st o i : Nat} {F U F' U' : Nat → Nat → Int} (g : GdC C W st) (h : KCl C m W c p0 st F U o i) (hq : ∀ q : Nat, o + p0 ≤ q → q < o + p0 + 2 * st → F' q = F q ∧ U' q = U q) (hm : F' m = F m) (h9 : ∀ k : Nat, k < 2 → (k : Int) < F' 90 (4 * i + c) → (k : Int) < F 90 (4 * i + c)) : KCl C m W c p0 st F' U' o i := by
  intro k hk hc
  have h1 := h k hk (h9 k hk hc)
  have e : rowD F' m (2 * W * i + W * k) = rowD F m (2 * W * i + W * k) := by unfold rowD; rw [hm]
  rw [e]
  refine g.1 _ _ _ _ _ _ h1 (fun q h2 h3 => hq q ?_ ?_)
  · rcases (show k = 0 ∨ k = 1 by omega) with rfl | rfl <;> omega
  · rcases (show k = 0 ∨ k = 1 by omega) with rfl | rfl <;> omega
/-- number k of that kind is told anew -/
theorem KCl_s {C : (Nat → Nat → Int) → (Nat → Nat → Int) → Nat → (Nat → Int) → Prop} {m W c p0 st k : Nat} {F U F' U' : Nat → Nat → Int} {D : Nat → Int} (g : GdC C W st) (h : KCl C m W c p0 st F U 1 0) (hk : k ≤ 1) (hC : C F' U' (1 + p0 + st * k) D) (ho : ∀ q : Nat, 1 + p0 ≤ q → q < 1 + p0 + 2 * st → ¬ (1 + p0 + st * k ≤ q ∧ q < 1 + p0 + st * k + st) → F' q = F q ∧ U' q = U q) (hs : stR W D (F m) (F' m) k) (h9 : ∀ q : Nat, q < 2 → ¬ q = k → (q : Int) < F' 90 (4 * 0 + c) → (q : Int) < F 90 (4 * 0 + c)) : KCl C m W c p0 st F' U' 1 0 := by
  intro q hq hc
  by_cases e : q = k
  · subst e
    refine g.2 _ _ _ _ _ hC (fun j hj => ?_)
    show F' m (2 * W * 0 + W * q + j) = D j
    rw [hs]
    rw [show 2 * W * 0 + W * q + j = W * q + j by omega]
    have e1 : ((W : Nat) : Int) * ((q : Nat) : Int) = ((W * q : Nat) : Int) := by rw [Int.natCast_mul]
    rw [e1, if_pos (by omega)]
    congr 1
    omega
  · have h1 := h q hq (h9 q hq e hc)
    have h2 : C F' U' (1 + p0 + st * q) (rowD F m (2 * W * 0 + W * q)) := g.1 _ _ _ _ _ _ h1 (fun x h2 h3 => ho x (by
      rcases (show q = 0 ∨ q = 1 by omega) with rfl | rfl <;> omega) (by
      rcases (show q = 0 ∨ q = 1 by omega) with rfl | rfl <;> omega) (by
      rcases (show (q = 0 ∧ k = 1) ∨ (q = 1 ∧ k = 0) by omega) with ⟨rfl, rfl⟩ | ⟨rfl, rfl⟩ <;> omega))
    refine g.2 _ _ _ _ _ h2 (fun j hj => ?_)
    show F' m (2 * W * 0 + W * q + j) = F m (2 * W * 0 + W * q + j)
    rw [hs]
    have e1 : ((W : Nat) : Int) * ((k : Nat) : Int) = ((W * k : Nat) : Int) := by rw [Int.natCast_mul]
    rw [e1, if_neg (by
      rcases (show (q = 0 ∧ k = 1) ∨ (q = 1 ∧ k = 0) by omega) with ⟨rfl, rfl⟩ | ⟨rfl, rfl⟩ <;> omega)]
theorem EqC_of {F U F' U' : Nat → Nat → Int} {o : Nat} (h : ∀ q : Nat, o ≤ q → q ≤ o + 42 → F' q = F q ∧ U' q = U q) : EqC F U o F' U' o := by
  have hU := (h o (Nat.le_refl o) (by omega)).2
  have hb : ∀ k : Nat, k ≤ 1 → BkC k F U o F' U' o := fun k hk => ⟨⟨fun j hj i _ => by rw [(h _ (by omega) (by omega)).1], fun i _ => by rw [(h _ (by omega) (by omega)).2]⟩, ⟨fun j hj i _ => by rw [(h _ (by omega) (by omega)).1], fun i _ => by rw [(h _ (by omega) (by omega)).2]⟩, ⟨fun j hj i _ => by rw [(h _ (by omega) (by omega)).1], fun i _ => by rw [(h _ (by omega) (by omega)).2]⟩, ⟨fun j hj i _ => by rw [(h _ (by omega) (by omega)).1], fun i _ => by rw [(h _ (by omega) (by omega)).2]⟩⟩
  exact ⟨⟨by rw [hU], by rw [hU], by rw [hU]⟩, fun j _ => by rw [(h _ (by omega) (by omega)).1], fun j _ => by rw [(h _ (by omega) (by omega)).1], hb 0 (by decide), hb 1 (by decide)⟩
theorem EqC_g {F U F1 U1 F2 U2 : Nat → Nat → Int} {o o' : Nat} (h : EqC F U o F1 U1 o') (e : ∀ q : Nat, o' ≤ q → q ≤ o' + 42 → F2 q = F1 q ∧ U2 q = U1 q) : EqC F U o F2 U2 o' := by
  obtain ⟨⟨a, b, c⟩, d, f, g, i⟩ := h
  have hU := (e o' (Nat.le_refl o') (by omega)).2
  exact ⟨⟨by rw [hU]; exact a, by rw [hU]; exact b, by rw [hU]; exact c⟩, fun j hj => by rw [(e _ (by omega) (by omega)).1]; exact d j hj, fun j hj => by rw [(e _ (by omega) (by omega)).1]; exact f j hj, BkC_t g (fun q hq => e q (by omega) (by omega)), BkC_t i (fun q hq => e q (by omega) (by omega))⟩
theorem RB_tr {F U F' U' : Nat → Nat → Int} {o o' i i' : Nat} (hC : EqC F U o F' U' o') (hM : EqM F i F' i') (h : RB F U o i) : RB F' U' o' i' := by
  obtain ⟨⟨⟨x0, x1, x2⟩, xt, xc⟩, kB, kY, kL, kS⟩ := h
  obtain ⟨⟨y0, y1, y2⟩, yt, yc, b0, b1⟩ := hC
  obtain ⟨⟨m0, m1, m2⟩, mt, mc, mB, mY, mL, mS⟩ := hM
  have hb : ∀ k : Nat, k < 2 → BkC k F U o F' U' o' := fun k hk => by
    rcases (show k = 0 ∨ k = 1 by omega) with rfl | rfl
    · exact b0
    · exact b1
  refine ⟨⟨⟨by rw [y0, m0]; exact x0, by rw [y1, m1]; exact x1, by rw [y2, m2]; exact x2⟩, fun j hj => by rw [yt j hj, mt j hj]; exact xt j hj, fun s hs => by rw [yc s hs, mc s hs]; exact xc s hs⟩, fun k hk hc => ?_, fun k hk hc => ?_, fun k hk hc => ?_, fun k hk hc => ?_⟩
  · have h9 := kB k hk (by rw [← mc 0 (by decide)]; exact hc)
    refine gd_B.2 _ _ _ _ _ (CBp_c h9 (hb k hk).1.1 (hb k hk).1.2) (fun j hj => ?_)
    show F' 91 (2 * 75 * i' + 75 * k + j) = F 91 (2 * 75 * i + 75 * k + j)
    have e := mB (75 * k + j) (by omega)
    rw [show 2 * 75 * i' + 75 * k + j = 150 * i' + (75 * k + j) by omega, show 2 * 75 * i + 75 * k + j = 150 * i + (75 * k + j) by omega]
    exact e
  · have h9 := kY k hk (by rw [← mc 1 (by decide)]; exact hc)
    refine gd_Y.2 _ _ _ _ _ (CYp_c h9 (hb k hk).2.1.1 (hb k hk).2.1.2) (fun j hj => ?_)
    show F' 92 (2 * 161 * i' + 161 * k + j) = F 92 (2 * 161 * i + 161 * k + j)
    have e := mY (161 * k + j) (by omega)
    rw [show 2 * 161 * i' + 161 * k + j = 322 * i' + (161 * k + j) by omega, show 2 * 161 * i + 161 * k + j = 322 * i + (161 * k + j) by omega]
    exact e
  · have h9 := kL k hk (by rw [← mc 2 (by decide)]; exact hc)
    refine gd_L.2 _ _ _ _ _ (CLp_c h9 (hb k hk).2.2.1.1 (hb k hk).2.2.1.2) (fun j hj => ?_)
    show F' 93 (2 * 9 * i' + 9 * k + j) = F 93 (2 * 9 * i + 9 * k + j)
    have e := mL (9 * k + j) (by omega)
    rw [show 2 * 9 * i' + 9 * k + j = 18 * i' + (9 * k + j) by omega, show 2 * 9 * i + 9 * k + j = 18 * i + (9 * k + j) by omega]
    exact e
  · have h9 := kS k hk (by rw [← mc 3 (by decide)]; exact hc)
    refine gd_S.2 _ _ _ _ _ (CSp_c h9 (hb k hk).2.2.2.1 (hb k hk).2.2.2.2) (fun j hj => ?_)
    show F' 94 (2 * 21 * i' + 21 * k + j) = F 94 (2 * 21 * i + 21 * k + j)
    have e := mS (21 * k + j) (by omega)
    rw [show 2 * 21 * i' + 21 * k + j = 42 * i' + (21 * k + j) by omega, show 2 * 21 * i + 21 * k + j = 42 * i + (21 * k + j) by omega]
    exact e
def imE (γ : qG) (j : Nat) : Prop := (γ.2.2 j = none ∧ γ.1 110 j = 0) ∨ ∃ q : Nat, γ.2.2 j = some (111 + 43 * q) ∧ ¬ γ.1 110 j = 0 ∧ RB γ.1 γ.2.1 (111 + 43 * q) (j + 1)
def imD (γ : qG) (i j : Nat) : Prop := γ.2.2 i = none ∨ ¬ γ.2.2 i = γ.2.2 j
def REL (γ : qG) : Prop := RB γ.1 γ.2.1 1 0 ∧ (∀ j : Nat, j < 3 → imE γ j) ∧ (∀ i j : Nat, i < 3 → j < 3 → ¬ i = j → imD γ i j)
/-- what is told changes, images stay -/
theorem REL_st {F U F' U' : Nat → Nat → Int} {E : Nat → Option Nat} (h : REL (F, U, E)) (h0 : RB F' U' 1 0) (hf : ∀ p : Nat, 111 ≤ p → F' p = F p ∧ U' p = U p) (hM : ∀ j : Nat, j < 3 → EqM F (j + 1) F' (j + 1)) (hk : F' 110 = F 110) : REL (F', U', E) := by
  refine ⟨h0, fun j hj => ?_, h.2.2⟩
  rcases h.2.1 j hj with ⟨a, b⟩ | ⟨q, a, b, c⟩
  · exact Or.inl ⟨a, by show F' 110 j = 0; rw [hk]; exact b⟩
  · exact Or.inr ⟨q, a, by show ¬ F' 110 j = 0; rw [hk]; exact b, RB_tr (EqC_of (fun p h1 _ => hf p (by omega))) (hM j hj) c⟩
theorem RBc_k {F U F' U' : Nat → Nat → Int} (h : RBc F U 1 0) (hq : ∀ q : Nat, 8 ≤ q → q ≤ 43 → F' q = F q ∧ U' q = U q) (hm : F' 90 = F 90 ∧ F' 91 = F 91 ∧ F' 92 = F 92 ∧ F' 93 = F 93 ∧ F' 94 = F 94) : RBc F' U' 1 0 := by
  obtain ⟨m0, m1, m2, m3, m4⟩ := hm
  have h9 : ∀ (c k : Nat), k < 2 → (k : Int) < F' 90 (4 * 0 + c) → (k : Int) < F 90 (4 * 0 + c) := fun c k _ h => by rw [← m0]; exact h
  exact ⟨KCl_k gd_B h.1 (fun q a b => hq q (by omega) (by omega)) m1 (h9 0), KCl_k gd_Y h.2.1 (fun q a b => hq q (by omega) (by omega)) m2 (h9 1), KCl_k gd_L h.2.2.1 (fun q a b => hq q (by omega) (by omega)) m3 (h9 2), KCl_k gd_S h.2.2.2 (fun q a b => hq q (by omega) (by omega)) m4 (h9 3)⟩
/-- the reference's rows of images stay -/
theorem EqM_of {F F' : Nat → Nat → Int} {i : Nat} (h86 : ∀ j : Nat, j < 600 → F' 86 (600 * i + j) = F 86 (600 * i + j)) (h87 : F' 87 i = F 87 i ∧ F' 88 i = F 88 i ∧ F' 89 i = F 89 i) (h90 : ∀ s : Nat, s < 4 → F' 90 (4 * i + s) = F 90 (4 * i + s)) (h91 : ∀ j : Nat, j < 150 → F' 91 (150 * i + j) = F 91 (150 * i + j)) (h92 : ∀ j : Nat, j < 322 → F' 92 (322 * i + j) = F 92 (322 * i + j)) (h93 : ∀ j : Nat, j < 18 → F' 93 (18 * i + j) = F 93 (18 * i + j)) (h94 : ∀ j : Nat, j < 42 → F' 94 (42 * i + j) = F 94 (42 * i + j)) : EqM F i F' i := ⟨h87, h86, h90, h91, h92, h93, h94⟩
def rFeC : (Nat → Nat → Int) → (Nat → Nat → Int) → List qV → Option qV → (Nat → Nat → Int) → (Nat → Nat → Int) → Prop := fun F U av r F' U' => ∃ a b c d e z : Int, av = [q2 0, q1 a, q1 b, q1 c, q1 d, q1 e] ∧ r = some (q1 z) ∧ feC F U F' U' a b c d e z
def rFeM : (Nat → Nat → Int) → (Nat → Nat → Int) → List qV → Option qV → (Nat → Nat → Int) → (Nat → Nat → Int) → Prop := fun F U av r F' U' => ∃ a b c d e z : Int, av = [q2 85, q1 a, q1 b, q1 c, q1 d, q1 e] ∧ r = some (q1 z) ∧ feM F U F' U' a b c d e z
def rEnC : (Nat → Nat → Int) → (Nat → Nat → Int) → List qV → Option qV → (Nat → Nat → Int) → (Nat → Nat → Int) → Prop := fun F U av r F' U' => ∃ a z : Int, av = [q2 0, q1 a] ∧ r = some (q1 z) ∧ enC F U F' U' a z
def rEnM : (Nat → Nat → Int) → (Nat → Nat → Int) → List qV → Option qV → (Nat → Nat → Int) → (Nat → Nat → Int) → Prop := fun F U av r F' U' => ∃ a z : Int, av = [q2 85, q1 a] ∧ r = some (q1 z) ∧ enM F U F' U' a z
def rTxC : (Nat → Nat → Int) → (Nat → Nat → Int) → List qV → Option qV → (Nat → Nat → Int) → (Nat → Nat → Int) → Prop := fun F U av r F' U' => ∃ a b z : Int, av = [q2 0, q1 a, q1 b] ∧ r = some (q1 z) ∧ txC F U F' U' a b z
def rTxM : (Nat → Nat → Int) → (Nat → Nat → Int) → List qV → Option qV → (Nat → Nat → Int) → (Nat → Nat → Int) → Prop := fun F U av r F' U' => ∃ a b z : Int, av = [q2 85, q1 a, q1 b] ∧ r = some (q1 z) ∧ txM F U F' U' a b z
def rImM : (Nat → Nat → Int) → (Nat → Nat → Int) → List qV → Option qV → (Nat → Nat → Int) → (Nat → Nat → Int) → Prop := fun F U av r F' U' => ∃ a z : Int, av = [q2 85, q1 a] ∧ r = some (q1 z) ∧ imM F U F' U' a z
def rAgM : (Nat → Nat → Int) → (Nat → Nat → Int) → List qV → Option qV → (Nat → Nat → Int) → (Nat → Nat → Int) → Prop := fun F U av r F' U' => ∃ a z : Int, av = [q2 85, q1 a] ∧ r = some (q1 z) ∧ agM F U F' U' a z
def rFaC : (Nat → Nat → Int) → (Nat → Nat → Int) → List qV → Option qV → Prop := fun F U av r => ∃ a z : Int, av = [q2 0, q1 a] ∧ r = some (q1 z) ∧ z = if a = 0 then U 1 1 else if a = 1 then U 1 2 else -1
def rFaM : (Nat → Nat → Int) → (Nat → Nat → Int) → List qV → Option qV → Prop := fun F U av r => ∃ a z : Int, av = [q2 85, q1 a] ∧ r = some (q1 z) ∧ z = if a = 0 then F 88 0 else if a = 1 then F 89 0 else -1
def rCoC : (Nat → Nat → Int) → (Nat → Nat → Int) → List qV → Option qV → Prop := fun F U av r => ∃ a z : Int, av = [q2 0, q1 a] ∧ r = some (q1 z) ∧ ((0 ≤ a ∧ a ≤ 3) ∧ z = F 3 a.toNat ∨ ¬ (0 ≤ a ∧ a ≤ 3) ∧ z = -2)
def rCoM : (Nat → Nat → Int) → (Nat → Nat → Int) → List qV → Option qV → Prop := fun F U av r => ∃ a z : Int, av = [q2 85, q1 a] ∧ r = some (q1 z) ∧ ((0 ≤ a ∧ a ≤ 3) ∧ z = F 90 a.toNat ∨ ¬ (0 ≤ a ∧ a ≤ 3) ∧ z = -2)
def rlFeC := stG rFeC
def rlFeM := stG rFeM
def rlEnC := stG rEnC
def rlEnM := stG rEnM
def rlTxC := stG rTxC
def rlTxM := stG rTxM
def rlImM := stG rImM
def rlAgM := stG rAgM
def rlFaC := stV rFaC
def rlFaM := stV rFaM
def rlCoC := stV rCoC
def rlCoM := stV rCoM
def rlAgC (γ : qG) (av : List qV) (r : Option qV) (γ' : qG) : Prop := ∃ a z : Int, av = [q2 0, q1 a] ∧ r = some (q1 z) ∧ agC γ a z γ'
theorem rlFeC_z {γ γ' : qG} {av : List qV} {r : Option qV} (h : rlFeC γ av r γ') : ∃ z : Int, r = some (q1 z) := by obtain ⟨-, _, _, _, _, _, z, _, h, _⟩ := h; exact ⟨z, h⟩
theorem rlFeM_z {γ γ' : qG} {av : List qV} {r : Option qV} (h : rlFeM γ av r γ') : ∃ z : Int, r = some (q1 z) := by obtain ⟨-, _, _, _, _, _, z, _, h, _⟩ := h; exact ⟨z, h⟩
theorem rlEnC_z {γ γ' : qG} {av : List qV} {r : Option qV} (h : rlEnC γ av r γ') : ∃ z : Int, r = some (q1 z) := by obtain ⟨-, _, z, _, h, _⟩ := h; exact ⟨z, h⟩
theorem rlEnM_z {γ γ' : qG} {av : List qV} {r : Option qV} (h : rlEnM γ av r γ') : ∃ z : Int, r = some (q1 z) := by obtain ⟨-, _, z, _, h, _⟩ := h; exact ⟨z, h⟩
theorem rlTxC_z {γ γ' : qG} {av : List qV} {r : Option qV} (h : rlTxC γ av r γ') : ∃ z : Int, r = some (q1 z) := by obtain ⟨-, _, _, z, _, h, _⟩ := h; exact ⟨z, h⟩
theorem rlTxM_z {γ γ' : qG} {av : List qV} {r : Option qV} (h : rlTxM γ av r γ') : ∃ z : Int, r = some (q1 z) := by obtain ⟨-, _, _, z, _, h, _⟩ := h; exact ⟨z, h⟩
theorem rlImM_z {γ γ' : qG} {av : List qV} {r : Option qV} (h : rlImM γ av r γ') : ∃ z : Int, r = some (q1 z) := by obtain ⟨-, _, z, _, h, _⟩ := h; exact ⟨z, h⟩
theorem rlAgM_z {γ γ' : qG} {av : List qV} {r : Option qV} (h : rlAgM γ av r γ') : ∃ z : Int, r = some (q1 z) := by obtain ⟨-, _, z, _, h, _⟩ := h; exact ⟨z, h⟩
theorem rlAgC_z {γ γ' : qG} {av : List qV} {r : Option qV} (h : rlAgC γ av r γ') : ∃ z : Int, r = some (q1 z) := by obtain ⟨_, z, _, h, _⟩ := h; exact ⟨z, h⟩
theorem rlFaC_z {γ γ' : qG} {av : List qV} {r : Option qV} (h : rlFaC γ av r γ') : ∃ z : Int, r = some (q1 z) := by obtain ⟨-, _, z, _, h, _⟩ := h; exact ⟨z, h⟩
theorem rlFaM_z {γ γ' : qG} {av : List qV} {r : Option qV} (h : rlFaM γ av r γ') : ∃ z : Int, r = some (q1 z) := by obtain ⟨-, _, z, _, h, _⟩ := h; exact ⟨z, h⟩
theorem rlCoC_z {γ γ' : qG} {av : List qV} {r : Option qV} (h : rlCoC γ av r γ') : ∃ z : Int, r = some (q1 z) := by obtain ⟨-, _, z, _, h, _⟩ := h; exact ⟨z, h⟩
theorem rlCoM_z {γ γ' : qG} {av : List qV} {r : Option qV} (h : rlCoM γ av r γ') : ∃ z : Int, r = some (q1 z) := by obtain ⟨-, _, z, _, h, _⟩ := h; exact ⟨z, h⟩
/-! the calls' frames -/
theorem fr_FeC (F U F' U' : Nat → Nat → Int) (av : List qV) (r : Option qV) (h : rFeC F U av r F' U') : frm F U F' U' := by
  obtain ⟨_, _, _, _, _, _, _, _, _, _, h1, h2⟩ := h
  exact fun p hp => ⟨h1 p (by omega), h2 p (by omega)⟩
theorem fr_EnC (F U F' U' : Nat → Nat → Int) (av : List qV) (r : Option qV) (h : rEnC F U av r F' U') : frm F U F' U' := by
  obtain ⟨_, _, _, _, _, _, h1, h2⟩ := h
  exact fun p hp => ⟨h1 p, h2 p (by omega)⟩
theorem fr_TxC (F U F' U' : Nat → Nat → Int) (av : List qV) (r : Option qV) (h : rTxC F U av r F' U') : frm F U F' U' := by
  obtain ⟨_, _, _, _, _, _, _, h1, _⟩ := h
  exact fun p hp => h1 p (by omega)
theorem fr_FeM (F U F' U' : Nat → Nat → Int) (av : List qV) (r : Option qV) (h : rFeM F U av r F' U') : frm F U F' U' := by
  obtain ⟨_, _, _, _, _, _, _, _, _, _, h1, rfl⟩ := h
  exact fun p hp => ⟨h1 p (by omega) (by omega), rfl⟩
theorem fr_EnM (F U F' U' : Nat → Nat → Int) (av : List qV) (r : Option qV) (h : rEnM F U av r F' U') : frm F U F' U' := by
  obtain ⟨_, _, _, _, _, _, h1, rfl⟩ := h
  exact fun p hp => ⟨h1 p (by omega), rfl⟩
theorem fr_TxM (F U F' U' : Nat → Nat → Int) (av : List qV) (r : Option qV) (h : rTxM F U av r F' U') : frm F U F' U' := by
  obtain ⟨_, _, _, _, _, _, h1, rfl⟩ := h
  exact fun p hp => ⟨h1 p (by omega), rfl⟩
theorem fr_ImM (F U F' U' : Nat → Nat → Int) (av : List qV) (r : Option qV) (h : rImM F U av r F' U') : frm F U F' U' := by
  obtain ⟨_, _, _, _, _, h1, rfl⟩ := h
  exact fun p hp => ⟨h1 p (by omega) (by omega), rfl⟩
theorem fr_AgM (F U F' U' : Nat → Nat → Int) (av : List qV) (r : Option qV) (h : rAgM F U av r F' U') : frm F U F' U' := by
  obtain ⟨_, _, _, _, _, h1, rfl⟩ := h
  exact fun p hp => ⟨h1 p (by omega), rfl⟩
