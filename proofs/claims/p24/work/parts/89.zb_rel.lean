/-! ===== each call on both sides keeps what they have in common, and answers alike ===== -/
theorem RLFe {γ γ1 γ2 : qG} {a b c d e a' b' c' d' e' z1 z2 : Int} (ha : a = a') (hb : b = b') (hc : c = c') (hd : d = d') (he : e = e') (hR : REL γ) (h1 : rlFeC γ [q2 0, q1 a, q1 b, q1 c, q1 d, q1 e] (some (q1 z1)) γ1) (h2 : rlFeM γ1 [q2 85, q1 a', q1 b', q1 c', q1 d', q1 e'] (some (q1 z2)) γ2) : REL γ2 ∧ z1 = z2 := by
  subst ha hb hc hd he
  obtain ⟨F, U, E⟩ := γ
  obtain ⟨F1, U1, E1⟩ := γ1
  obtain ⟨F2, U2, E2⟩ := γ2
  obtain ⟨e1, _, _, _, _, _, _, d1, r1, h1⟩ := h1
  obtain ⟨e2, _, _, _, _, _, _, d2, r2, h2⟩ := h2
  cases d1
  cases d2
  cases r1
  cases r2
  have e1 : E1 = E := e1
  have e2 : E2 = E1 := e2
  subst e1 e2
  obtain ⟨c1, ⟨u1, u2⟩, f1, g1⟩ := h1
  obtain ⟨c2, k2, f2, eU⟩ := h2
  have eU : U2 = U1 := eU
  subst eU
  have f1 : ∀ p : Nat, ¬ p = 2 → F1 p = F p := f1
  have g1 : ∀ p : Nat, ¬ p = 1 → U2 p = U p := g1
  have f2 : ∀ p : Nat, ¬ p = 86 → ¬ p = 87 → F2 p = F1 p := f2
  have k2 : szK (F1 87) (F2 87) := k2
  have u1 : U2 1 1 = U 1 1 := u1
  have u2 : U2 1 2 = U 1 2 := u2
  have c1 : (580 < U 1 0 ∧ z1 = -1 ∧ U2 1 0 = U 1 0 ∧ F1 2 = F 2) ∨ (U 1 0 ≤ 580 ∧ z1 = U 1 0 + 20 ∧ U2 1 0 = U 1 0 + 20 ∧ F1 2 = fd5 (F 2) (U 1 0) a b c d e) := c1
  have c2 : (580 < F1 87 0 ∧ z2 = -1 ∧ F2 87 0 = F1 87 0 ∧ F2 86 = F1 86) ∨ (F1 87 0 ≤ 580 ∧ z2 = F1 87 0 + 20 ∧ F2 87 0 = F1 87 0 + 20 ∧ F2 86 = fd5 (F1 86) (F1 87 0) a b c d e) := c2
  have fm : ∀ m : Nat, ¬ m = 2 → ¬ m = 86 → ¬ m = 87 → F2 m = F m := fun m x y z => (f2 m y z).trans (f1 m x)
  obtain ⟨⟨⟨x0, x1, x2⟩, xt, xc⟩, xk⟩ := id hR.1
  have x0 : U 1 0 = F 87 0 := x0
  have x1 : U 1 1 = F 88 0 := x1
  have x2 : U 1 2 = F 89 0 := x2
  have xt : ∀ j : Nat, j < 600 → F 2 j = F 86 (600 * 0 + j) := xt
  have xc : ∀ s : Nat, s < 4 → F 3 s = F 90 (4 * 0 + s) := xc
  have e87 : F1 87 = F 87 := f1 87 (by decide)
  have e86 : F1 86 = F 86 := f1 86 (by decide)
  rw [e87, e86] at c2
  rw [e87] at k2
  have key : (U2 1 0 = F2 87 0 ∧ z1 = z2) ∧ (∀ j : Nat, j < 600 → F2 2 j = F2 86 j) ∧ (∀ i : Nat, 600 ≤ i → F2 86 i = F 86 i) := by
    have e2' : F2 2 = F1 2 := f2 2 (by decide) (by decide)
    rcases c1 with ⟨p1, p2, p3, p4⟩ | ⟨p1, p2, p3, p4⟩ <;> rcases c2 with ⟨q1, q2, q3, q4⟩ | ⟨q1, q2, q3, q4⟩
    · refine ⟨⟨by omega, by omega⟩, fun j hj => ?_, fun i hi => by rw [q4]⟩
      rw [e2', p4, q4, xt j hj]
      congr 1
      omega
    · omega
    · omega
    · refine ⟨⟨by omega, by omega⟩, fun j hj => ?_, fun i hi => ?_⟩
      · rw [e2', p4, q4, ← x0]
        exact fd5_c (fun i hi => by rw [xt i hi]; congr 1; omega) j hj
      · rw [q4]
        exact fd5_hi (by omega) (by omega)
  obtain ⟨⟨t0, tz⟩, tt, ti⟩ := key
  refine ⟨REL_st hR ⟨⟨⟨t0, ?_, ?_⟩, ?_, ?_⟩, RBc_k xk (fun q h1 h2 => ⟨fm q (by omega) (by omega) (by omega), g1 q (by omega)⟩) ⟨fm 90 (by decide) (by decide) (by decide), fm 91 (by decide) (by decide) (by decide), fm 92 (by decide) (by decide) (by decide), fm 93 (by decide) (by decide) (by decide), fm 94 (by decide) (by decide) (by decide)⟩⟩ (fun p hp => ⟨fm p (by omega) (by omega) (by omega), g1 p (by omega)⟩) (fun j hj => EqM_of (fun i hi => ti _ (by omega)) ⟨k2 _ (by omega), by rw [fm 88 (by decide) (by decide) (by decide)], by rw [fm 89 (by decide) (by decide) (by decide)]⟩ (fun i hi => by rw [fm 90 (by decide) (by decide) (by decide)]) (fun i hi => by rw [fm 91 (by decide) (by decide) (by decide)]) (fun i hi => by rw [fm 92 (by decide) (by decide) (by decide)]) (fun i hi => by rw [fm 93 (by decide) (by decide) (by decide)]) (fun i hi => by rw [fm 94 (by decide) (by decide) (by decide)])) (fm 110 (by decide) (by decide) (by decide)), tz⟩
  · show U2 1 1 = F2 88 0
    rw [u1, fm 88 (by decide) (by decide) (by decide)]; exact x1
  · show U2 1 2 = F2 89 0
    rw [u2, fm 89 (by decide) (by decide) (by decide)]; exact x2
  · intro j hj
    show F2 2 j = F2 86 (600 * 0 + j)
    rw [tt j hj]
    congr 1
    omega
  · intro s hs
    show F2 3 s = F2 90 (4 * 0 + s)
    rw [fm 3 (by decide) (by decide) (by decide), fm 90 (by decide) (by decide) (by decide)]; exact xc s hs
theorem RLEn {γ γ1 γ2 : qG} {a a' z1 z2 : Int} (ha : a = a') (hR : REL γ) (h1 : rlEnC γ [q2 0, q1 a] (some (q1 z1)) γ1) (h2 : rlEnM γ1 [q2 85, q1 a'] (some (q1 z2)) γ2) : REL γ2 ∧ z1 = z2 := by
  subst ha
  obtain ⟨F, U, E⟩ := γ
  obtain ⟨F1, U1, E1⟩ := γ1
  obtain ⟨F2, U2, E2⟩ := γ2
  obtain ⟨e1, _, _, d1, r1, h1⟩ := h1
  obtain ⟨e2, _, _, d2, r2, h2⟩ := h2
  cases d1
  cases d2
  cases r1
  cases r2
  have e1 : E1 = E := e1
  have e2 : E2 = E1 := e2
  subst e1 e2
  obtain ⟨c1, ⟨u1, u2⟩, f1, g1⟩ := h1
  obtain ⟨c2, k2, f2, eU⟩ := h2
  have eU : U2 = U1 := eU
  subst eU
  have f1 : ∀ p : Nat, F1 p = F p := f1
  have g1 : ∀ p : Nat, ¬ p = 1 → U2 p = U p := g1
  have f2 : ∀ p : Nat, ¬ p = 87 → F2 p = F1 p := f2
  have k2 : szK (F1 87) (F2 87) := k2
  have u1 : U2 1 1 = U 1 1 := u1
  have u2 : U2 1 2 = U 1 2 := u2
  have c1 : ((a < 0 ∨ U 1 0 < a) ∧ z1 = -1 ∧ U2 1 0 = U 1 0) ∨ (0 ≤ a ∧ a ≤ U 1 0 ∧ z1 = a ∧ U2 1 0 = a) := c1
  have c2 : ((a < 0 ∨ F1 87 0 < a) ∧ z2 = -1 ∧ F2 87 0 = F1 87 0) ∨ (0 ≤ a ∧ a ≤ F1 87 0 ∧ z2 = a ∧ F2 87 0 = a) := c2
  have fm : ∀ m : Nat, ¬ m = 87 → F2 m = F m := fun m z => (f2 m z).trans (f1 m)
  obtain ⟨⟨⟨x0, x1, x2⟩, xt, xc⟩, xk⟩ := id hR.1
  have x0 : U 1 0 = F 87 0 := x0
  have x1 : U 1 1 = F 88 0 := x1
  have x2 : U 1 2 = F 89 0 := x2
  have xt : ∀ j : Nat, j < 600 → F 2 j = F 86 (600 * 0 + j) := xt
  have xc : ∀ s : Nat, s < 4 → F 3 s = F 90 (4 * 0 + s) := xc
  rw [f1 87] at c2 k2
  refine ⟨REL_st hR ⟨⟨⟨?_, ?_, ?_⟩, ?_, ?_⟩, RBc_k xk (fun q h1 h2 => ⟨fm q (by omega), g1 q (by omega)⟩) ⟨fm 90 (by decide), fm 91 (by decide), fm 92 (by decide), fm 93 (by decide), fm 94 (by decide)⟩⟩ (fun p hp => ⟨fm p (by omega), g1 p (by omega)⟩) (fun j hj => EqM_of (fun i hi => by rw [fm 86 (by decide)]) ⟨k2 _ (by omega), by rw [fm 88 (by decide)], by rw [fm 89 (by decide)]⟩ (fun i hi => by rw [fm 90 (by decide)]) (fun i hi => by rw [fm 91 (by decide)]) (fun i hi => by rw [fm 92 (by decide)]) (fun i hi => by rw [fm 93 (by decide)]) (fun i hi => by rw [fm 94 (by decide)])) (fm 110 (by decide)), by omega⟩
  · show U2 1 0 = F2 87 0
    omega
  · show U2 1 1 = F2 88 0
    rw [u1, fm 88 (by decide)]; exact x1
  · show U2 1 2 = F2 89 0
    rw [u2, fm 89 (by decide)]; exact x2
  · intro j hj
    show F2 2 j = F2 86 (600 * 0 + j)
    rw [fm 2 (by decide), fm 86 (by decide)]; exact xt j hj
  · intro s hs
    show F2 3 s = F2 90 (4 * 0 + s)
    rw [fm 3 (by decide), fm 90 (by decide)]; exact xc s hs
theorem RLFa {γ γ1 γ2 : qG} {a a' z1 z2 : Int} (ha : a = a') (hR : REL γ) (h1 : rlFaC γ [q2 0, q1 a] (some (q1 z1)) γ1) (h2 : rlFaM γ1 [q2 85, q1 a'] (some (q1 z2)) γ2) : REL γ2 ∧ z1 = z2 := by
  subst ha
  obtain ⟨rfl, _, _, d1, r1, h1⟩ := h1
  obtain ⟨rfl, _, _, d2, r2, h2⟩ := h2
  cases d1
  cases d2
  cases r1
  cases r2
  refine ⟨hR, ?_⟩
  obtain ⟨⟨⟨x0, x1, x2⟩, -⟩, -⟩ := id hR.1
  rw [h1, h2, x1, x2]
theorem RLCo {γ γ1 γ2 : qG} {a a' z1 z2 : Int} (ha : a = a') (hR : REL γ) (h1 : rlCoC γ [q2 0, q1 a] (some (q1 z1)) γ1) (h2 : rlCoM γ1 [q2 85, q1 a'] (some (q1 z2)) γ2) : REL γ2 ∧ z1 = z2 := by
  subst ha
  obtain ⟨rfl, _, _, d1, r1, h1⟩ := h1
  obtain ⟨rfl, _, _, d2, r2, h2⟩ := h2
  cases d1
  cases d2
  cases r1
  cases r2
  refine ⟨hR, ?_⟩
  obtain ⟨⟨-, -, xc⟩, -⟩ := id hR.1
  rcases h1 with ⟨p, e1⟩ | ⟨p, e1⟩ <;> rcases h2 with ⟨q, e2⟩ | ⟨q, e2⟩
  · rw [e1, e2]
    have h9 := xc a.toNat (by omega)
    rw [show 4 * 0 + a.toNat = a.toNat by omega] at h9
    exact h9
  · exact absurd p q
  · exact absurd q p
  · rw [e1, e2]
theorem PlO_c {a b : Int} {f g : Nat → Int} (h : ∀ s : Nat, s < 4 → f s = g s) : PlO a b f ↔ PlO a b g := by
  unfold PlO
  constructor
  · rintro ⟨h1, h2⟩
    rw [h _ (by omega)] at h2
    exact ⟨h1, h2⟩
  · rintro ⟨h1, h2⟩
    rw [← h _ (by omega)] at h2
    exact ⟨h1, h2⟩
/-- one kind's clause behind a text: told anew, or not of this sort -/
theorem KCl_t {C : (Nat → Nat → Int) → (Nat → Nat → Int) → Nat → (Nat → Int) → Prop} {m W c p0 st k : Nat} {F U F1 F2 U2 : Nat → Nat → Int} {D : Nat → Int} {P : Prop} (g : GdC C W st) (h : KCl C m W c p0 st F U 1 0) (hk : k ≤ 1) (hF : ∀ q : Nat, q ≤ 43 → F2 q = F1 q) (hp : 7 ≤ p0 ∧ p0 + 2 * st ≤ 43)
    (hx : (P ∧ C F1 U2 (1 + p0 + st * k) D ∧ (∀ q : Nat, 1 + p0 ≤ q → q < 1 + p0 + 2 * st → ¬ (1 + p0 + st * k ≤ q ∧ q < 1 + p0 + st * k + st) → F1 q = F q ∧ U2 q = U q) ∧ stR W D (F m) (F2 m) k ∧ (∀ q : Nat, q < 2 → ¬ q = k → (q : Int) < F2 90 (4 * 0 + c) → (q : Int) < F 90 (4 * 0 + c))) ∨ (¬ P ∧ (∀ q : Nat, 1 + p0 ≤ q → q < 1 + p0 + 2 * st → F1 q = F q ∧ U2 q = U q) ∧ F2 m = F m ∧ F2 90 (4 * 0 + c) = F 90 (4 * 0 + c))) : KCl C m W c p0 st F2 U2 1 0 := by
  rcases hx with ⟨-, hC, ho, hs, h9⟩ | ⟨-, hq, hm, h9⟩
  · exact KCl_s g h hk (g.1 _ _ _ _ _ _ hC (fun q a b => ⟨hF q (by rcases (show k = 0 ∨ k = 1 by omega) with rfl | rfl <;> omega), rfl⟩)) (fun q a b c => by rw [hF q (by omega)]; exact ho q a b c) hs h9
  · exact KCl_k g h (fun q a b => by rw [hF q (by omega)]; exact hq q a b) hm (fun k _ h => by rw [← h9]; exact h)
theorem RLTx {γ γ1 γ2 : qG} {a b a' b' z1 z2 : Int} (ha : a = a') (hb : b = b') (hR : REL γ) (h1 : rlTxC γ [q2 0, q1 a, q1 b] (some (q1 z1)) γ1) (h2 : rlTxM γ1 [q2 85, q1 a', q1 b'] (some (q1 z2)) γ2) : REL γ2 ∧ z1 = z2 := by
  subst ha hb
  obtain ⟨F, U, E⟩ := γ
  obtain ⟨F1, U1, E1⟩ := γ1
  obtain ⟨F2, U2, E2⟩ := γ2
  obtain ⟨e1, _, _, _, d1, r1, h1⟩ := h1
  obtain ⟨e2, _, _, _, d2, r2, h2⟩ := h2
  cases d1
  cases d2
  cases r1
  cases r2
  have e1 : E1 = E := e1
  have e2 : E2 = E1 := e2
  subst e1 e2
  obtain ⟨hT, f2, eU⟩ := h2
  have eU : U2 = U1 := eU
  subst eU
  obtain ⟨t0, t2, tf, hC⟩ := h1
  have t0 : U2 1 0 = 0 := t0
  have t2 : F1 2 = F 2 := t2
  have tf : ∀ p : Nat, 66 ≤ p → F1 p = F p ∧ U2 p = U p := tf
  have f2 : ∀ p : Nat, ¬ (87 ≤ p ∧ p ≤ 94) → F2 p = F1 p := f2
  have hT : TxM (tc (F1 86)) a b z2 (F1 87) (F1 88) (F1 89) (F1 90) (F1 91) (F1 92) (F1 93) (F1 94) (F2 87) (F2 88) (F2 89) (F2 90) (F2 91) (F2 92) (F2 93) (F2 94) := hT
  rw [(tf 86 (by decide)).1, (tf 87 (by decide)).1, (tf 88 (by decide)).1, (tf 89 (by decide)).1, (tf 90 (by decide)).1, (tf 91 (by decide)).1, (tf 92 (by decide)).1, (tf 93 (by decide)).1, (tf 94 (by decide)).1] at hT
  obtain ⟨s87, hT⟩ := hT
  have hC : (¬ PlO a b (F 3) ∧ z1 = -2 ∧ U2 1 1 = 0 ∧ U2 1 2 = -1 ∧ sameT F U F1 U2) ∨ (PlO a b (F 3) ∧ ∃ D : Nat → Int, RdO (tc (F 2)) (U 1 0) a (U2 1 1) (U2 1 2) D ∧ ((¬ U2 1 1 = 0 ∧ z1 = -1 ∧ sameT F U F1 U2) ∨ (U2 1 1 = 0 ∧ z1 = kTx a b (F 3) ∧ (0 ≤ z1 ∧ z1 ≤ 1) ∧ F1 3 = q_up (F 3) a.toNat (max (F 3 a.toNat) (z1 + 1)) ∧ CoA a z1.toNat D F U F1 U2))) := hC
  obtain ⟨⟨⟨x0, x1, x2⟩, xt, xc⟩, xk⟩ := id hR.1
  have x0 : U 1 0 = F 87 0 := x0
  have xt : ∀ j : Nat, j < 600 → F 2 j = F 86 j := fun j hj => by
    have h9 := xt j hj
    rw [show 600 * 0 + j = j by omega] at h9
    exact h9
  have xc : ∀ s : Nat, s < 4 → F 3 s = F 90 s := fun s hs => by
    have h9 := xc s hs
    rw [show 4 * 0 + s = s by omega] at h9
    exact h9
  have xk : RBc F U 1 0 := xk
  have hP : PlO a b (F 3) ↔ PlO a b (F 90) := PlO_c xc
  have e86 : F2 86 = F 86 := (f2 86 (by decide)).trans (tf 86 (by decide)).1
  have f3 : F2 3 = F1 3 := f2 3 (by decide)
  have i87 : ∀ i : Nat, 1 ≤ i → F2 87 i = F 87 i := fun i hi => by rw [s87, q_up_n (by omega)]
  have fin : U2 1 1 = F2 88 0 → U2 1 2 = F2 89 0 → (∀ s : Nat, s < 4 → F2 3 s = F2 90 s) → RBc F2 U2 1 0 → (∀ i : Nat, 1 ≤ i → F2 88 i = F 88 i) → (∀ i : Nat, 1 ≤ i → F2 89 i = F 89 i) → (∀ i : Nat, 4 ≤ i → F2 90 i = F 90 i) → (∀ i : Nat, 150 ≤ i → F2 91 i = F 91 i) → (∀ i : Nat, 322 ≤ i → F2 92 i = F 92 i) → (∀ i : Nat, 18 ≤ i → F2 93 i = F 93 i) → (∀ i : Nat, 42 ≤ i → F2 94 i = F 94 i) → REL (F2, U2, E2) := by
    intro v1 v2 hc hk i88 i89 i90 i91 i92 i93 i94
    refine REL_st hR ⟨⟨⟨?_, v1, v2⟩, fun j hj => ?_, fun s hs => ?_⟩, hk⟩ (fun p hp => ⟨(f2 p (by omega)).trans (tf p (by omega)).1, (tf p (by omega)).2⟩) (fun j hj => EqM_of (fun i hi => by rw [e86]) ⟨i87 _ (by omega), i88 _ (by omega), i89 _ (by omega)⟩ (fun i hi => i90 _ (by omega)) (fun i hi => i91 _ (by omega)) (fun i hi => i92 _ (by omega)) (fun i hi => i93 _ (by omega)) (fun i hi => i94 _ (by omega))) ((f2 110 (by decide)).trans (tf 110 (by decide)).1)
    · show U2 1 0 = F2 87 0
      rw [s87, q_up_s]; exact t0
    · show F2 2 j = F2 86 (600 * 0 + j)
      rw [f2 2 (by decide), t2, e86, show 600 * 0 + j = j by omega]; exact xt j hj
    · show F2 3 s = F2 90 (4 * 0 + s)
      rw [show 4 * 0 + s = s by omega]; exact hc s hs
  have same : sameT F U F1 U2 → F2 90 = F 90 → F2 91 = F 91 → F2 92 = F 92 → F2 93 = F 93 → F2 94 = F 94 → RBc F2 U2 1 0 ∧ ∀ s : Nat, s < 4 → F2 3 s = F2 90 s := fun hs m0 m1 m2 m3 m4 =>
    ⟨RBc_k xk (fun q h1 h2 => ⟨(f2 q (by omega)).trans (hs.2 q (by omega) h2).1, (hs.2 q (by omega) h2).2⟩) ⟨m0, m1, m2, m3, m4⟩, fun s h => by rw [f3, hs.1, m0]; exact xc s h⟩
  rcases hC with ⟨c1, c2, c3, c4, c5⟩ | ⟨c1, D, c2, c3⟩
  · rcases hT with ⟨p1, p2, p3, p4, p5, p6, p7, p8, p9⟩ | ⟨p1, -⟩
    · obtain ⟨k1, k2⟩ := same c5 p5 p6 p7 p8 p9
      exact ⟨fin (by rw [c3, p3, q_up_s]) (by rw [c4, p4, q_up_s]) k2 k1 (fun i hi => by rw [p3, q_up_n (by omega)]) (fun i hi => by rw [p4, q_up_n (by omega)]) (fun i _ => by rw [p5]) (fun i _ => by rw [p6]) (fun i _ => by rw [p7]) (fun i _ => by rw [p8]) (fun i _ => by rw [p9]), by rw [c2, p2]⟩
    · exact absurd (hP.mpr p1) c1
  · rcases hT with ⟨p1, -⟩ | ⟨p1, v1, v2, D2, p2, p3, p4, p5⟩
    · exact absurd (hP.mp c1) p1
    · rw [tc_e xt, x0] at c2
      obtain ⟨ea, eb, eD⟩ := RdO_u c2 p2
      have w1 : U2 1 1 = F2 88 0 := by rw [p3, q_up_s]; exact ea
      have w2 : U2 1 2 = F2 89 0 := by rw [p4, q_up_s]; exact eb
      have i88 : ∀ i : Nat, 1 ≤ i → F2 88 i = F 88 i := fun i hi => by rw [p3, q_up_n (by omega), q_up_n (by omega)]
      have i89 : ∀ i : Nat, 1 ≤ i → F2 89 i = F 89 i := fun i hi => by rw [p4, q_up_n (by omega), q_up_n (by omega)]
      rcases c3 with ⟨g1, g2, g3⟩ | ⟨g1, g2, g3, g4, g5⟩
      · rcases p5 with ⟨q1, q2, q5, q6, q7, q8, q9⟩ | ⟨q1, -⟩
        · obtain ⟨k1, k2⟩ := same g3 q5 q6 q7 q8 q9
          exact ⟨fin w1 w2 k2 k1 i88 i89 (fun i _ => by rw [q5]) (fun i _ => by rw [q6]) (fun i _ => by rw [q7]) (fun i _ => by rw [q8]) (fun i _ => by rw [q9]), by rw [g2, q2]⟩
        · exact absurd (ea.trans q1) g1
      · rcases p5 with ⟨q1, -⟩ | ⟨q1, q2, q3, q4⟩
        · exact absurd (ea.symm.trans g1) q1
        · have ha := c1.1
          have ex : F 3 a.toNat = F 90 a.toNat := xc _ (by omega)
          have ez : z1 = z2 := by
            rw [g2, q2]
            unfold kTx
            rw [ex]
          refine ⟨?_, ez⟩
          subst eD
          obtain ⟨k, hk⟩ : ∃ k : Nat, z1 = (k : Int) := ⟨z1.toNat, by omega⟩
          have hk1 : k ≤ 1 := by omega
          have hkt : z1.toNat = k := by omega
          rw [hkt] at g5
          rw [← ez, hk] at q4
          -- how many there are
          have hv : F2 90 a.toNat = max (F 3 a.toNat) (z1 + 1) ∧ (∀ q : Nat, q < 2 → ¬ q = k → (q : Int) < F2 90 a.toNat → (q : Int) < F 90 a.toNat) := by
            have e9 : F2 90 a.toNat = F 90 a.toNat + (if b = -1 then 1 else 0) := by rw [q3, q_up_s]
            obtain ⟨-, hb⟩ := c1
            unfold kTx at g2
            rcases hb with ⟨b1, b2⟩ | ⟨b1, b2, b3⟩
            · rw [if_pos b1] at g2 e9
              exact ⟨by omega, fun q _ hn hq => by omega⟩
            · rw [if_neg b1] at g2 e9
              exact ⟨by omega, fun q _ hn hq => by omega⟩
          have hc : ∀ s : Nat, s < 4 → F2 3 s = F2 90 s := fun s hs => by
            by_cases e : s = a.toNat
            · rw [e, f3, g4, q_up_s]; exact hv.1.symm
            · rw [f3, g4, q3, q_up_n e, q_up_n e]; exact xc s hs
          have i90 : ∀ i : Nat, 4 ≤ i → F2 90 i = F 90 i := fun i hi => by rw [q3, q_up_n (by omega)]
          have n90 : ∀ c : Nat, ¬ c = a.toNat → F2 90 (4 * 0 + c) = F 90 (4 * 0 + c) := fun c h => by rw [q3, q_up_n (by omega)]
          have hF : ∀ q : Nat, q ≤ 43 → F2 q = F1 q := fun q hq => f2 q (by omega)
          rcases g5 with ⟨h0, co, ho⟩ | ⟨h0, co, ho⟩ | ⟨h0, co, ho⟩ | ⟨h0, co, ho⟩
          · subst h0
            rcases q4 with ⟨-, s91, s92, s93, s94⟩ | ⟨n1, -⟩ | ⟨n2, -⟩ | ⟨n3, -⟩
            · exact fin w1 w2 hc ⟨KCl_t (P := True) gd_B xk.1 hk1 hF (by decide) (Or.inl ⟨trivial, co, fun q h1 h2 h3 => ho q (by omega) (by omega) (by omega), s91, hv.2⟩), KCl_t (P := False) (D := D) gd_Y xk.2.1 hk1 hF (by decide) (Or.inr ⟨fun h => h, fun q h1 h2 => ho q (by omega) (by omega) (by omega), s92, n90 1 (by decide)⟩), KCl_t (P := False) (D := D) gd_L xk.2.2.1 hk1 hF (by decide) (Or.inr ⟨fun h => h, fun q h1 h2 => ho q (by omega) (by omega) (by omega), s93, n90 2 (by decide)⟩), KCl_t (P := False) (D := D) gd_S xk.2.2.2 hk1 hF (by decide) (Or.inr ⟨fun h => h, fun q h1 h2 => ho q (by omega) (by omega) (by omega), s94, n90 3 (by decide)⟩)⟩ i88 i89 i90 (fun i hi => by rw [s91 i, if_neg (by omega)]) (fun i _ => by rw [s92]) (fun i _ => by rw [s93]) (fun i _ => by rw [s94])
            · exact absurd n1 (by decide)
            · exact absurd n2 (by decide)
            · exact absurd n3 (by decide)
          · subst h0
            rcases q4 with ⟨n0, -⟩ | ⟨-, s91, s92, s93, s94⟩ | ⟨n2, -⟩ | ⟨n3, -⟩
            · exact absurd n0 (by decide)
            · exact fin w1 w2 hc ⟨KCl_t (P := False) (D := D) gd_B xk.1 hk1 hF (by decide) (Or.inr ⟨fun h => h, fun q h1 h2 => ho q (by omega) (by omega) (by omega), s91, n90 0 (by decide)⟩), KCl_t (P := True) gd_Y xk.2.1 hk1 hF (by decide) (Or.inl ⟨trivial, co, fun q h1 h2 h3 => ho q (by omega) (by omega) (by omega), s92, hv.2⟩), KCl_t (P := False) (D := D) gd_L xk.2.2.1 hk1 hF (by decide) (Or.inr ⟨fun h => h, fun q h1 h2 => ho q (by omega) (by omega) (by omega), s93, n90 2 (by decide)⟩), KCl_t (P := False) (D := D) gd_S xk.2.2.2 hk1 hF (by decide) (Or.inr ⟨fun h => h, fun q h1 h2 => ho q (by omega) (by omega) (by omega), s94, n90 3 (by decide)⟩)⟩ i88 i89 i90 (fun i _ => by rw [s91]) (fun i hi => by rw [s92 i, if_neg (by omega)]) (fun i _ => by rw [s93]) (fun i _ => by rw [s94])
            · exact absurd n2 (by decide)
            · exact absurd n3 (by decide)
          · subst h0
            rcases q4 with ⟨n0, -⟩ | ⟨n1, -⟩ | ⟨-, s91, s92, s93, s94⟩ | ⟨n3, -⟩
            · exact absurd n0 (by decide)
            · exact absurd n1 (by decide)
            · exact fin w1 w2 hc ⟨KCl_t (P := False) (D := D) gd_B xk.1 hk1 hF (by decide) (Or.inr ⟨fun h => h, fun q h1 h2 => ho q (by omega) (by omega) (by omega), s91, n90 0 (by decide)⟩), KCl_t (P := False) (D := D) gd_Y xk.2.1 hk1 hF (by decide) (Or.inr ⟨fun h => h, fun q h1 h2 => ho q (by omega) (by omega) (by omega), s92, n90 1 (by decide)⟩), KCl_t (P := True) gd_L xk.2.2.1 hk1 hF (by decide) (Or.inl ⟨trivial, co, fun q h1 h2 h3 => ho q (by omega) (by omega) (by omega), s93, hv.2⟩), KCl_t (P := False) (D := D) gd_S xk.2.2.2 hk1 hF (by decide) (Or.inr ⟨fun h => h, fun q h1 h2 => ho q (by omega) (by omega) (by omega), s94, n90 3 (by decide)⟩)⟩ i88 i89 i90 (fun i _ => by rw [s91]) (fun i _ => by rw [s92]) (fun i hi => by rw [s93 i, if_neg (by omega)]) (fun i _ => by rw [s94])
            · exact absurd n3 (by decide)
          · subst h0
            rcases q4 with ⟨n0, -⟩ | ⟨n1, -⟩ | ⟨n2, -⟩ | ⟨-, s91, s92, s93, s94⟩
            · exact absurd n0 (by decide)
            · exact absurd n1 (by decide)
            · exact absurd n2 (by decide)
            · exact fin w1 w2 hc ⟨KCl_t (P := False) (D := D) gd_B xk.1 hk1 hF (by decide) (Or.inr ⟨fun h => h, fun q h1 h2 => ho q (by omega) (by omega) (by omega), s91, n90 0 (by decide)⟩), KCl_t (P := False) (D := D) gd_Y xk.2.1 hk1 hF (by decide) (Or.inr ⟨fun h => h, fun q h1 h2 => ho q (by omega) (by omega) (by omega), s92, n90 1 (by decide)⟩), KCl_t (P := False) (D := D) gd_L xk.2.2.1 hk1 hF (by decide) (Or.inr ⟨fun h => h, fun q h1 h2 => ho q (by omega) (by omega) (by omega), s93, n90 2 (by decide)⟩), KCl_t (P := True) gd_S xk.2.2.2 hk1 hF (by decide) (Or.inl ⟨trivial, co, fun q h1 h2 h3 => ho q (by omega) (by omega) (by omega), s94, hv.2⟩)⟩ i88 i89 i90 (fun i _ => by rw [s91]) (fun i _ => by rw [s92]) (fun i _ => by rw [s93]) (fun i hi => by rw [s94 i, if_neg (by omega)])
theorem cpR_1 {n : Nat} {f h : Nat → Int} {a b : Int} (hc : cpR n f h a b) {i j k : Nat} (ha : a = (i : Int)) (hb : b = (j : Int)) (hk : k < n) : h (n * j + k) = f (n * i + k) := by
  rw [hc, ha, hb]
  have e1 : ((n : Nat) : Int) * ((j : Nat) : Int) = ((n * j : Nat) : Int) := by rw [Int.natCast_mul]
  have e2 : ((n : Nat) : Int) * ((i : Nat) : Int) = ((n * i : Nat) : Int) := by rw [Int.natCast_mul]
  rw [e1, e2, if_pos (by omega)]
  congr 1
  omega
theorem cpR_0 {n : Nat} {f h : Nat → Int} {a b : Int} (hc : cpR n f h a b) {j q k : Nat} (hb : b = (j : Int)) (hq : ¬ q = j) (hk : k < n) : h (n * q + k) = f (n * q + k) := by
  rw [hc, hb]
  have e1 : ((n : Nat) : Int) * ((j : Nat) : Int) = ((n * j : Nat) : Int) := by rw [Int.natCast_mul]
  rw [e1]
  rcases (show q + 1 ≤ j ∨ j + 1 ≤ q by omega) with h | h
  · have h2 : n * (q + 1) ≤ n * j := Nat.mul_le_mul_left n h
    rw [Nat.mul_add, Nat.mul_one] at h2
    rw [if_neg (by omega)]
  · have h2 : n * (j + 1) ≤ n * q := Nat.mul_le_mul_left n h
    rw [Nat.mul_add, Nat.mul_one] at h2
    rw [if_neg (by omega)]
/-- all rows i copied to j: row j is as i was; others stay -/
theorem Cp_M {F F' : Nat → Nat → Int} {a b : Int} {i j : Nat} (ha : a = (i : Int)) (hb : b = (j : Int)) (h : CpA a b (F 86) (F 87) (F 88) (F 89) (F 90) (F 91) (F 92) (F 93) (F 94) (F' 86) (F' 87) (F' 88) (F' 89) (F' 90) (F' 91) (F' 92) (F' 93) (F' 94)) : EqM F i F' j ∧ ∀ q : Nat, ¬ q = j → EqM F q F' q := by
  obtain ⟨h86, h87, h88, h89, h90, h91, h92, h93, h94⟩ := h
  have one : ∀ {f g : Nat → Int}, cpR 1 f g a b → g j = f i ∧ ∀ q : Nat, ¬ q = j → g q = f q := fun h => by
    have e1 := cpR_1 (k := 0) h ha hb (by decide)
    rw [show 1 * j + 0 = j by omega, show 1 * i + 0 = i by omega] at e1
    refine ⟨e1, fun q hq => ?_⟩
    have e2 := cpR_0 (k := 0) h hb hq (by decide)
    rw [show 1 * q + 0 = q by omega] at e2
    exact e2
  exact ⟨⟨⟨(one h87).1, (one h88).1, (one h89).1⟩, fun k hk => cpR_1 h86 ha hb hk, fun k hk => cpR_1 h90 ha hb hk, fun k hk => cpR_1 h91 ha hb hk, fun k hk => cpR_1 h92 ha hb hk, fun k hk => cpR_1 h93 ha hb hk, fun k hk => cpR_1 h94 ha hb hk⟩, fun q hq => ⟨⟨(one h87).2 q hq, (one h88).2 q hq, (one h89).2 q hq⟩, fun k hk => cpR_0 h86 hb hq hk, fun k hk => cpR_0 h90 hb hq hk, fun k hk => cpR_0 h91 hb hq hk, fun k hk => cpR_0 h92 hb hq hk, fun k hk => cpR_0 h93 hb hq hk, fun k hk => cpR_0 h94 hb hq hk⟩⟩
theorem RLAg {γ γ1 γ2 : qG} {a a' z1 z2 : Int} (ha : a = a') (hR : REL γ) (h1 : rlAgC γ [q2 0, q1 a] (some (q1 z1)) γ1) (h2 : rlAgM γ1 [q2 85, q1 a'] (some (q1 z2)) γ2) : REL γ2 ∧ z1 = z2 := by
  subst ha
  obtain ⟨F, U, E⟩ := γ
  obtain ⟨F1, U1, E1⟩ := γ1
  obtain ⟨F2, U2, E2⟩ := γ2
  obtain ⟨_, _, d1, r1, h1⟩ := h1
  obtain ⟨e2, _, _, d2, r2, h2⟩ := h2
  cases d1
  cases d2
  cases r1
  cases r2
  have e2 : E2 = E1 := e2
  obtain ⟨hT, f2, eU⟩ := h2
  have eU : U2 = U1 := eU
  subst e2 eU
  have f2 : ∀ p : Nat, ¬ (86 ≤ p ∧ p ≤ 94) → F2 p = F1 p := f2
  rcases h1 with ⟨rfl, ha, q, hE, e1, hC⟩ | ⟨rfl, hn, h1⟩
  · have e1 : E2 = E := e1
    subst e1
    have hE : E2 a.toNat = some (111 + 43 * q) := hE
    have hC : EqT 1 (111 + 43 * q) F U F1 U2 := hC
    have hj : a.toNat < 3 := by omega
    rcases hR.2.1 a.toNat hj with ⟨x1, -⟩ | ⟨q', x1, x2, x3⟩
    · have x1 : E2 a.toNat = none := x1
      rw [hE] at x1
      cases x1
    · have x1 : E2 a.toNat = some (111 + 43 * q') := x1
      have x2 : ¬ F 110 a.toNat = 0 := x2
      have x3 : RB F U (111 + 43 * q') (a.toNat + 1) := x3
      rw [hE] at x1
      have hq : q = q' := by have := Option.some.inj x1; omega
      subst hq
      have hf : ∀ p : Nat, 44 ≤ p → F1 p = F p ∧ U2 p = U p := fun p hp => hC.1 p (by omega)
      have hT : AgM a z2 (F1 110) (F1 86) (F1 87) (F1 88) (F1 89) (F1 90) (F1 91) (F1 92) (F1 93) (F1 94) (F2 86) (F2 87) (F2 88) (F2 89) (F2 90) (F2 91) (F2 92) (F2 93) (F2 94) := hT
      rw [(hf 110 (by decide)).1, (hf 86 (by decide)).1, (hf 87 (by decide)).1, (hf 88 (by decide)).1, (hf 89 (by decide)).1, (hf 90 (by decide)).1, (hf 91 (by decide)).1, (hf 92 (by decide)).1, (hf 93 (by decide)).1, (hf 94 (by decide)).1] at hT
      rcases hT with ⟨rfl, -, hM⟩ | ⟨-, hn, -⟩
      · obtain ⟨m1, m2⟩ := Cp_M (i := a.toNat + 1) (j := 0) (by omega) rfl hM
        refine ⟨REL_st hR (RB_tr (EqC_g hC.2 (fun q h1 h2 => ⟨f2 q (by omega), rfl⟩)) m1 x3) (fun p hp => ⟨(f2 p (by omega)).trans (hf p (by omega)).1, (hf p (by omega)).2⟩) (fun j _ => m2 (j + 1) (by omega)) ((f2 110 (by decide)).trans (hf 110 (by decide)).1), rfl⟩
      · exact absurd ⟨ha, x2⟩ hn
  · cases h1
    have hT : AgM a z2 (F 110) (F 86) (F 87) (F 88) (F 89) (F 90) (F 91) (F 92) (F 93) (F 94) (F2 86) (F2 87) (F2 88) (F2 89) (F2 90) (F2 91) (F2 92) (F2 93) (F2 94) := hT
    rcases hT with ⟨rfl, ⟨ha, hk⟩, -⟩ | ⟨rfl, -, h86, h87, h88, h89, h90, h91, h92, h93, h94⟩
    · exfalso
      apply hn
      refine ⟨ha, fun h9 => ?_⟩
      rcases hR.2.1 a.toNat (by omega) with ⟨x1, x2⟩ | ⟨q', x1, -⟩
      · exact hk x2
      · rw [h9] at x1
        cases x1
    · refine ⟨?_, rfl⟩
      have e : F2 = F := by
        funext p
        by_cases c : 86 ≤ p ∧ p ≤ 94
        · rcases (show p = 86 ∨ p = 87 ∨ p = 88 ∨ p = 89 ∨ p = 90 ∨ p = 91 ∨ p = 92 ∨ p = 93 ∨ p = 94 by omega) with rfl | rfl | rfl | rfl | rfl | rfl | rfl | rfl | rfl
          · exact h86
          · exact h87
          · exact h88
          · exact h89
          · exact h90
          · exact h91
          · exact h92
          · exact h93
          · exact h94
        · exact f2 p c
      rw [e]; exact hR
/-- an image taken: its block (old or new) is as what is told -/
theorem REL_im {F U F1 U1 F2 : Nat → Nat → Int} {E E1 : Nat → Option Nat} {a : Int} {q : Nat} (ha : 0 ≤ a ∧ a ≤ 2) (hR : REL (F, U, E)) (hC : EqT (111 + 43 * q) 1 F U F1 U1) (hM : CpA 0 (a + 1) (F1 86) (F1 87) (F1 88) (F1 89) (F1 90) (F1 91) (F1 92) (F1 93) (F1 94) (F2 86) (F2 87) (F2 88) (F2 89) (F2 90) (F2 91) (F2 92) (F2 93) (F2 94)) (f2 : ∀ p : Nat, ¬ (86 ≤ p ∧ p ≤ 94) → ¬ p = 110 → F2 p = F1 p) (hk : F2 110 = q_up (F1 110) a.toNat 1) (hq : ∀ j : Nat, j < 3 → ¬ j = a.toNat → E j = none ∨ ¬ E j = some (111 + 43 * q)) (hE : E1 a.toNat = some (111 + 43 * q)) (hE2 : ∀ j : Nat, j < 3 → ¬ j = a.toNat → E1 j = E j) : REL (F2, U1, E1) := by
  have hf : ∀ p : Nat, ¬ (111 + 43 * q ≤ p ∧ p ≤ 111 + 43 * q + 42) → F1 p = F p ∧ U1 p = U p := hC.1
  rw [(hf 86 (by omega)).1, (hf 87 (by omega)).1, (hf 88 (by omega)).1, (hf 89 (by omega)).1, (hf 90 (by omega)).1, (hf 91 (by omega)).1, (hf 92 (by omega)).1, (hf 93 (by omega)).1, (hf 94 (by omega)).1] at hM
  rw [(hf 110 (by omega)).1] at hk
  obtain ⟨m1, m2⟩ := Cp_M (i := 0) (j := a.toNat + 1) rfl (by omega) hM
  refine ⟨?_, fun j hj => ?_, fun i j hi hj hne => ?_⟩
  · exact RB_tr (EqC_of (fun p h1 h2 => ⟨(f2 p (by omega) (by omega)).trans (hf p (by omega)).1, (hf p (by omega)).2⟩)) (m2 0 (by omega)) hR.1
  · by_cases e : j = a.toNat
    · subst e
      refine Or.inr ⟨q, hE, ?_, ?_⟩
      · show ¬ F2 110 a.toNat = 0
        rw [hk, q_up_s]; decide
      · exact RB_tr (EqC_g hC.2 (fun p h1 h2 => ⟨f2 p (by omega) (by omega), rfl⟩)) m1 hR.1
    · rcases hR.2.1 j hj with ⟨x1, x2⟩ | ⟨q', x1, x2, x3⟩
      · refine Or.inl ⟨?_, ?_⟩
        · show E1 j = none
          rw [hE2 j hj e]; exact x1
        · show F2 110 j = 0
          rw [hk, q_up_n e]; exact x2
      · have x1 : E j = some (111 + 43 * q') := x1
        have x2 : ¬ F 110 j = 0 := x2
        have x3 : RB F U (111 + 43 * q') (j + 1) := x3
        have hqq : ¬ q' = q := fun h9 => by
          rcases hq j hj e with y | y
          · rw [y] at x1; cases x1
          · exact y (by rw [← h9]; exact x1)
        refine Or.inr ⟨q', ?_, ?_, ?_⟩
        · show E1 j = some (111 + 43 * q')
          rw [hE2 j hj e]; exact x1
        · show ¬ F2 110 j = 0
          rw [hk, q_up_n e]; exact x2
        · exact RB_tr (EqC_of (fun p h1 h2 => ⟨(f2 p (by omega) (by omega)).trans (hf p (by omega)).1, (hf p (by omega)).2⟩)) (m2 (j + 1) (by omega)) x3
  · show E1 i = none ∨ ¬ E1 i = E1 j
    by_cases ei : i = a.toNat
    · subst ei
      right
      rw [hE]
      rcases hq j hj (fun h => hne h.symm) with y | y
      · rw [hE2 j hj (fun h => hne h.symm), y]; intro h; cases h
      · rw [hE2 j hj (fun h => hne h.symm)]; exact fun h => y h.symm
    · by_cases ej : j = a.toNat
      · subst ej
        rw [hE, hE2 i hi ei]
        exact hq i hi ei
      · rw [hE2 i hi ei, hE2 j hj ej]
        exact hR.2.2 i j hi hj hne
