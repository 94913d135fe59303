/-! ===== keep, text: what is known behind them ===== -/
def KpBl (a b : Int) (F U F' U' : Nat → Nat → Int) : Prop := (a = 0 ∧ CpBlk [8, 8, 4, 32, 6, 6, 6] 5 (8 + 8 * b.toNat) 48 F U F' U') ∨ (a = 1 ∧ CpBlk [40, 40, 40, 40] 1 (24 + 5 * b.toNat) 56 F U F' U') ∨ (a = 2 ∧ CpBlk [8] 1 (34 + 2 * b.toNat) 61 F U F' U') ∨ (a = 3 ∧ CpBlk [10, 10] 1 (38 + 3 * b.toNat) 63 F U F' U')
def kpX (F U F' U' : Nat → Nat → Int) (a b : Int) : Prop := ∃ F1 : Nat → Nat → Int, KpBl a b F U F1 U' ∧ F' = fu F1 3 (q_up (F1 3) a.toNat (max (F1 3 a.toNat) (b + 1)))
theorem kp_f {F1 : Nat → Nat → Int} {ct ct2 : Nat → Int} {a b z y : Int} (g : ct = F1 3) (g2 : ct2 = F1 3) (hy : y = ct2 a.toNat) (hz : z = max y (b + 1)) : fu F1 3 (q_up ct a.toNat z) = fu F1 3 (q_up (F1 3) a.toNat (max (F1 3 a.toNat) (b + 1))) := by
  rw [hz, hy, g, g2]
theorem Pl_a {a b z : Int} {mn : Nat → Int} (h : PlQ a b z mn) (hn : ¬ z = -1) : 0 ≤ a ∧ a ≤ 3 := by
  rcases h with ⟨h1, -⟩ | ⟨⟨h1, -⟩, -⟩
  · exact absurd h1 hn
  · exact h1.1
theorem Pl_z {a b z : Int} {mn : Nat → Int} (h : PlQ a b z mn) (hn : ¬ z = -1) : 0 ≤ z ∧ z ≤ 1 := by
  rcases h with ⟨h1, -⟩ | ⟨-, h1⟩
  · exact absurd h1 hn
  · exact h1
def sameT (F U F' U' : Nat → Nat → Int) : Prop := F' 3 = F 3 ∧ ∀ p : Nat, 7 ≤ p → p ≤ 43 → F' p = F p ∧ U' p = U p
def othT (p n : Nat) (F U F' U' : Nat → Nat → Int) : Prop := ∀ q : Nat, 7 ≤ q → q ≤ 43 → ¬ (p ≤ q ∧ q ≤ p + n) → F' q = F q ∧ U' q = U q
def CoA (a : Int) (k : Nat) (D : Nat → Int) (F U F' U' : Nat → Nat → Int) : Prop := (a = 0 ∧ CBp F' U' (8 + 8 * k) D ∧ othT (8 + 8 * k) 7 F U F' U') ∨ (a = 1 ∧ CYp F' U' (24 + 5 * k) D ∧ othT (24 + 5 * k) 4 F U F' U') ∨ (a = 2 ∧ CLp F' U' (34 + 2 * k) D ∧ othT (34 + 2 * k) 1 F U F' U') ∨ (a = 3 ∧ CSp F' U' (38 + 3 * k) D ∧ othT (38 + 3 * k) 2 F U F' U')
def txC (F U F' U' : Nat → Nat → Int) (a b z : Int) : Prop := U' 1 0 = 0 ∧ F' 2 = F 2 ∧ (∀ p : Nat, 66 ≤ p → F' p = F p ∧ U' p = U p) ∧ ((¬ PlO a b (F 3) ∧ z = -2 ∧ U' 1 1 = 0 ∧ U' 1 2 = -1 ∧ sameT F U F' U') ∨ (PlO a b (F 3) ∧ ∃ D : Nat → Int, RdO (tc (F 2)) (U 1 0) a (U' 1 1) (U' 1 2) D ∧ ((¬ U' 1 1 = 0 ∧ z = -1 ∧ sameT F U F' U') ∨ (U' 1 1 = 0 ∧ z = kTx a b (F 3) ∧ (0 ≤ z ∧ z ≤ 1) ∧ F' 3 = q_up (F 3) a.toNat (max (F 3 a.toNat) (z + 1)) ∧ CoA a z.toNat D F U F' U'))))
theorem fw3 {U : Nat → Nat → Int} {x y z : Int} {p : Nat} (h : ¬ p = 1) : fw (fw (fw U 1 0 x) 1 1 y) 1 2 z p = U p := by
  rw [fw_c h rfl, fw_c h rfl, fw_c h rfl]
theorem fw2 {U : Nat → Nat → Int} {x y : Int} {p : Nat} (h : ¬ p = 1) : fw (fw U 1 1 x) 1 2 y p = U p := by
  rw [fw_c h rfl, fw_c h rfl]
theorem tx_2 {F U F1 U1 : Nat → Nat → Int} {a b z : Int} (eF : F1 = F) (eU : U1 = fw (fw (fw U 1 0 0) 1 1 0) 1 2 (-1)) (h : PlQ a b z (F 3)) (hz : z = -1) : txC F U F1 U1 a b (-2) := by
  subst eF
  subst eU
  refine ⟨rfl, rfl, fun p hp => ⟨rfl, fw3 (by omega)⟩, Or.inl ⟨?_, rfl, rfl, rfl, rfl, fun p h1 _ => ⟨rfl, fw3 (by omega)⟩⟩⟩
  rcases h with ⟨-, h⟩ | ⟨-, h⟩
  · exact h
  · omega
theorem Pl_o {a b z : Int} {mn : Nat → Int} (h : PlQ a b z mn) (hn : ¬ z = -1) : PlO a b mn ∧ z = kTx a b mn := by
  rcases h with ⟨h1, -⟩ | ⟨h1, -⟩
  · exact absurd h1 hn
  · exact h1
theorem tx_1 {F U F1 U1 F2 U2 : Nat → Nat → Int} {a b z ln x1 x2 x3 : Int} (eF : F1 = F) (eU : U1 = fw (fw (fw U 1 0 0) 1 1 0) 1 2 (-1)) (h : PlQ a b z (F 3)) (hz : ¬ z = -1) (gl : ln = U 1 0) (hR : rdX F1 U1 F2 U2 a ln) (g1 : x1 = U2 45 1) (g2 : x2 = U2 45 2) (g3 : x3 = U2 45 1) (h0 : ¬ x3 = 0) : txC F U F2 (fw (fw U2 1 1 x1) 1 2 x2) a b (-1) := by
  subst eF
  subst eU
  subst gl
  subst g1
  subst g2
  subst g3
  obtain ⟨hF, D, fp, fd, hD, -⟩ := hR
  have e0 : U2 1 0 = 0 := by rw [(hF 1 (by omega)).2]; rfl
  refine ⟨e0, (hF 2 (by omega)).1, fun p hp => ?_, Or.inr ⟨(Pl_o h hz).1, D, hD, Or.inl ⟨h0, rfl, (hF 3 (by omega)).1, fun p h1 h2 => ?_⟩⟩⟩
  · obtain ⟨a1, a2⟩ := hF p (by omega)
    exact ⟨a1, by rw [fw2 (by omega), a2, fw3 (by omega)]⟩
  · obtain ⟨a1, a2⟩ := hF p (by omega)
    exact ⟨a1, by rw [fw2 (by omega), a2, fw3 (by omega)]⟩
theorem CB_c {f1 f2 f3 f4 f5 f6 f7 g1 g2 g3 g4 g5 g6 g7 D : Nat → Int} {u0 u1 u2 u3 u4 v0 v1 v2 v3 v4 : Int} (h : CB f1 f2 f3 f4 f5 f6 f7 u0 u1 u2 u3 u4 D) (hu : v0 = u0 ∧ v1 = u1 ∧ v2 = u2 ∧ v3 = u3 ∧ v4 = u4) (e1 : ∀ i : Nat, i < 8 → g1 i = f1 i) (e2 : ∀ i : Nat, i < 8 → g2 i = f2 i) (e3 : ∀ i : Nat, i < 4 → g3 i = f3 i) (e4 : ∀ i : Nat, i < 32 → g4 i = f4 i) (e5 : ∀ i : Nat, i < 6 → g5 i = f5 i) (e6 : ∀ i : Nat, i < 6 → g6 i = f6 i) (e7 : ∀ i : Nat, i < 6 → g7 i = f7 i) : CB g1 g2 g3 g4 g5 g6 g7 v0 v1 v2 v3 v4 D := by
  obtain ⟨rfl, rfl, rfl, rfl, rfl⟩ := hu
  obtain ⟨h0, a1, a2, a3, a4, a5, a6, a7⟩ := h
  exact ⟨h0, fun i hi => by rw [e1 i hi]; exact a1 i hi, fun i hi => by rw [e2 i hi]; exact a2 i hi, fun i hi => by rw [e3 i hi]; exact a3 i hi, fun i hi => by rw [e4 i hi]; exact a4 i hi, fun i hi => by rw [e5 i hi]; exact a5 i hi, fun i hi => by rw [e6 i hi]; exact a6 i hi, fun i hi => by rw [e7 i hi]; exact a7 i hi⟩
theorem CY_c {k1 k2 k3 k4 g1 g2 g3 g4 D : Nat → Int} {d e : Int} (h : CY k1 k2 k3 k4 d D) (hd : e = d) (h40 : d ≤ 40) (e1 : ∀ i : Nat, i < 40 → g1 i = k1 i) (e2 : ∀ i : Nat, i < 40 → g2 i = k2 i) (e3 : ∀ i : Nat, i < 40 → g3 i = k3 i) (e4 : ∀ i : Nat, i < 40 → g4 i = k4 i) : CY g1 g2 g3 g4 e D := by
  subst hd
  obtain ⟨h0, h1⟩ := h
  refine ⟨h0, fun i hi => ?_⟩
  obtain ⟨a, b, c, d⟩ := h1 i hi
  exact ⟨by rw [e1 i (by omega)]; exact a, by rw [e2 i (by omega)]; exact b, by rw [e3 i (by omega)]; exact c, by rw [e4 i (by omega)]; exact d⟩
theorem CL_c {g f D : Nat → Int} {o v : Int} (h : CL f o D) (hv : v = o) (e1 : ∀ i : Nat, i < 8 → g i = f i) : CL g v D := by
  subst hv
  exact ⟨h.1, fun i hi => by rw [e1 i hi]; exact h.2 i hi⟩
theorem CS_c {p q p' q' D : Nat → Int} {c e : Int} (h : CS p q c D) (hd : e = c) (h10 : c ≤ 10) (e1 : ∀ i : Nat, i < 10 → p' i = p i) (e2 : ∀ i : Nat, i < 10 → q' i = q i) : CS p' q' e D := by
  subst hd
  obtain ⟨h0, h1⟩ := h
  refine ⟨h0, fun i hi => ?_⟩
  obtain ⟨a, b⟩ := h1 i hi
  exact ⟨by rw [e1 i (by omega)]; exact a, by rw [e2 i (by omega)]; exact b⟩
theorem CBp_c {F U F' U' : Nat → Nat → Int} {p s : Nat} {D : Nat → Int} (h : CBp F U s D) (hr : ∀ j : Nat, j < 7 → ∀ i : Nat, i < [8, 8, 4, 32, 6, 6, 6].getD j 0 → F' (p + 1 + j) i = F (s + 1 + j) i) (hu : ∀ i : Nat, i < 5 → U' p i = U s i) : CBp F' U' p D := CB_c h ⟨hu 0 (by decide), hu 1 (by decide), hu 2 (by decide), hu 3 (by decide), hu 4 (by decide)⟩ (hr 0 (by decide)) (hr 1 (by decide)) (hr 2 (by decide)) (hr 3 (by decide)) (hr 4 (by decide)) (hr 5 (by decide)) (hr 6 (by decide))
theorem CYp_c {F U F' U' : Nat → Nat → Int} {p s : Nat} {D : Nat → Int} (h : CYp F U s D) (hr : ∀ j : Nat, j < 4 → ∀ i : Nat, i < [40, 40, 40, 40].getD j 0 → F' (p + 1 + j) i = F (s + 1 + j) i) (hu : ∀ i : Nat, i < 1 → U' p i = U s i) : CYp F' U' p D := ⟨CY_c h.1 (hu 0 (by decide)) h.2 (hr 0 (by decide)) (hr 1 (by decide)) (hr 2 (by decide)) (hr 3 (by decide)), by rw [hu 0 (by decide)]; exact h.2⟩
theorem CLp_c {F U F' U' : Nat → Nat → Int} {p s : Nat} {D : Nat → Int} (h : CLp F U s D) (hr : ∀ j : Nat, j < 1 → ∀ i : Nat, i < [8].getD j 0 → F' (p + 1 + j) i = F (s + 1 + j) i) (hu : ∀ i : Nat, i < 1 → U' p i = U s i) : CLp F' U' p D := CL_c h (hu 0 (by decide)) (hr 0 (by decide))
theorem CSp_c {F U F' U' : Nat → Nat → Int} {p s : Nat} {D : Nat → Int} (h : CSp F U s D) (hr : ∀ j : Nat, j < 2 → ∀ i : Nat, i < [10, 10].getD j 0 → F' (p + 1 + j) i = F (s + 1 + j) i) (hu : ∀ i : Nat, i < 1 → U' p i = U s i) : CSp F' U' p D := ⟨CS_c h.1 (hu 0 (by decide)) h.2 (hr 0 (by decide)) (hr 1 (by decide)), by rw [hu 0 (by decide)]; exact h.2⟩
/-- the reader's block made a told one -/
theorem Kp_co {F U F1 U1 : Nat → Nat → Int} {D : Nat → Int} {a b fa fp fd : Int} (hb : 0 ≤ b ∧ b ≤ 1) (h : KpBl a b F U F1 U1) (hC : CsI fa a D fp fd (F 49) (F 50) (F 51) (F 52) (F 53) (F 54) (F 55) (U 48 0) (U 48 1) (U 48 2) (U 48 3) (U 48 4) (U 45 7) (U 45 8) (F 57) (F 58) (F 59) (F 60) (U 56 0) (F 62) (U 61 0) (F 64) (F 65) (U 63 0)) (h0 : fa = 0) (hy : U 56 0 ≤ 40) (hs : U 63 0 ≤ 10) : CoA a b.toNat D F U F1 U1 ∧ (F1 3 = F 3 ∧ F1 2 = F 2) ∧ (U1 1 = U 1) ∧ (∀ p : Nat, 44 ≤ p → F1 p = F p ∧ U1 p = U p) := by
  obtain ⟨c0, c1, c2, c3⟩ := hC h0
  rcases h with ⟨e, f, r, u⟩ | ⟨e, f, r, u⟩ | ⟨e, f, r, u⟩ | ⟨e, f, r, u⟩
  · have f : ∀ q : Nat, ¬ (8 + 8 * b.toNat ≤ q ∧ q ≤ 8 + 8 * b.toNat + 7) → F1 q = F q ∧ U1 q = U q := f
    exact ⟨Or.inl ⟨e, CBp_c (s := 48) (c0 e).1 r u, fun q _ _ h3 => f q h3⟩, ⟨(f 3 (by omega)).1, (f 2 (by omega)).1⟩, (f 1 (by omega)).2, fun p hp => f p (by omega)⟩
  · have f : ∀ q : Nat, ¬ (24 + 5 * b.toNat ≤ q ∧ q ≤ 24 + 5 * b.toNat + 4) → F1 q = F q ∧ U1 q = U q := f
    exact ⟨Or.inr (Or.inl ⟨e, CYp_c (s := 56) ⟨c1 e, hy⟩ r u, fun q _ _ h3 => f q h3⟩), ⟨(f 3 (by omega)).1, (f 2 (by omega)).1⟩, (f 1 (by omega)).2, fun p hp => f p (by omega)⟩
  · have f : ∀ q : Nat, ¬ (34 + 2 * b.toNat ≤ q ∧ q ≤ 34 + 2 * b.toNat + 1) → F1 q = F q ∧ U1 q = U q := f
    exact ⟨Or.inr (Or.inr (Or.inl ⟨e, CLp_c (s := 61) (c2 e) r u, fun q _ _ h3 => f q h3⟩)), ⟨(f 3 (by omega)).1, (f 2 (by omega)).1⟩, (f 1 (by omega)).2, fun p hp => f p (by omega)⟩
  · have f : ∀ q : Nat, ¬ (38 + 3 * b.toNat ≤ q ∧ q ≤ 38 + 3 * b.toNat + 2) → F1 q = F q ∧ U1 q = U q := f
    exact ⟨Or.inr (Or.inr (Or.inr ⟨e, CSp_c (s := 63) ⟨c3 e, hs⟩ r u, fun q _ _ h3 => f q h3⟩)), ⟨(f 3 (by omega)).1, (f 2 (by omega)).1⟩, (f 1 (by omega)).2, fun p hp => f p (by omega)⟩
theorem CB_FU {F U F' U' : Nat → Nat → Int} {p : Nat} {D : Nat → Int} (h : CBp F U p D) (hF : ∀ j : Nat, j < 7 → F' (p + 1 + j) = F (p + 1 + j)) (hU : U' p = U p) : CBp F' U' p D := CBp_c h (fun j hj i _ => by rw [hF j hj]) (fun i _ => by rw [hU])
theorem CY_FU {F U F' U' : Nat → Nat → Int} {p : Nat} {D : Nat → Int} (h : CYp F U p D) (hF : ∀ j : Nat, j < 4 → F' (p + 1 + j) = F (p + 1 + j)) (hU : U' p = U p) : CYp F' U' p D := CYp_c h (fun j hj i _ => by rw [hF j hj]) (fun i _ => by rw [hU])
theorem CL_FU {F U F' U' : Nat → Nat → Int} {p : Nat} {D : Nat → Int} (h : CLp F U p D) (hF : ∀ j : Nat, j < 1 → F' (p + 1 + j) = F (p + 1 + j)) (hU : U' p = U p) : CLp F' U' p D := CLp_c h (fun j hj i _ => by rw [hF j hj]) (fun i _ => by rw [hU])
theorem CS_FU {F U F' U' : Nat → Nat → Int} {p : Nat} {D : Nat → Int} (h : CSp F U p D) (hF : ∀ j : Nat, j < 2 → F' (p + 1 + j) = F (p + 1 + j)) (hU : U' p = U p) : CSp F' U' p D := CSp_c h (fun j hj i _ => by rw [hF j hj]) (fun i _ => by rw [hU])
/-- other rows and numbers of the same places -/
theorem CoA_c {F U F' U' F0 U0 F2 : Nat → Nat → Int} {a : Int} {k : Nat} {D : Nat → Int} (hk : k ≤ 1) (h : CoA a k D F U F' U') (e0 : ∀ p : Nat, 7 ≤ p → p ≤ 43 → F p = F0 p ∧ U p = U0 p) (e2 : ∀ p : Nat, ¬ p = 3 → F2 p = F' p) : CoA a k D F0 U0 F2 U' := by
  have ho : ∀ {p n : Nat}, othT p n F U F' U' → othT p n F0 U0 F2 U' := fun h q h1 h2 h3 => by
    obtain ⟨x, y⟩ := h q h1 h2 h3
    obtain ⟨x2, y2⟩ := e0 q h1 h2
    exact ⟨by rw [e2 q (by omega), x, x2], by rw [y, y2]⟩
  rcases h with ⟨e, c, o⟩ | ⟨e, c, o⟩ | ⟨e, c, o⟩ | ⟨e, c, o⟩
  · exact Or.inl ⟨e, CB_FU c (fun j hj => e2 _ (by omega)) rfl, ho o⟩
  · exact Or.inr (Or.inl ⟨e, CY_FU c (fun j hj => e2 _ (by omega)) rfl, ho o⟩)
  · exact Or.inr (Or.inr (Or.inl ⟨e, CL_FU c (fun j hj => e2 _ (by omega)) rfl, ho o⟩))
  · exact Or.inr (Or.inr (Or.inr ⟨e, CS_FU c (fun j hj => e2 _ (by omega)) rfl, ho o⟩))
theorem tx_0 {F U F1 U1 F2 U2 F3 U3 : Nat → Nat → Int} {a b z ln x1 x2 x3 : Int} (eF : F1 = F) (eU : U1 = fw (fw (fw U 1 0 0) 1 1 0) 1 2 (-1)) (h : PlQ a b z (F 3)) (hz : ¬ z = -1) (gl : ln = U 1 0) (hR : rdX F1 U1 F2 U2 a ln) (g1 : x1 = U2 45 1) (g2 : x2 = U2 45 2) (g3 : x3 = U2 45 1) (h0 : x3 = 0) (hK : kpX F2 (fw (fw U2 1 1 x1) 1 2 x2) F3 U3 a z) : txC F U F3 U3 a b z := by
  subst eF
  subst eU
  subst gl
  subst g1
  subst g2
  subst g3
  obtain ⟨hF, D, fp, fd, hD, hC, hy, hs⟩ := hR
  obtain ⟨F4, hB, rfl⟩ := hK
  obtain ⟨c1, ⟨c2, c2'⟩, c3, c4⟩ := Kp_co (Pl_z h hz) hB hC h0 hy.2 hs.2
  have e0 : U2 1 0 = 0 := by rw [(hF 1 (by omega)).2]; rfl
  have e3 := (hF 3 (by omega)).1
  have hz2 := Pl_z h hz
  have u1 : U3 1 0 = 0 := by rw [c3]; exact e0
  have u2 : U3 1 1 = U2 45 1 := by rw [c3]; rfl
  have u3 : U3 1 2 = U2 45 2 := by rw [c3]; rfl
  refine ⟨u1, ?_, fun p hp => ?_, Or.inr ⟨(Pl_o h hz).1, D, by rw [u2, u3]; exact hD, Or.inr ⟨by rw [u2]; exact h0, (Pl_o h hz).2, hz2, ?_, ?_⟩⟩⟩
  · rw [fu_n (by decide), c2']; exact (hF 2 (by omega)).1
  · obtain ⟨a1, a2⟩ := hF p (by omega)
    obtain ⟨b1, b2⟩ := c4 p (by omega)
    exact ⟨by rw [fu_n (by omega), b1, a1], by rw [b2, fw2 (by omega), a2, fw3 (by omega)]⟩
  · rw [fu_h, c2, e3]
  · refine CoA_c (by omega) c1 (fun p h1 h2 => ?_) (fun p hp => fu_n hp)
    obtain ⟨a1, a2⟩ := hF p (by omega)
    exact ⟨a1, by rw [fw2 (by omega), a2, fw3 (by omega)]⟩
