/-! cells made anew, seen as places of a world -/
def ti (n : Nat) (f : Nat → Int32) : Nat → Int := fun i => if i < n then (f i).toInt else 0
theorem ti_i (n : Nat) (f : Nat → Int32) (i : Nat) : q_i (ti n f i) := by
  unfold ti
  split
  · exact q_it _
  · exact q_i0
theorem ti_rg {n : Nat} {f : Nat → Int32} {lo hi : Int} (h : ∀ i : Nat, i < n → lo ≤ (f i).toInt ∧ (f i).toInt ≤ hi) (h0 : lo ≤ 0 ∧ 0 ≤ hi) : q_rg lo hi (ti n f) := by
  intro j
  unfold ti
  split
  · rename_i h1
    exact h j h1
  · exact h0
theorem ti_at {D : va_G} {cl : List vw_C} {a n : Nat} {c : ClassId} {f : Nat → Int32} {H : Heap} (h : va_at D cl (a, .inl (c, n, .inl f)) H) : va_at D cl (a, .inl (c, n, .inl (fun i => Int32.ofInt (ti n f i)))) H := by
  have e1 : (fun j : Fin n => Value.int (Int32.ofInt (ti n f j.val))) = fun j : Fin n => Value.int (f j.val) := by
    funext j
    unfold ti
    rw [if_pos j.isLt, Int32.ofInt_toInt]
  have e2 : vp_cell c (n, .inl (fun i => Int32.ofInt (ti n f i))) = vp_cell c (n, .inl f) := congrArg (fun F : Fin n → Value => ({ cls := c, slots := Array.ofFn F, vm := .none } : Cell)) e1
  have h1 : H[a]? = some (vp_cell c (n, .inl f)) := h
  show H[a]? = some (vp_cell c (n, .inl (fun i => Int32.ofInt (ti n f i))))
  rw [e2]
  exact h1
theorem rf2 {g : Nat → Nat} {x y a b : Nat} (h1 : g x = a) (h2 : g y = b) : (fun i => (([some x, some y] : List (Option Nat)).getD i none).map g) = va_up (va_up (fun _ => none) 0 (some a)) 1 (some b) := by
  subst h1
  subst h2
  funext i
  match i with
  | 0 => rfl
  | 1 => rfl
  | i + 2 =>
    unfold va_up
    rw [if_neg (by omega), if_neg (by omega)]
    rfl
theorem rf3 {g : Nat → Nat} : (fun i => (([none, none, none] : List (Option Nat)).getD i none).map g) = fun _ => none := by
  funext i
  match i with
  | 0 => rfl
  | 1 => rfl
  | 2 => rfl
  | i + 3 => rfl
theorem rf2_at {D : va_G} {cl : List vw_C} {k : Nat → ClassId} {g : Nat → Nat} {A t x y a b : Nat} {H : Heap} (h : va_at D cl (A, .inl (k t, 2, .inr (.inr (.inr (.inr (va_up (va_up (fun _ => none) 0 (some a)) 1 (some b))))))) H) (h1 : g x = a) (h2 : g y = b) : va_at D cl (A, q_c k g (.inl (t, 2, .inr (.inr [some x, some y])))) H := by
  show va_at D cl (A, .inl (k t, 2, .inr (.inr (.inr (.inr (fun i => (([some x, some y] : List (Option Nat)).getD i none).map g)))))) H
  rw [rf2 h1 h2]
  exact h
theorem rf3_at {D : va_G} {cl : List vw_C} {k : Nat → ClassId} {g : Nat → Nat} {A t : Nat} {H : Heap} (h : va_at D cl (A, .inl (k t, 3, .inr (.inr (.inr (.inr (fun _ => none)))))) H) : va_at D cl (A, q_c k g (.inl (t, 3, .inr (.inr [none, none, none])))) H := by
  show va_at D cl (A, .inl (k t, 3, .inr (.inr (.inr (.inr (fun i => (([none, none, none] : List (Option Nat)).getD i none).map g)))))) H
  rw [rf3]
  exact h
def QL (D : va_G) (k : Nat → ClassId) (g : Nat → Nat) (H : Heap) : List Nat → qW → Prop
  | i :: ps, x :: w => va_at D vwCl (g i, q_c k g x) H ∧ QL D k g H ps w
  | _, _ => True
theorem QL_at {D : va_G} {k : Nat → ClassId} {g : Nat → Nat} {H : Heap} : ∀ (ps : List Nat) (w : qW), QL D k g H ps w → ∀ (j i : Nat) (x : qC), ps[j]? = some i → w[j]? = some x → va_at D vwCl (g i, q_c k g x) H := by
  intro ps
  induction ps with
  | nil => intro w _ j i x hp; cases hp
  | cons p ps ih =>
    intro w h j i x hp hx
    cases w with
    | nil => cases hx
    | cons y w =>
      obtain ⟨h1, h2⟩ := h
      cases j with
      | zero =>
        cases hp
        cases hx
        exact h1
      | succ j => exact ih w h2 j i x hp hx
def PL : List (qC → Prop) → qW → Prop
  | P :: C, x :: w => P x ∧ PL C w
  | [], _ => True
  | _ :: _, [] => False
theorem PL_PW : ∀ (C : List (qC → Prop)) (w : qW), PL C w → PW C w := by
  intro C
  induction C with
  | nil => intro w _ i P hi; cases hi
  | cons P0 C ih =>
    intro w h i P hi
    cases w with
    | nil => exact h.elim
    | cons y w =>
      obtain ⟨h1, h2⟩ := h
      cases i with
      | zero =>
        cases hi
        exact ⟨y, rfl, h1⟩
      | succ i => exact ih w h2 i P hi
theorem okw_c {x : qC} {w : qW} (h : q_okc x) (h2 : q_okw w) : q_okw (x :: w) := fun y hy => (List.mem_cons.mp hy).elim (fun e => by rw [e]; exact h) (h2 y)
theorem okw_0 : q_okw [] := fun y hy => by cases hy
theorem okw_app {w w' : qW} (h : q_okw w) (h' : q_okw w') : q_okw (w ++ w') := fun y hy => (List.mem_append.mp hy).elim (h y) (h' y)
theorem okz (t n : Nat) : q_okc (.inl (t, n, .inl (fun _ => 0))) := ⟨fun _ => q_i0, fun _ _ => ⟨by show (-128 : Int) ≤ 0; decide, by show (0 : Int) ≤ 127; decide⟩⟩
theorem okzl (t n : Nat) : q_okc (.inl (t, n, .inr (.inl (fun _ => 0)))) := fun _ => ⟨by show (-9223372036854775808 : Int) ≤ 0; decide, by show (0 : Int) ≤ 9223372036854775807; decide⟩
theorem okt (n : Nat) (f : Nat → Int32) : q_okc (.inl (0, n, .inl (ti n f))) := ⟨ti_i n f, fun h => absurd h (by decide)⟩
theorem okr (t n : Nat) (f : List (Option Nat)) : q_okc (.inl (t, n, .inr (.inr f))) := trivial
def okb (v : qV) : Bool := match v with
  | .inl z => decide (-2147483648 ≤ z) && decide (z ≤ 2147483647)
  | .inr (.inl z) => decide (-9223372036854775808 ≤ z) && decide (z ≤ 9223372036854775807)
  | .inr (.inr _) => true
theorem oko {ci : Nat} {vs : List qV} (h : vs.all okb = true) : q_okc (.inr (ci, vs)) := by
  intro v hv
  have h1 := List.all_eq_true.mp h v hv
  rcases v with z | z | r
  · have h2 : (decide (-2147483648 ≤ z) && decide (z ≤ 2147483647)) = true := h1
    rw [Bool.and_eq_true, decide_eq_true_eq, decide_eq_true_eq] at h2
    exact h2
  · have h2 : (decide (-9223372036854775808 ≤ z) && decide (z ≤ 9223372036854775807)) = true := h1
    rw [Bool.and_eq_true, decide_eq_true_eq, decide_eq_true_eq] at h2
    exact h2
  · exact trivial
theorem rg_0 {lo hi : Int} (h : lo ≤ 0 ∧ 0 ≤ hi) : q_rg lo hi (fun _ => 0) := fun _ => h
/-! a cell's references below a bound: another map of places that agrees there says the same of it -/
def rfV (B : Nat) (v : qV) : Bool := match v with
  | .inr (.inr (some i)) => Nat.blt i B
  | _ => true
def rfO (B : Nat) (o : Option Nat) : Bool := match o with
  | some i => Nat.blt i B
  | none => true
def rfC (B : Nat) (x : qC) : Bool := match x with
  | .inl (_, _, .inr (.inr f)) => f.all (rfO B)
  | .inr (_, vs) => vs.all (rfV B)
  | _ => true
theorem rfC_c {k : Nat → ClassId} {g g' : Nat → Nat} {B : Nat} {x : qC} (h : rfC B x = true) (hg : ∀ i : Nat, i < B → g' i = g i) : q_c k g' x = q_c k g x := by
  rcases x with ⟨t, n, f | f | f⟩ | ⟨ci, vs⟩
  · rfl
  · rfl
  · have h : f.all (rfO B) = true := h
    have e0 : (fun i => (f.getD i none).map g') = (fun i => (f.getD i none).map g) := by
      funext i
      rw [List.getD_eq_getElem?_getD]
      cases hf : f[i]? with
      | none => rfl
      | some o =>
        cases o with
        | none => rfl
        | some j =>
          have h1 : Nat.blt j B = true := List.all_eq_true.mp h _ (List.mem_of_getElem? hf)
          have h2 : j < B := Nat.le_of_ble_eq_true h1
          show some (g' j) = some (g j)
          rw [hg j h2]
    show Sum.inl (k t, n, Sum.inr (Sum.inr (Sum.inr (Sum.inr (fun i => (f.getD i none).map g'))))) = Sum.inl (k t, n, Sum.inr (Sum.inr (Sum.inr (Sum.inr (fun i => (f.getD i none).map g)))))
    rw [e0]
  · have h : vs.all (rfV B) = true := h
    have e1 : vs.map (q_v g') = vs.map (q_v g) := List.map_congr_left (fun v hv => by
      have h0 := List.all_eq_true.mp h v hv
      rcases v with z | z | r
      · rfl
      · rfl
      · cases r with
        | none => rfl
        | some j =>
          have h1 : Nat.blt j B = true := h0
          have h2 : j < B := Nat.le_of_ble_eq_true h1
          show Value.ref (g' j) = Value.ref (g j)
          rw [hg j h2])
    show Sum.inr (ci, vs.map (q_v g')) = Sum.inr (ci, vs.map (q_v g))
    rw [e1]
def RFl (B : Nat) : Nat → List (qC → Prop) → Prop
  | o, P :: C => (o = 44 ∨ ∀ x, P x → rfC B x = true) ∧ RFl B (o + 1) C
  | _, [] => True
theorem RFl_at {B : Nat} : ∀ (C : List (qC → Prop)) (o : Nat), RFl B o C → ∀ (i : Nat) (P : qC → Prop), C[i]? = some P → o + i ≠ 44 → ∀ x, P x → rfC B x = true := by
  intro C
  induction C with
  | nil => intro o _ i P hi; cases hi
  | cons P0 C ih =>
    intro o h i P hi hn x hx
    obtain ⟨h1, h2⟩ := h
    cases i with
    | zero =>
      cases hi
      exact h1.elim (fun e => absurd e hn) (fun e => e x hx)
    | succ i => exact ih (o + 1) h2 i P hi (by omega) x hx
/-! the map of places with new ones behind the old -/
def gN (g : Nat → Nat) (N : Nat) (ad : List Nat) : Nat → Nat := fun i => if i < N then g i else if i < N + ad.length then ad.getD (i - N) 0 else g i
theorem gN_lt {g : Nat → Nat} {N : Nat} {ad : List Nat} {i : Nat} (h : i < N) : gN g N ad i = g i := by unfold gN; rw [if_pos h]
theorem gN_hi {g : Nat → Nat} {N : Nat} {ad : List Nat} {i : Nat} (h : N + ad.length ≤ i) : gN g N ad i = g i := by unfold gN; rw [if_neg (by omega), if_neg (by omega)]
theorem gN_ad {g : Nat → Nat} {N : Nat} {ad : List Nat} {j : Nat} (h : j < ad.length) : gN g N ad (N + j) = ad.getD j 0 := by
  unfold gN
  rw [if_neg (by omega), if_pos (by omega), show N + j - N = j by omega]
theorem q_D_app {A : Nat → Prop} {g g' : Nat → Nat} {N M q : Nat} {e : va_E} {H : Heap} {V : va_W} {ad : List Nat} (hD : q_D A g N) (hlt : ∀ i : Nat, i < N → g i < H.size) (hq : ∀ i : Nat, i < N → g i ≠ q) (hV : va_D (va_A [(q, e)] H.size) V) (hfst : V.map Prod.fst = ad) (hM : ad.length = M) (h1 : ∀ i : Nat, i < N → g' i = g i) (h2 : ∀ j : Nat, j < M → g' (N + j) = ad.getD j 0) (hA : ∀ x, va_A [(q, e)] H.size x → A x) : q_D A g' (N + M) := by
  have hat : ∀ j : Nat, j < M → ∃ ev, V[j]? = some (g' (N + j), ev) := by
    intro j hj
    have hl : j < V.length := by rw [← hM, ← hfst, List.length_map] at hj; exact hj
    refine ⟨(V[j]'hl).2, ?_⟩
    rw [h2 j hj, ← hfst, List.getD_eq_getElem?_getD, List.getElem?_map, List.getElem?_eq_getElem hl]
    rfl
  have hnew : ∀ j : Nat, j < M → va_A [(q, e)] H.size (g' (N + j)) := by
    intro j hj
    obtain ⟨ev, h⟩ := hat j hj
    exact hV.2 j _ h
  have hap : ∀ i j : Nat, i < N → j < M → g' i ≠ g' (N + j) := by
    intro i j hi hj he
    rw [h1 i hi] at he
    rcases hnew j hj with ⟨j0, e0, he0⟩ | hs
    · cases j0 with
      | zero =>
        have e9 := congrArg Prod.fst (Option.some.inj he0)
        exact hq i hi (by rw [he]; exact e9.symm)
      | succ j0 => cases he0
    · have := hlt i hi
      rw [he] at this
      exact absurd this (Nat.not_lt.mpr hs)
  refine ⟨fun i j hi hj he => ?_, fun i hi => ?_⟩
  · by_cases c1 : i < N
    · by_cases c2 : j < N
      · rw [h1 i c1, h1 j c2] at he
        exact hD.1 i j c1 c2 he
      · refine absurd ?_ (hap i (j - N) c1 (by omega))
        rw [show N + (j - N) = j by omega]; exact he
    · by_cases c2 : j < N
      · refine absurd ?_ (hap j (i - N) c2 (by omega))
        rw [show N + (i - N) = i by omega]; exact he.symm
      · obtain ⟨e1, he1⟩ := hat (i - N) (by omega)
        obtain ⟨e2, he2⟩ := hat (j - N) (by omega)
        rw [show N + (i - N) = i by omega] at he1
        rw [show N + (j - N) = j by omega] at he2
        have := hV.1 _ _ _ _ he1 he2 he
        omega
  · by_cases c1 : i < N
    · rw [h1 i c1]; exact hD.2 i c1
    · have h9 := hnew (i - N) (by omega)
      rw [show N + (i - N) = i by omega] at h9
      exact hA _ h9
theorem va_P_new {D : va_G} {cl : List vw_C} {A : Nat → Prop} {ws : va_W} {q : Nat} {e : va_E} {H H1 : Heap} (hP : va_P D cl (ws ++ [(q, e)]) H) (hD : va_D A (ws ++ [(q, e)])) (hk : ∀ x : Nat, x < H.size → ¬ va_A [(q, e)] H.size x → H1[x]? = H[x]?) : va_P D cl ws H1 := by
  intro i y hi
  have hil : i < ws.length := (List.getElem?_eq_some_iff.mp hi).1
  have hi2 : (ws ++ [(q, e)])[i]? = some y := by rw [List.getElem?_append_left hil]; exact hi
  have h3 := hP i y hi2
  refine h3.kept (hk _ h3.lt ?_)
  rintro (⟨j, e0, he0⟩ | hsz)
  · cases j with
    | zero =>
      have e9 := congrArg Prod.fst (Option.some.inj he0)
      have := hD.1 i ws.length y (q, e) hi2 (by rw [List.getElem?_append_right (Nat.le_refl _), Nat.sub_self]; rfl) e9.symm
      omega
    | succ j => cases he0
  · exact absurd h3.lt (Nat.not_lt.mpr hsz)
theorem P_last {D : va_G} {cl : List vw_C} {ws : va_W} {x : Nat × va_E} {H : Heap} (hP : va_P D cl (ws ++ [x]) H) : va_P D cl [x] H := by
  intro i y hi
  cases i with
  | zero =>
    cases hi
    exact hP ws.length _ (by rw [List.getElem?_append_right (Nat.le_refl _), Nat.sub_self]; rfl)
  | succ i => cases hi
theorem D_last {A : Nat → Prop} {ws : va_W} {x : Nat × va_E} (hD : va_D A (ws ++ [x])) : va_D A [x] := by
  refine ⟨fun i j p q hp hq _ => ?_, fun i y hi => ?_⟩
  · cases i with
    | zero =>
      cases j with
      | zero => rfl
      | succ j => cases hq
    | succ i => cases hp
  · cases i with
    | zero =>
      cases hi
      exact hD.2 ws.length _ (by rw [List.getElem?_append_right (Nat.le_refl _), Nat.sub_self]; rfl)
    | succ i => cases hi
theorem F_last {A : Nat → Prop} {ws : va_W} {q : Nat} {e : va_E} {H0 H : Heap} {locs : List Loc} (hD : va_D A (ws ++ [(q, e)])) (hS : va_S A H0 H locs) (hA : ∀ x, H0.size ≤ x → A x) : ∀ x, va_A [(q, e)] H.size x → A x := by
  rintro x (⟨j, e0, he0⟩ | hsz)
  · cases j with
    | zero =>
      have e9 := congrArg Prod.fst (Option.some.inj he0)
      have h1 : A q := (D_last hD).2 0 _ rfl
      have e9 : q = x := e9
      rw [← e9]; exact h1
    | succ j => cases he0
  · exact hA x (Nat.le_trans hS.1 hsz)
theorem up_set {g : Nat → Nat} {l : List (Option Nat)} {j N : Nat} (h : j < l.length) : (fun i => ((l.set j (some N)).getD i none).map g) = va_up (fun i => (l.getD i none).map g) j (some (g N)) := by
  funext i
  unfold va_up
  rw [List.getD_eq_getElem?_getD, List.getElem?_set]
  by_cases e : j = i
  · subst e
    rw [if_pos rfl, if_pos h, if_pos rfl]
    rfl
  · rw [if_neg e, if_neg (fun h => e h.symm)]
    show Option.map g (l[i]?.getD none) = Option.map g (l.getD i none)
    rw [List.getD_eq_getElem?_getD]
theorem ew_qE {g : Nat → Nat} {A : Nat → Prop} {U : State} (h : qE g A U) : ew (g 1000) A U := by
  obtain ⟨h1, -, h3, -⟩ := h
  obtain ⟨a, b, c, d⟩ := h3 0 _ _ rfl
  exact ⟨h1, a, b, c, d⟩

def ADT (h : Nat) (a : Nat → Nat) : List Nat := (h :: (a 1) :: (a 2) :: (a 3) :: (a 4) :: (a 5) :: (a 6) :: (a 10) :: (a 11) :: (a 12) :: (a 13) :: (a 14) :: (a 15) :: (a 16) :: (a 17) :: (a 20) :: (a 21) :: (a 22) :: (a 23) :: (a 24) :: (a 25) :: (a 26) :: (a 27) :: (a 30) :: (a 31) :: (a 32) :: (a 33) :: (a 34) :: (a 35) :: (a 36) :: (a 37) :: (a 38) :: (a 39) :: (a 40) :: (a 41) :: (a 42) :: (a 43) :: (a 44) :: (a 45) :: (a 46) :: (a 47) :: (a 48) :: (a 49) :: [])
def TCv (k : Nat → ClassId) (h : Nat) (a : Nat → Nat) (G : Nat → Nat → Int32) : va_W := ((h, .inr (8, [.ref (a 1), .ref (a 2), .ref (a 3), .ref (a 4), .ref (a 5), .ref (a 6), .int 0, .int 0, .int (-1)])) :: ((a 1), .inl (k 1, 600, .inl (fun _ => 0))) :: ((a 2), .inl (k 0, 4, .inl (fun _ => 0))) :: ((a 3), .inl (k 4, 2, .inr (.inr (.inr (.inr (va_up (va_up (fun _ => none) 0 (some (a 10))) 1 (some (a 20)))))))) :: ((a 4), .inl (k 5, 2, .inr (.inr (.inr (.inr (va_up (va_up (fun _ => none) 0 (some (a 30))) 1 (some (a 35)))))))) :: ((a 5), .inl (k 6, 2, .inr (.inr (.inr (.inr (va_up (va_up (fun _ => none) 0 (some (a 40))) 1 (some (a 42)))))))) :: ((a 6), .inl (k 7, 2, .inr (.inr (.inr (.inr (va_up (va_up (fun _ => none) 0 (some (a 44))) 1 (some (a 47)))))))) :: ((a 10), .inr (0, [.ref (a 11), .ref (a 12), .ref (a 13), .ref (a 14), .ref (a 15), .ref (a 16), .ref (a 17), .int 0, .int 0, .int 5, .int 0, .int 0])) :: ((a 11), .inl (k 0, 8, .inl (G 11))) :: ((a 12), .inl (k 0, 8, .inl (G 12))) :: ((a 13), .inl (k 0, 4, .inl (G 13))) :: ((a 14), .inl (k 0, 32, .inl (G 14))) :: ((a 15), .inl (k 0, 6, .inl (G 15))) :: ((a 16), .inl (k 0, 6, .inl (G 16))) :: ((a 17), .inl (k 0, 6, .inl (G 17))) :: ((a 20), .inr (0, [.ref (a 21), .ref (a 22), .ref (a 23), .ref (a 24), .ref (a 25), .ref (a 26), .ref (a 27), .int 0, .int 0, .int 5, .int 0, .int 0])) :: ((a 21), .inl (k 0, 8, .inl (G 21))) :: ((a 22), .inl (k 0, 8, .inl (G 22))) :: ((a 23), .inl (k 0, 4, .inl (G 23))) :: ((a 24), .inl (k 0, 32, .inl (G 24))) :: ((a 25), .inl (k 0, 6, .inl (G 25))) :: ((a 26), .inl (k 0, 6, .inl (G 26))) :: ((a 27), .inl (k 0, 6, .inl (G 27))) :: ((a 30), .inr (10, [.ref (a 31), .ref (a 32), .ref (a 33), .ref (a 34), .int 0])) :: ((a 31), .inl (k 0, 40, .inl (fun _ => 0))) :: ((a 32), .inl (k 0, 40, .inl (fun _ => 0))) :: ((a 33), .inl (k 0, 40, .inl (fun _ => 0))) :: ((a 34), .inl (k 0, 40, .inl (fun _ => 0))) :: ((a 35), .inr (10, [.ref (a 36), .ref (a 37), .ref (a 38), .ref (a 39), .int 0])) :: ((a 36), .inl (k 0, 40, .inl (fun _ => 0))) :: ((a 37), .inl (k 0, 40, .inl (fun _ => 0))) :: ((a 38), .inl (k 0, 40, .inl (fun _ => 0))) :: ((a 39), .inl (k 0, 40, .inl (fun _ => 0))) :: ((a 40), .inr (3, [.ref (a 41), .int 0])) :: ((a 41), .inl (k 0, 8, .inl (fun _ => 0))) :: ((a 42), .inr (3, [.ref (a 43), .int 0])) :: ((a 43), .inl (k 0, 8, .inl (fun _ => 0))) :: ((a 44), .inr (7, [.ref (a 45), .ref (a 46), .int 0])) :: ((a 45), .inl (k 0, 10, .inl (fun _ => 0))) :: ((a 46), .inl (k 0, 10, .inl (fun _ => 0))) :: ((a 47), .inr (7, [.ref (a 48), .ref (a 49), .int 0])) :: ((a 48), .inl (k 0, 10, .inl (fun _ => 0))) :: ((a 49), .inl (k 0, 10, .inl (fun _ => 0))) :: [])
def TCl (o : Nat) (G : Nat → Nat → Int32) : qW := (.inr (8, [q2 (o + 1), q2 (o + 2), q2 (o + 3), q2 (o + 4), q2 (o + 5), q2 (o + 6), q1 0, q1 0, q1 (-1)]) :: .inl (1, 600, .inl (fun _ => 0)) :: .inl (0, 4, .inl (fun _ => 0)) :: .inl (4, 2, .inr (.inr [some (o + 7), some (o + 15)])) :: .inl (5, 2, .inr (.inr [some (o + 23), some (o + 28)])) :: .inl (6, 2, .inr (.inr [some (o + 33), some (o + 35)])) :: .inl (7, 2, .inr (.inr [some (o + 37), some (o + 40)])) :: .inr (0, [q2 (o + 8), q2 (o + 9), q2 (o + 10), q2 (o + 11), q2 (o + 12), q2 (o + 13), q2 (o + 14), q1 0, q1 0, q1 5, q1 0, q1 0]) :: .inl (0, 8, .inl (ti 8 (G 11))) :: .inl (0, 8, .inl (ti 8 (G 12))) :: .inl (0, 4, .inl (ti 4 (G 13))) :: .inl (0, 32, .inl (ti 32 (G 14))) :: .inl (0, 6, .inl (ti 6 (G 15))) :: .inl (0, 6, .inl (ti 6 (G 16))) :: .inl (0, 6, .inl (ti 6 (G 17))) :: .inr (0, [q2 (o + 16), q2 (o + 17), q2 (o + 18), q2 (o + 19), q2 (o + 20), q2 (o + 21), q2 (o + 22), q1 0, q1 0, q1 5, q1 0, q1 0]) :: .inl (0, 8, .inl (ti 8 (G 21))) :: .inl (0, 8, .inl (ti 8 (G 22))) :: .inl (0, 4, .inl (ti 4 (G 23))) :: .inl (0, 32, .inl (ti 32 (G 24))) :: .inl (0, 6, .inl (ti 6 (G 25))) :: .inl (0, 6, .inl (ti 6 (G 26))) :: .inl (0, 6, .inl (ti 6 (G 27))) :: .inr (10, [q2 (o + 24), q2 (o + 25), q2 (o + 26), q2 (o + 27), q1 0]) :: .inl (0, 40, .inl (fun _ => 0)) :: .inl (0, 40, .inl (fun _ => 0)) :: .inl (0, 40, .inl (fun _ => 0)) :: .inl (0, 40, .inl (fun _ => 0)) :: .inr (10, [q2 (o + 29), q2 (o + 30), q2 (o + 31), q2 (o + 32), q1 0]) :: .inl (0, 40, .inl (fun _ => 0)) :: .inl (0, 40, .inl (fun _ => 0)) :: .inl (0, 40, .inl (fun _ => 0)) :: .inl (0, 40, .inl (fun _ => 0)) :: .inr (3, [q2 (o + 34), q1 0]) :: .inl (0, 8, .inl (fun _ => 0)) :: .inr (3, [q2 (o + 36), q1 0]) :: .inl (0, 8, .inl (fun _ => 0)) :: .inr (7, [q2 (o + 38), q2 (o + 39), q1 0]) :: .inl (0, 10, .inl (fun _ => 0)) :: .inl (0, 10, .inl (fun _ => 0)) :: .inr (7, [q2 (o + 41), q2 (o + 42), q1 0]) :: .inl (0, 10, .inl (fun _ => 0)) :: .inl (0, 10, .inl (fun _ => 0)) :: [])
theorem tq_0 {D : va_G} {k : Nat → ClassId} {g : Nat → Nat} {H : Heap} {o h : Nat} {a : Nat → Nat} {G : Nat → Nat → Int32} (hg : ∀ j : Nat, j < 43 → g (o + j) = (ADT h a).getD j 0) (hP : va_P D vwCl (TCv k h a G) H) : va_at D vwCl (g (o + 0), q_c k g (.inr (8, [q2 (o + 1), q2 (o + 2), q2 (o + 3), q2 (o + 4), q2 (o + 5), q2 (o + 6), q1 0, q1 0, q1 (-1)]))) H := by
  show va_at D vwCl (g (o + 0), .inr (8, [.ref (g (o + 1)), .ref (g (o + 2)), .ref (g (o + 3)), .ref (g (o + 4)), .ref (g (o + 5)), .ref (g (o + 6)), .int 0, .int 0, .int (-1)])) H
  rw [(show g (o + 0) = h from hg 0 (by decide)), (show g (o + 1) = (a 1) from hg 1 (by decide)), (show g (o + 2) = (a 2) from hg 2 (by decide)), (show g (o + 3) = (a 3) from hg 3 (by decide)), (show g (o + 4) = (a 4) from hg 4 (by decide)), (show g (o + 5) = (a 5) from hg 5 (by decide)), (show g (o + 6) = (a 6) from hg 6 (by decide))]
  exact hP 0 _ rfl
theorem tq_1 {D : va_G} {k : Nat → ClassId} {g : Nat → Nat} {H : Heap} {o h : Nat} {a : Nat → Nat} {G : Nat → Nat → Int32} (hg : ∀ j : Nat, j < 43 → g (o + j) = (ADT h a).getD j 0) (hP : va_P D vwCl (TCv k h a G) H) : va_at D vwCl (g (o + 1), q_c k g (.inl (1, 600, .inl (fun _ => 0)))) H := by
  rw [(show g (o + 1) = (a 1) from hg 1 (by decide))]
  exact hP 1 _ rfl
theorem tq_2 {D : va_G} {k : Nat → ClassId} {g : Nat → Nat} {H : Heap} {o h : Nat} {a : Nat → Nat} {G : Nat → Nat → Int32} (hg : ∀ j : Nat, j < 43 → g (o + j) = (ADT h a).getD j 0) (hP : va_P D vwCl (TCv k h a G) H) : va_at D vwCl (g (o + 2), q_c k g (.inl (0, 4, .inl (fun _ => 0)))) H := by
  rw [(show g (o + 2) = (a 2) from hg 2 (by decide))]
  exact hP 2 _ rfl
theorem tq_3 {D : va_G} {k : Nat → ClassId} {g : Nat → Nat} {H : Heap} {o h : Nat} {a : Nat → Nat} {G : Nat → Nat → Int32} (hg : ∀ j : Nat, j < 43 → g (o + j) = (ADT h a).getD j 0) (hP : va_P D vwCl (TCv k h a G) H) : va_at D vwCl (g (o + 3), q_c k g (.inl (4, 2, .inr (.inr [some (o + 7), some (o + 15)])))) H := by
  rw [(show g (o + 3) = (a 3) from hg 3 (by decide))]
  exact rf2_at (hP 3 _ rfl) (show g (o + 7) = (a 10) from hg 7 (by decide)) (show g (o + 15) = (a 20) from hg 15 (by decide))
theorem tq_4 {D : va_G} {k : Nat → ClassId} {g : Nat → Nat} {H : Heap} {o h : Nat} {a : Nat → Nat} {G : Nat → Nat → Int32} (hg : ∀ j : Nat, j < 43 → g (o + j) = (ADT h a).getD j 0) (hP : va_P D vwCl (TCv k h a G) H) : va_at D vwCl (g (o + 4), q_c k g (.inl (5, 2, .inr (.inr [some (o + 23), some (o + 28)])))) H := by
  rw [(show g (o + 4) = (a 4) from hg 4 (by decide))]
  exact rf2_at (hP 4 _ rfl) (show g (o + 23) = (a 30) from hg 23 (by decide)) (show g (o + 28) = (a 35) from hg 28 (by decide))
theorem tq_5 {D : va_G} {k : Nat → ClassId} {g : Nat → Nat} {H : Heap} {o h : Nat} {a : Nat → Nat} {G : Nat → Nat → Int32} (hg : ∀ j : Nat, j < 43 → g (o + j) = (ADT h a).getD j 0) (hP : va_P D vwCl (TCv k h a G) H) : va_at D vwCl (g (o + 5), q_c k g (.inl (6, 2, .inr (.inr [some (o + 33), some (o + 35)])))) H := by
  rw [(show g (o + 5) = (a 5) from hg 5 (by decide))]
  exact rf2_at (hP 5 _ rfl) (show g (o + 33) = (a 40) from hg 33 (by decide)) (show g (o + 35) = (a 42) from hg 35 (by decide))
theorem tq_6 {D : va_G} {k : Nat → ClassId} {g : Nat → Nat} {H : Heap} {o h : Nat} {a : Nat → Nat} {G : Nat → Nat → Int32} (hg : ∀ j : Nat, j < 43 → g (o + j) = (ADT h a).getD j 0) (hP : va_P D vwCl (TCv k h a G) H) : va_at D vwCl (g (o + 6), q_c k g (.inl (7, 2, .inr (.inr [some (o + 37), some (o + 40)])))) H := by
  rw [(show g (o + 6) = (a 6) from hg 6 (by decide))]
  exact rf2_at (hP 6 _ rfl) (show g (o + 37) = (a 44) from hg 37 (by decide)) (show g (o + 40) = (a 47) from hg 40 (by decide))
theorem tq_7 {D : va_G} {k : Nat → ClassId} {g : Nat → Nat} {H : Heap} {o h : Nat} {a : Nat → Nat} {G : Nat → Nat → Int32} (hg : ∀ j : Nat, j < 43 → g (o + j) = (ADT h a).getD j 0) (hP : va_P D vwCl (TCv k h a G) H) : va_at D vwCl (g (o + 7), q_c k g (.inr (0, [q2 (o + 8), q2 (o + 9), q2 (o + 10), q2 (o + 11), q2 (o + 12), q2 (o + 13), q2 (o + 14), q1 0, q1 0, q1 5, q1 0, q1 0]))) H := by
  show va_at D vwCl (g (o + 7), .inr (0, [.ref (g (o + 8)), .ref (g (o + 9)), .ref (g (o + 10)), .ref (g (o + 11)), .ref (g (o + 12)), .ref (g (o + 13)), .ref (g (o + 14)), .int 0, .int 0, .int 5, .int 0, .int 0])) H
  rw [(show g (o + 7) = (a 10) from hg 7 (by decide)), (show g (o + 8) = (a 11) from hg 8 (by decide)), (show g (o + 9) = (a 12) from hg 9 (by decide)), (show g (o + 10) = (a 13) from hg 10 (by decide)), (show g (o + 11) = (a 14) from hg 11 (by decide)), (show g (o + 12) = (a 15) from hg 12 (by decide)), (show g (o + 13) = (a 16) from hg 13 (by decide)), (show g (o + 14) = (a 17) from hg 14 (by decide))]
  exact hP 7 _ rfl
theorem tq_8 {D : va_G} {k : Nat → ClassId} {g : Nat → Nat} {H : Heap} {o h : Nat} {a : Nat → Nat} {G : Nat → Nat → Int32} (hg : ∀ j : Nat, j < 43 → g (o + j) = (ADT h a).getD j 0) (hP : va_P D vwCl (TCv k h a G) H) : va_at D vwCl (g (o + 8), q_c k g (.inl (0, 8, .inl (ti 8 (G 11))))) H := by
  rw [(show g (o + 8) = (a 11) from hg 8 (by decide))]
  exact ti_at (hP 8 _ rfl)
theorem tq_9 {D : va_G} {k : Nat → ClassId} {g : Nat → Nat} {H : Heap} {o h : Nat} {a : Nat → Nat} {G : Nat → Nat → Int32} (hg : ∀ j : Nat, j < 43 → g (o + j) = (ADT h a).getD j 0) (hP : va_P D vwCl (TCv k h a G) H) : va_at D vwCl (g (o + 9), q_c k g (.inl (0, 8, .inl (ti 8 (G 12))))) H := by
  rw [(show g (o + 9) = (a 12) from hg 9 (by decide))]
  exact ti_at (hP 9 _ rfl)
theorem tq_10 {D : va_G} {k : Nat → ClassId} {g : Nat → Nat} {H : Heap} {o h : Nat} {a : Nat → Nat} {G : Nat → Nat → Int32} (hg : ∀ j : Nat, j < 43 → g (o + j) = (ADT h a).getD j 0) (hP : va_P D vwCl (TCv k h a G) H) : va_at D vwCl (g (o + 10), q_c k g (.inl (0, 4, .inl (ti 4 (G 13))))) H := by
  rw [(show g (o + 10) = (a 13) from hg 10 (by decide))]
  exact ti_at (hP 10 _ rfl)
theorem tq_11 {D : va_G} {k : Nat → ClassId} {g : Nat → Nat} {H : Heap} {o h : Nat} {a : Nat → Nat} {G : Nat → Nat → Int32} (hg : ∀ j : Nat, j < 43 → g (o + j) = (ADT h a).getD j 0) (hP : va_P D vwCl (TCv k h a G) H) : va_at D vwCl (g (o + 11), q_c k g (.inl (0, 32, .inl (ti 32 (G 14))))) H := by
  rw [(show g (o + 11) = (a 14) from hg 11 (by decide))]
  exact ti_at (hP 11 _ rfl)
theorem tq_12 {D : va_G} {k : Nat → ClassId} {g : Nat → Nat} {H : Heap} {o h : Nat} {a : Nat → Nat} {G : Nat → Nat → Int32} (hg : ∀ j : Nat, j < 43 → g (o + j) = (ADT h a).getD j 0) (hP : va_P D vwCl (TCv k h a G) H) : va_at D vwCl (g (o + 12), q_c k g (.inl (0, 6, .inl (ti 6 (G 15))))) H := by
  rw [(show g (o + 12) = (a 15) from hg 12 (by decide))]
  exact ti_at (hP 12 _ rfl)
theorem tq_13 {D : va_G} {k : Nat → ClassId} {g : Nat → Nat} {H : Heap} {o h : Nat} {a : Nat → Nat} {G : Nat → Nat → Int32} (hg : ∀ j : Nat, j < 43 → g (o + j) = (ADT h a).getD j 0) (hP : va_P D vwCl (TCv k h a G) H) : va_at D vwCl (g (o + 13), q_c k g (.inl (0, 6, .inl (ti 6 (G 16))))) H := by
  rw [(show g (o + 13) = (a 16) from hg 13 (by decide))]
  exact ti_at (hP 13 _ rfl)
theorem tq_14 {D : va_G} {k : Nat → ClassId} {g : Nat → Nat} {H : Heap} {o h : Nat} {a : Nat → Nat} {G : Nat → Nat → Int32} (hg : ∀ j : Nat, j < 43 → g (o + j) = (ADT h a).getD j 0) (hP : va_P D vwCl (TCv k h a G) H) : va_at D vwCl (g (o + 14), q_c k g (.inl (0, 6, .inl (ti 6 (G 17))))) H := by
  rw [(show g (o + 14) = (a 17) from hg 14 (by decide))]
  exact ti_at (hP 14 _ rfl)
theorem tq_15 {D : va_G} {k : Nat → ClassId} {g : Nat → Nat} {H : Heap} {o h : Nat} {a : Nat → Nat} {G : Nat → Nat → Int32} (hg : ∀ j : Nat, j < 43 → g (o + j) = (ADT h a).getD j 0) (hP : va_P D vwCl (TCv k h a G) H) : va_at D vwCl (g (o + 15), q_c k g (.inr (0, [q2 (o + 16), q2 (o + 17), q2 (o + 18), q2 (o + 19), q2 (o + 20), q2 (o + 21), q2 (o + 22), q1 0, q1 0, q1 5, q1 0, q1 0]))) H := by
  show va_at D vwCl (g (o + 15), .inr (0, [.ref (g (o + 16)), .ref (g (o + 17)), .ref (g (o + 18)), .ref (g (o + 19)), .ref (g (o + 20)), .ref (g (o + 21)), .ref (g (o + 22)), .int 0, .int 0, .int 5, .int 0, .int 0])) H
  rw [(show g (o + 15) = (a 20) from hg 15 (by decide)), (show g (o + 16) = (a 21) from hg 16 (by decide)), (show g (o + 17) = (a 22) from hg 17 (by decide)), (show g (o + 18) = (a 23) from hg 18 (by decide)), (show g (o + 19) = (a 24) from hg 19 (by decide)), (show g (o + 20) = (a 25) from hg 20 (by decide)), (show g (o + 21) = (a 26) from hg 21 (by decide)), (show g (o + 22) = (a 27) from hg 22 (by decide))]
  exact hP 15 _ rfl
theorem tq_16 {D : va_G} {k : Nat → ClassId} {g : Nat → Nat} {H : Heap} {o h : Nat} {a : Nat → Nat} {G : Nat → Nat → Int32} (hg : ∀ j : Nat, j < 43 → g (o + j) = (ADT h a).getD j 0) (hP : va_P D vwCl (TCv k h a G) H) : va_at D vwCl (g (o + 16), q_c k g (.inl (0, 8, .inl (ti 8 (G 21))))) H := by
  rw [(show g (o + 16) = (a 21) from hg 16 (by decide))]
  exact ti_at (hP 16 _ rfl)
theorem tq_17 {D : va_G} {k : Nat → ClassId} {g : Nat → Nat} {H : Heap} {o h : Nat} {a : Nat → Nat} {G : Nat → Nat → Int32} (hg : ∀ j : Nat, j < 43 → g (o + j) = (ADT h a).getD j 0) (hP : va_P D vwCl (TCv k h a G) H) : va_at D vwCl (g (o + 17), q_c k g (.inl (0, 8, .inl (ti 8 (G 22))))) H := by
  rw [(show g (o + 17) = (a 22) from hg 17 (by decide))]
  exact ti_at (hP 17 _ rfl)
theorem tq_18 {D : va_G} {k : Nat → ClassId} {g : Nat → Nat} {H : Heap} {o h : Nat} {a : Nat → Nat} {G : Nat → Nat → Int32} (hg : ∀ j : Nat, j < 43 → g (o + j) = (ADT h a).getD j 0) (hP : va_P D vwCl (TCv k h a G) H) : va_at D vwCl (g (o + 18), q_c k g (.inl (0, 4, .inl (ti 4 (G 23))))) H := by
  rw [(show g (o + 18) = (a 23) from hg 18 (by decide))]
  exact ti_at (hP 18 _ rfl)
theorem tq_19 {D : va_G} {k : Nat → ClassId} {g : Nat → Nat} {H : Heap} {o h : Nat} {a : Nat → Nat} {G : Nat → Nat → Int32} (hg : ∀ j : Nat, j < 43 → g (o + j) = (ADT h a).getD j 0) (hP : va_P D vwCl (TCv k h a G) H) : va_at D vwCl (g (o + 19), q_c k g (.inl (0, 32, .inl (ti 32 (G 24))))) H := by
  rw [(show g (o + 19) = (a 24) from hg 19 (by decide))]
  exact ti_at (hP 19 _ rfl)
theorem tq_20 {D : va_G} {k : Nat → ClassId} {g : Nat → Nat} {H : Heap} {o h : Nat} {a : Nat → Nat} {G : Nat → Nat → Int32} (hg : ∀ j : Nat, j < 43 → g (o + j) = (ADT h a).getD j 0) (hP : va_P D vwCl (TCv k h a G) H) : va_at D vwCl (g (o + 20), q_c k g (.inl (0, 6, .inl (ti 6 (G 25))))) H := by
  rw [(show g (o + 20) = (a 25) from hg 20 (by decide))]
  exact ti_at (hP 20 _ rfl)
theorem tq_21 {D : va_G} {k : Nat → ClassId} {g : Nat → Nat} {H : Heap} {o h : Nat} {a : Nat → Nat} {G : Nat → Nat → Int32} (hg : ∀ j : Nat, j < 43 → g (o + j) = (ADT h a).getD j 0) (hP : va_P D vwCl (TCv k h a G) H) : va_at D vwCl (g (o + 21), q_c k g (.inl (0, 6, .inl (ti 6 (G 26))))) H := by
  rw [(show g (o + 21) = (a 26) from hg 21 (by decide))]
  exact ti_at (hP 21 _ rfl)
theorem tq_22 {D : va_G} {k : Nat → ClassId} {g : Nat → Nat} {H : Heap} {o h : Nat} {a : Nat → Nat} {G : Nat → Nat → Int32} (hg : ∀ j : Nat, j < 43 → g (o + j) = (ADT h a).getD j 0) (hP : va_P D vwCl (TCv k h a G) H) : va_at D vwCl (g (o + 22), q_c k g (.inl (0, 6, .inl (ti 6 (G 27))))) H := by
  rw [(show g (o + 22) = (a 27) from hg 22 (by decide))]
  exact ti_at (hP 22 _ rfl)
theorem tq_23 {D : va_G} {k : Nat → ClassId} {g : Nat → Nat} {H : Heap} {o h : Nat} {a : Nat → Nat} {G : Nat → Nat → Int32} (hg : ∀ j : Nat, j < 43 → g (o + j) = (ADT h a).getD j 0) (hP : va_P D vwCl (TCv k h a G) H) : va_at D vwCl (g (o + 23), q_c k g (.inr (10, [q2 (o + 24), q2 (o + 25), q2 (o + 26), q2 (o + 27), q1 0]))) H := by
  show va_at D vwCl (g (o + 23), .inr (10, [.ref (g (o + 24)), .ref (g (o + 25)), .ref (g (o + 26)), .ref (g (o + 27)), .int 0])) H
  rw [(show g (o + 23) = (a 30) from hg 23 (by decide)), (show g (o + 24) = (a 31) from hg 24 (by decide)), (show g (o + 25) = (a 32) from hg 25 (by decide)), (show g (o + 26) = (a 33) from hg 26 (by decide)), (show g (o + 27) = (a 34) from hg 27 (by decide))]
  exact hP 23 _ rfl
theorem tq_24 {D : va_G} {k : Nat → ClassId} {g : Nat → Nat} {H : Heap} {o h : Nat} {a : Nat → Nat} {G : Nat → Nat → Int32} (hg : ∀ j : Nat, j < 43 → g (o + j) = (ADT h a).getD j 0) (hP : va_P D vwCl (TCv k h a G) H) : va_at D vwCl (g (o + 24), q_c k g (.inl (0, 40, .inl (fun _ => 0)))) H := by
  rw [(show g (o + 24) = (a 31) from hg 24 (by decide))]
  exact hP 24 _ rfl
theorem tq_25 {D : va_G} {k : Nat → ClassId} {g : Nat → Nat} {H : Heap} {o h : Nat} {a : Nat → Nat} {G : Nat → Nat → Int32} (hg : ∀ j : Nat, j < 43 → g (o + j) = (ADT h a).getD j 0) (hP : va_P D vwCl (TCv k h a G) H) : va_at D vwCl (g (o + 25), q_c k g (.inl (0, 40, .inl (fun _ => 0)))) H := by
  rw [(show g (o + 25) = (a 32) from hg 25 (by decide))]
  exact hP 25 _ rfl
theorem tq_26 {D : va_G} {k : Nat → ClassId} {g : Nat → Nat} {H : Heap} {o h : Nat} {a : Nat → Nat} {G : Nat → Nat → Int32} (hg : ∀ j : Nat, j < 43 → g (o + j) = (ADT h a).getD j 0) (hP : va_P D vwCl (TCv k h a G) H) : va_at D vwCl (g (o + 26), q_c k g (.inl (0, 40, .inl (fun _ => 0)))) H := by
  rw [(show g (o + 26) = (a 33) from hg 26 (by decide))]
  exact hP 26 _ rfl
theorem tq_27 {D : va_G} {k : Nat → ClassId} {g : Nat → Nat} {H : Heap} {o h : Nat} {a : Nat → Nat} {G : Nat → Nat → Int32} (hg : ∀ j : Nat, j < 43 → g (o + j) = (ADT h a).getD j 0) (hP : va_P D vwCl (TCv k h a G) H) : va_at D vwCl (g (o + 27), q_c k g (.inl (0, 40, .inl (fun _ => 0)))) H := by
  rw [(show g (o + 27) = (a 34) from hg 27 (by decide))]
  exact hP 27 _ rfl
theorem tq_28 {D : va_G} {k : Nat → ClassId} {g : Nat → Nat} {H : Heap} {o h : Nat} {a : Nat → Nat} {G : Nat → Nat → Int32} (hg : ∀ j : Nat, j < 43 → g (o + j) = (ADT h a).getD j 0) (hP : va_P D vwCl (TCv k h a G) H) : va_at D vwCl (g (o + 28), q_c k g (.inr (10, [q2 (o + 29), q2 (o + 30), q2 (o + 31), q2 (o + 32), q1 0]))) H := by
  show va_at D vwCl (g (o + 28), .inr (10, [.ref (g (o + 29)), .ref (g (o + 30)), .ref (g (o + 31)), .ref (g (o + 32)), .int 0])) H
  rw [(show g (o + 28) = (a 35) from hg 28 (by decide)), (show g (o + 29) = (a 36) from hg 29 (by decide)), (show g (o + 30) = (a 37) from hg 30 (by decide)), (show g (o + 31) = (a 38) from hg 31 (by decide)), (show g (o + 32) = (a 39) from hg 32 (by decide))]
  exact hP 28 _ rfl
theorem tq_29 {D : va_G} {k : Nat → ClassId} {g : Nat → Nat} {H : Heap} {o h : Nat} {a : Nat → Nat} {G : Nat → Nat → Int32} (hg : ∀ j : Nat, j < 43 → g (o + j) = (ADT h a).getD j 0) (hP : va_P D vwCl (TCv k h a G) H) : va_at D vwCl (g (o + 29), q_c k g (.inl (0, 40, .inl (fun _ => 0)))) H := by
  rw [(show g (o + 29) = (a 36) from hg 29 (by decide))]
  exact hP 29 _ rfl
theorem tq_30 {D : va_G} {k : Nat → ClassId} {g : Nat → Nat} {H : Heap} {o h : Nat} {a : Nat → Nat} {G : Nat → Nat → Int32} (hg : ∀ j : Nat, j < 43 → g (o + j) = (ADT h a).getD j 0) (hP : va_P D vwCl (TCv k h a G) H) : va_at D vwCl (g (o + 30), q_c k g (.inl (0, 40, .inl (fun _ => 0)))) H := by
  rw [(show g (o + 30) = (a 37) from hg 30 (by decide))]
  exact hP 30 _ rfl
theorem tq_31 {D : va_G} {k : Nat → ClassId} {g : Nat → Nat} {H : Heap} {o h : Nat} {a : Nat → Nat} {G : Nat → Nat → Int32} (hg : ∀ j : Nat, j < 43 → g (o + j) = (ADT h a).getD j 0) (hP : va_P D vwCl (TCv k h a G) H) : va_at D vwCl (g (o + 31), q_c k g (.inl (0, 40, .inl (fun _ => 0)))) H := by
  rw [(show g (o + 31) = (a 38) from hg 31 (by decide))]
  exact hP 31 _ rfl
theorem tq_32 {D : va_G} {k : Nat → ClassId} {g : Nat → Nat} {H : Heap} {o h : Nat} {a : Nat → Nat} {G : Nat → Nat → Int32} (hg : ∀ j : Nat, j < 43 → g (o + j) = (ADT h a).getD j 0) (hP : va_P D vwCl (TCv k h a G) H) : va_at D vwCl (g (o + 32), q_c k g (.inl (0, 40, .inl (fun _ => 0)))) H := by
  rw [(show g (o + 32) = (a 39) from hg 32 (by decide))]
  exact hP 32 _ rfl
theorem tq_33 {D : va_G} {k : Nat → ClassId} {g : Nat → Nat} {H : Heap} {o h : Nat} {a : Nat → Nat} {G : Nat → Nat → Int32} (hg : ∀ j : Nat, j < 43 → g (o + j) = (ADT h a).getD j 0) (hP : va_P D vwCl (TCv k h a G) H) : va_at D vwCl (g (o + 33), q_c k g (.inr (3, [q2 (o + 34), q1 0]))) H := by
  show va_at D vwCl (g (o + 33), .inr (3, [.ref (g (o + 34)), .int 0])) H
  rw [(show g (o + 33) = (a 40) from hg 33 (by decide)), (show g (o + 34) = (a 41) from hg 34 (by decide))]
  exact hP 33 _ rfl
theorem tq_34 {D : va_G} {k : Nat → ClassId} {g : Nat → Nat} {H : Heap} {o h : Nat} {a : Nat → Nat} {G : Nat → Nat → Int32} (hg : ∀ j : Nat, j < 43 → g (o + j) = (ADT h a).getD j 0) (hP : va_P D vwCl (TCv k h a G) H) : va_at D vwCl (g (o + 34), q_c k g (.inl (0, 8, .inl (fun _ => 0)))) H := by
  rw [(show g (o + 34) = (a 41) from hg 34 (by decide))]
  exact hP 34 _ rfl
theorem tq_35 {D : va_G} {k : Nat → ClassId} {g : Nat → Nat} {H : Heap} {o h : Nat} {a : Nat → Nat} {G : Nat → Nat → Int32} (hg : ∀ j : Nat, j < 43 → g (o + j) = (ADT h a).getD j 0) (hP : va_P D vwCl (TCv k h a G) H) : va_at D vwCl (g (o + 35), q_c k g (.inr (3, [q2 (o + 36), q1 0]))) H := by
  show va_at D vwCl (g (o + 35), .inr (3, [.ref (g (o + 36)), .int 0])) H
  rw [(show g (o + 35) = (a 42) from hg 35 (by decide)), (show g (o + 36) = (a 43) from hg 36 (by decide))]
  exact hP 35 _ rfl
theorem tq_36 {D : va_G} {k : Nat → ClassId} {g : Nat → Nat} {H : Heap} {o h : Nat} {a : Nat → Nat} {G : Nat → Nat → Int32} (hg : ∀ j : Nat, j < 43 → g (o + j) = (ADT h a).getD j 0) (hP : va_P D vwCl (TCv k h a G) H) : va_at D vwCl (g (o + 36), q_c k g (.inl (0, 8, .inl (fun _ => 0)))) H := by
  rw [(show g (o + 36) = (a 43) from hg 36 (by decide))]
  exact hP 36 _ rfl
theorem tq_37 {D : va_G} {k : Nat → ClassId} {g : Nat → Nat} {H : Heap} {o h : Nat} {a : Nat → Nat} {G : Nat → Nat → Int32} (hg : ∀ j : Nat, j < 43 → g (o + j) = (ADT h a).getD j 0) (hP : va_P D vwCl (TCv k h a G) H) : va_at D vwCl (g (o + 37), q_c k g (.inr (7, [q2 (o + 38), q2 (o + 39), q1 0]))) H := by
  show va_at D vwCl (g (o + 37), .inr (7, [.ref (g (o + 38)), .ref (g (o + 39)), .int 0])) H
  rw [(show g (o + 37) = (a 44) from hg 37 (by decide)), (show g (o + 38) = (a 45) from hg 38 (by decide)), (show g (o + 39) = (a 46) from hg 39 (by decide))]
  exact hP 37 _ rfl
theorem tq_38 {D : va_G} {k : Nat → ClassId} {g : Nat → Nat} {H : Heap} {o h : Nat} {a : Nat → Nat} {G : Nat → Nat → Int32} (hg : ∀ j : Nat, j < 43 → g (o + j) = (ADT h a).getD j 0) (hP : va_P D vwCl (TCv k h a G) H) : va_at D vwCl (g (o + 38), q_c k g (.inl (0, 10, .inl (fun _ => 0)))) H := by
  rw [(show g (o + 38) = (a 45) from hg 38 (by decide))]
  exact hP 38 _ rfl
theorem tq_39 {D : va_G} {k : Nat → ClassId} {g : Nat → Nat} {H : Heap} {o h : Nat} {a : Nat → Nat} {G : Nat → Nat → Int32} (hg : ∀ j : Nat, j < 43 → g (o + j) = (ADT h a).getD j 0) (hP : va_P D vwCl (TCv k h a G) H) : va_at D vwCl (g (o + 39), q_c k g (.inl (0, 10, .inl (fun _ => 0)))) H := by
  rw [(show g (o + 39) = (a 46) from hg 39 (by decide))]
  exact hP 39 _ rfl
theorem tq_40 {D : va_G} {k : Nat → ClassId} {g : Nat → Nat} {H : Heap} {o h : Nat} {a : Nat → Nat} {G : Nat → Nat → Int32} (hg : ∀ j : Nat, j < 43 → g (o + j) = (ADT h a).getD j 0) (hP : va_P D vwCl (TCv k h a G) H) : va_at D vwCl (g (o + 40), q_c k g (.inr (7, [q2 (o + 41), q2 (o + 42), q1 0]))) H := by
  show va_at D vwCl (g (o + 40), .inr (7, [.ref (g (o + 41)), .ref (g (o + 42)), .int 0])) H
  rw [(show g (o + 40) = (a 47) from hg 40 (by decide)), (show g (o + 41) = (a 48) from hg 41 (by decide)), (show g (o + 42) = (a 49) from hg 42 (by decide))]
  exact hP 40 _ rfl
theorem tq_41 {D : va_G} {k : Nat → ClassId} {g : Nat → Nat} {H : Heap} {o h : Nat} {a : Nat → Nat} {G : Nat → Nat → Int32} (hg : ∀ j : Nat, j < 43 → g (o + j) = (ADT h a).getD j 0) (hP : va_P D vwCl (TCv k h a G) H) : va_at D vwCl (g (o + 41), q_c k g (.inl (0, 10, .inl (fun _ => 0)))) H := by
  rw [(show g (o + 41) = (a 48) from hg 41 (by decide))]
  exact hP 41 _ rfl
theorem tq_42 {D : va_G} {k : Nat → ClassId} {g : Nat → Nat} {H : Heap} {o h : Nat} {a : Nat → Nat} {G : Nat → Nat → Int32} (hg : ∀ j : Nat, j < 43 → g (o + j) = (ADT h a).getD j 0) (hP : va_P D vwCl (TCv k h a G) H) : va_at D vwCl (g (o + 42), q_c k g (.inl (0, 10, .inl (fun _ => 0)))) H := by
  rw [(show g (o + 42) = (a 49) from hg 42 (by decide))]
  exact hP 42 _ rfl
theorem TCl_QL {D : va_G} {k : Nat → ClassId} {g : Nat → Nat} {H : Heap} {o h : Nat} {a : Nat → Nat} {G : Nat → Nat → Int32} (hg : ∀ j : Nat, j < 43 → g (o + j) = (ADT h a).getD j 0) (hP : va_P D vwCl (TCv k h a G) H) : QL D k g H ((List.range 43).map (fun j => o + j)) (TCl o G) := ⟨tq_0 hg hP, tq_1 hg hP, tq_2 hg hP, tq_3 hg hP, tq_4 hg hP, tq_5 hg hP, tq_6 hg hP, tq_7 hg hP, tq_8 hg hP, tq_9 hg hP, tq_10 hg hP, tq_11 hg hP, tq_12 hg hP, tq_13 hg hP, tq_14 hg hP, tq_15 hg hP, tq_16 hg hP, tq_17 hg hP, tq_18 hg hP, tq_19 hg hP, tq_20 hg hP, tq_21 hg hP, tq_22 hg hP, tq_23 hg hP, tq_24 hg hP, tq_25 hg hP, tq_26 hg hP, tq_27 hg hP, tq_28 hg hP, tq_29 hg hP, tq_30 hg hP, tq_31 hg hP, tq_32 hg hP, tq_33 hg hP, tq_34 hg hP, tq_35 hg hP, tq_36 hg hP, tq_37 hg hP, tq_38 hg hP, tq_39 hg hP, tq_40 hg hP, tq_41 hg hP, tq_42 hg hP, trivial⟩
theorem TCl_ok (o : Nat) (G : Nat → Nat → Int32) : q_okw (TCl o G) := okw_c (oko rfl) (okw_c (okz _ _) (okw_c (okz _ _) (okw_c (okr _ _ _) (okw_c (okr _ _ _) (okw_c (okr _ _ _) (okw_c (okr _ _ _) (okw_c (oko rfl) (okw_c (okt _ _) (okw_c (okt _ _) (okw_c (okt _ _) (okw_c (okt _ _) (okw_c (okt _ _) (okw_c (okt _ _) (okw_c (okt _ _) (okw_c (oko rfl) (okw_c (okt _ _) (okw_c (okt _ _) (okw_c (okt _ _) (okw_c (okt _ _) (okw_c (okt _ _) (okw_c (okt _ _) (okw_c (okt _ _) (okw_c (oko rfl) (okw_c (okz _ _) (okw_c (okz _ _) (okw_c (okz _ _) (okw_c (okz _ _) (okw_c (oko rfl) (okw_c (okz _ _) (okw_c (okz _ _) (okw_c (okz _ _) (okw_c (okz _ _) (okw_c (oko rfl) (okw_c (okz _ _) (okw_c (oko rfl) (okw_c (okz _ _) (okw_c (oko rfl) (okw_c (okz _ _) (okw_c (okz _ _) (okw_c (oko rfl) (okw_c (okz _ _) (okw_c (okz _ _) (okw_0)))))))))))))))))))))))))))))))))))))))))))
/-- what a told block made anew holds -/
def FT (G : Nat → Nat → Int32) : Nat → Nat → Int := fun j => (((fun _ => 0) :: (fun _ => 0) :: (fun _ => 0) :: (fun _ => 0) :: (fun _ => 0) :: (fun _ => 0) :: (fun _ => 0) :: (fun _ => 0) :: (ti 8 (G 11)) :: (ti 8 (G 12)) :: (ti 4 (G 13)) :: (ti 32 (G 14)) :: (ti 6 (G 15)) :: (ti 6 (G 16)) :: (ti 6 (G 17)) :: (fun _ => 0) :: (ti 8 (G 21)) :: (ti 8 (G 22)) :: (ti 4 (G 23)) :: (ti 32 (G 24)) :: (ti 6 (G 25)) :: (ti 6 (G 26)) :: (ti 6 (G 27)) :: (fun _ => 0) :: (fun _ => 0) :: (fun _ => 0) :: (fun _ => 0) :: (fun _ => 0) :: (fun _ => 0) :: (fun _ => 0) :: (fun _ => 0) :: (fun _ => 0) :: (fun _ => 0) :: (fun _ => 0) :: (fun _ => 0) :: (fun _ => 0) :: (fun _ => 0) :: (fun _ => 0) :: (fun _ => 0) :: (fun _ => 0) :: (fun _ => 0) :: (fun _ => 0) :: (fun _ => 0) :: []) : List (Nat → Int)).getD j (fun _ => 0)
def UT : Nat → Nat → Int := fun j i => ((([0, 0, (-1)] :: [] :: [] :: [] :: [] :: [] :: [] :: [0, 0, 5, 0, 0] :: [] :: [] :: [] :: [] :: [] :: [] :: [] :: [0, 0, 5, 0, 0] :: [] :: [] :: [] :: [] :: [] :: [] :: [] :: [0] :: [] :: [] :: [] :: [] :: [0] :: [] :: [] :: [] :: [] :: [0] :: [] :: [0] :: [] :: [0] :: [] :: [] :: [0] :: [] :: [] :: []) : List (List Int)).getD j []).getD i 0
set_option maxRecDepth 100000 in
theorem TCl_PL (o : Nat) {G : Nat → Nat → Int32} {F U : Nat → Nat → Int} (h13 : FGv (G 13)) (h23 : FGv (G 23)) (hF : ∀ j : Nat, j < 43 → F (o + j) = FT G j) (hU : ∀ j : Nat, j < 43 → U (o + j) = UT j) : PL (TBL o F U) (TCl o G) := ⟨(show PT_T o (U (o + 0)) _ from ⟨0, 0, (-1), rfl, (by decide), ⟨(congrFun (hU 0 (by decide)) 0).symm, (congrFun (hU 0 (by decide)) 1).symm, (congrFun (hU 0 (by decide)) 2).symm⟩⟩), (show PT_Ttp o (F (o + 1)) _ from ⟨_, rfl, (hF 1 (by decide)).symm⟩), (show PT_Tct o (F (o + 2)) _ from ⟨_, rfl, (rg_0 (by decide)), (hF 2 (by decide)).symm⟩), (show PT_TBa o _ from rfl), (show PT_TYa o _ from rfl), (show PT_TLa o _ from rfl), (show PT_TSa o _ from rfl), (show PT_B0 o (U (o + 7)) _ from ⟨0, 0, 5, 0, 0, rfl, (by decide), ⟨(congrFun (hU 7 (by decide)) 0).symm, (congrFun (hU 7 (by decide)) 1).symm, (congrFun (hU 7 (by decide)) 2).symm, (congrFun (hU 7 (by decide)) 3).symm, (congrFun (hU 7 (by decide)) 4).symm⟩⟩), (show PT_B0_1 o (F (o + 8)) _ from ⟨_, rfl, (hF 8 (by decide)).symm⟩), (show PT_B0_2 o (F (o + 9)) _ from ⟨_, rfl, (hF 9 (by decide)).symm⟩), (show PT_B0_3 o (F (o + 10)) _ from ⟨_, rfl, (ti_rg h13 (by decide)), (hF 10 (by decide)).symm⟩), (show PT_B0_4 o (F (o + 11)) _ from ⟨_, rfl, (hF 11 (by decide)).symm⟩), (show PT_B0_5 o (F (o + 12)) _ from ⟨_, rfl, (hF 12 (by decide)).symm⟩), (show PT_B0_6 o (F (o + 13)) _ from ⟨_, rfl, (hF 13 (by decide)).symm⟩), (show PT_B0_7 o (F (o + 14)) _ from ⟨_, rfl, (hF 14 (by decide)).symm⟩), (show PT_B1 o (U (o + 15)) _ from ⟨0, 0, 5, 0, 0, rfl, (by decide), ⟨(congrFun (hU 15 (by decide)) 0).symm, (congrFun (hU 15 (by decide)) 1).symm, (congrFun (hU 15 (by decide)) 2).symm, (congrFun (hU 15 (by decide)) 3).symm, (congrFun (hU 15 (by decide)) 4).symm⟩⟩), (show PT_B1_1 o (F (o + 16)) _ from ⟨_, rfl, (hF 16 (by decide)).symm⟩), (show PT_B1_2 o (F (o + 17)) _ from ⟨_, rfl, (hF 17 (by decide)).symm⟩), (show PT_B1_3 o (F (o + 18)) _ from ⟨_, rfl, (ti_rg h23 (by decide)), (hF 18 (by decide)).symm⟩), (show PT_B1_4 o (F (o + 19)) _ from ⟨_, rfl, (hF 19 (by decide)).symm⟩), (show PT_B1_5 o (F (o + 20)) _ from ⟨_, rfl, (hF 20 (by decide)).symm⟩), (show PT_B1_6 o (F (o + 21)) _ from ⟨_, rfl, (hF 21 (by decide)).symm⟩), (show PT_B1_7 o (F (o + 22)) _ from ⟨_, rfl, (hF 22 (by decide)).symm⟩), (show PT_Y0 o (U (o + 23)) _ from ⟨0, rfl, (by decide), (congrFun (hU 23 (by decide)) 0).symm⟩), (show PT_Y0_1 o (F (o + 24)) _ from ⟨_, rfl, (hF 24 (by decide)).symm⟩), (show PT_Y0_2 o (F (o + 25)) _ from ⟨_, rfl, (hF 25 (by decide)).symm⟩), (show PT_Y0_3 o (F (o + 26)) _ from ⟨_, rfl, (hF 26 (by decide)).symm⟩), (show PT_Y0_4 o (F (o + 27)) _ from ⟨_, rfl, (hF 27 (by decide)).symm⟩), (show PT_Y1 o (U (o + 28)) _ from ⟨0, rfl, (by decide), (congrFun (hU 28 (by decide)) 0).symm⟩), (show PT_Y1_1 o (F (o + 29)) _ from ⟨_, rfl, (hF 29 (by decide)).symm⟩), (show PT_Y1_2 o (F (o + 30)) _ from ⟨_, rfl, (hF 30 (by decide)).symm⟩), (show PT_Y1_3 o (F (o + 31)) _ from ⟨_, rfl, (hF 31 (by decide)).symm⟩), (show PT_Y1_4 o (F (o + 32)) _ from ⟨_, rfl, (hF 32 (by decide)).symm⟩), (show PT_L0 o (U (o + 33)) _ from ⟨0, rfl, (congrFun (hU 33 (by decide)) 0).symm⟩), (show PT_L0_1 o (F (o + 34)) _ from ⟨_, rfl, (hF 34 (by decide)).symm⟩), (show PT_L1 o (U (o + 35)) _ from ⟨0, rfl, (congrFun (hU 35 (by decide)) 0).symm⟩), (show PT_L1_1 o (F (o + 36)) _ from ⟨_, rfl, (hF 36 (by decide)).symm⟩), (show PT_S0 o (U (o + 37)) _ from ⟨0, rfl, (by decide), (congrFun (hU 37 (by decide)) 0).symm⟩), (show PT_S0_1 o (F (o + 38)) _ from ⟨_, rfl, (hF 38 (by decide)).symm⟩), (show PT_S0_2 o (F (o + 39)) _ from ⟨_, rfl, (hF 39 (by decide)).symm⟩), (show PT_S1 o (U (o + 40)) _ from ⟨0, rfl, (by decide), (congrFun (hU 40 (by decide)) 0).symm⟩), (show PT_S1_1 o (F (o + 41)) _ from ⟨_, rfl, (hF 41 (by decide)).symm⟩), (show PT_S1_2 o (F (o + 42)) _ from ⟨_, rfl, (hF 42 (by decide)).symm⟩), trivial⟩
