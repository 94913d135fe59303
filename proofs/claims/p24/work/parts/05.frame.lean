/-! ===== a pure picture of values, cells, worlds; references are places in the world's list ===== -/
abbrev qV : Type := Int ⊕ Int ⊕ Option Nat
abbrev qC : Type := (Nat × Nat × ((Nat → Int) ⊕ (Nat → Int) ⊕ List (Option Nat))) ⊕ (Nat × List qV)
abbrev qL : Type := List (Nat × qV)
abbrev qW : Type := List qC
abbrev qK : Type := qL → List qV → qW → Prop
abbrev qR : Type := Option qV → qW → Prop
abbrev qS : Type := List qV → qW → qR → Prop
def q_v (g : Nat → Nat) (v : qV) : Value := match v with
  | .inl z => .int (Int32.ofInt z)
  | .inr (.inl z) => .long (Int64.ofInt z)
  | .inr (.inr (some i)) => .ref (g i)
  | .inr (.inr none) => .null
def q_c (k : Nat → ClassId) (g : Nat → Nat) (x : qC) : va_E := match x with
  | .inl (t, n, .inl f) => .inl (k t, n, .inl (fun i => Int32.ofInt (f i)))
  | .inl (t, n, .inr (.inl f)) => .inl (k t, n, .inr (.inl (fun i => Int64.ofInt (f i))))
  | .inl (t, n, .inr (.inr f)) => .inl (k t, n, .inr (.inr (.inr (.inr (fun i => (f.getD i none).map g)))))
  | .inr (ci, vs) => .inr (ci, vs.map (q_v g))
def q_w (k : Nat → ClassId) (g : Nat → Nat) (w : qW) : va_W := w.mapIdx (fun i x => (g i, q_c k g x))
def q_i (z : Int) : Prop := -2147483648 ≤ z ∧ z ≤ 2147483647
def q_l (z : Int) : Prop := -9223372036854775808 ≤ z ∧ z ≤ 9223372036854775807
def q_ok (v : qV) : Prop := match v with
  | .inl z => q_i z
  | .inr (.inl z) => q_l z
  | .inr (.inr _) => True
def q_okc (x : qC) : Prop := match x with
  | .inl (t, _, .inl f) => (∀ i, q_i (f i)) ∧ (t = 1 → ∀ i, -128 ≤ f i ∧ f i ≤ 127)
  | .inl (_, _, .inr (.inl f)) => ∀ i, q_l (f i)
  | .inl (_, _, .inr (.inr _)) => True
  | .inr (_, vs) => ∀ v ∈ vs, q_ok v
def q_okw (w : qW) : Prop := ∀ x ∈ w, q_okc x
def q_okl (l : qL) : Prop := ∀ q ∈ l, q_ok q.2
def q_oks (st : List qV) : Prop := ∀ v ∈ st, q_ok v
def q_D (A : Nat → Prop) (g : Nat → Nat) (n : Nat) : Prop := (∀ i j : Nat, i < n → j < n → g i = g j → i = j) ∧ ∀ i : Nat, i < n → A (g i)
def q_lg (v : qV) : Bool := match v with
  | .inr (.inl _) => true
  | _ => false
def q_lv (g : Nat → Nat) (l : qL) : List (Nat × Value) := l.map (fun q => (q.1, q_v g q.2))
def q_get : qL → Nat → Option qV
  | [], _ => none
  | (j, v) :: l, i => match Nat.beq j i with
    | true => some v
    | false => q_get l i
def q_put (l : qL) (i : Nat) (v : qV) : qL := (i, v) :: l.filter (fun q => !(Nat.beq q.1 i) && !(Nat.beq (q.1 + 1) i && q_lg q.2))
def q_put2 (l : qL) (i : Nat) (v : qV) : qL := (i, v) :: l.filter (fun q => !(Nat.beq q.1 i) && (!(Nat.beq q.1 (i + 1)) && !(Nat.beq (q.1 + 1) i && q_lg q.2)))
def q_ar : Nat → List qV → qL
  | _, [] => []
  | i, v :: vs => (i, v) :: q_ar (match q_lg v with | true => i + 2 | false => i + 1) vs
def q_cat (v : qV) : Nat := match q_lg v with
  | true => 2
  | false => 1
/-! ints -/
theorem q_io {z : Int} (h : q_i z) : (Int32.ofInt z).toInt = z := Int32.toInt_ofInt_of_le h.1 (by have := h.2; omega)
theorem q_it (x : Int32) : q_i x.toInt := ⟨Int32.le_toInt x, by have := Int32.toInt_lt x; omega⟩
theorem q_lo {z : Int} (h : q_l z) : (Int64.ofInt z).toInt = z := Int64.toInt_ofInt_of_le h.1 (by have := h.2; omega)
theorem q_lt (x : Int64) : q_l x.toInt := ⟨Int64.le_toInt x, by have := Int64.toInt_lt x; omega⟩
theorem q_lt_iff {x y : Int} (hx : q_i x) (hy : q_i y) : Int32.ofInt x < Int32.ofInt y ↔ x < y := by rw [Int32.lt_iff_toInt_lt, q_io hx, q_io hy]
theorem q_le_iff {x y : Int} (hx : q_i x) (hy : q_i y) : Int32.ofInt x ≤ Int32.ofInt y ↔ x ≤ y := by rw [Int32.le_iff_toInt_le, q_io hx, q_io hy]
theorem q_eq_iff {x y : Int} (hx : q_i x) (hy : q_i y) : Int32.ofInt x = Int32.ofInt y ↔ x = y := ⟨fun h => by rw [← q_io hx, ← q_io hy, h], fun h => by rw [h]⟩
theorem q_0 : Int32.ofInt 0 = 0 := rfl
theorem q_i0 : q_i 0 := ⟨by decide, by decide⟩
theorem q_in {z : Int} {n : Nat} (h : q_i z) (h0 : 0 ≤ z) (h1 : z < n) : vp_in (Int32.ofInt z) n := by rw [vp_in_iff, q_io h]; exact ⟨h0, h1⟩
theorem q_cl {z : Int} (h : q_i z) : (Int32.ofInt z).toNatClampNeg = z.toNat := by show (Int32.ofInt z).toInt.toNat = _; rw [q_io h]
/-! worlds -/
theorem q_w_at {k : Nat → ClassId} {g : Nat → Nat} {w : qW} {i : Nat} {x : qC} (h : w[i]? = some x) : (q_w k g w)[i]? = some (g i, q_c k g x) := by
  unfold q_w; rw [List.getElem?_mapIdx, h]; rfl
theorem q_w_of {k : Nat → ClassId} {g : Nat → Nat} {w : qW} {i : Nat} {q : Nat × va_E} (h : (q_w k g w)[i]? = some q) : ∃ x, w[i]? = some x ∧ q = (g i, q_c k g x) := by
  unfold q_w at h; rw [List.getElem?_mapIdx] at h
  cases hw : w[i]? with
  | none => rw [hw] at h; cases h
  | some x => rw [hw] at h; exact ⟨x, rfl, (Option.some.inj h).symm⟩
theorem q_w_set {k : Nat → ClassId} {g : Nat → Nat} {w : qW} {i : Nat} {x : qC} : (q_w k g w).set i (g i, q_c k g x) = q_w k g (w.set i x) := by
  unfold q_w
  apply List.ext_getElem?
  intro j
  rw [List.getElem?_mapIdx, List.getElem?_set, List.getElem?_set, List.getElem?_mapIdx, List.length_mapIdx]
  by_cases h : i = j
  · subst h
    simp only [if_true]
    by_cases h2 : i < w.length
    · rw [if_pos h2, if_pos h2]; rfl
    · rw [if_neg h2, if_neg h2]; rfl
  · rw [if_neg h, if_neg h]
theorem q_w_len {k : Nat → ClassId} {g : Nat → Nat} {w : qW} : (q_w k g w).length = w.length := by unfold q_w; rw [List.length_mapIdx]
theorem q_D_va {A : Nat → Prop} {k : Nat → ClassId} {g : Nat → Nat} {w : qW} (h : q_D A g w.length) : va_D A (q_w k g w) := by
  refine ⟨fun i j p q hp hq hpq => ?_, fun i q hq => ?_⟩
  · obtain ⟨x, hx, rfl⟩ := q_w_of hp
    obtain ⟨y, hy, rfl⟩ := q_w_of hq
    exact h.1 i j (List.getElem?_eq_some_iff.mp hx).1 (List.getElem?_eq_some_iff.mp hy).1 hpq
  · obtain ⟨x, hx, rfl⟩ := q_w_of hq
    exact h.2 i (List.getElem?_eq_some_iff.mp hx).1
theorem q_okw_at {w : qW} (h : q_okw w) {i : Nat} {x : qC} (hi : w[i]? = some x) : q_okc x := h x (List.mem_of_getElem? hi)
theorem q_okw_set {w : qW} (h : q_okw w) {i : Nat} {x : qC} (hx : q_okc x) : q_okw (w.set i x) := by
  intro y hy
  rcases List.mem_or_eq_of_mem_set hy with h1 | h1
  · exact h y h1
  · rw [h1]; exact hx
/-! locals -/
theorem q_get_mem {l : qL} {i : Nat} {v : qV} (h : q_get l i = some v) : (i, v) ∈ l := by
  induction l with
  | nil => cases h
  | cons q l ih =>
    obtain ⟨j, u⟩ := q
    unfold q_get at h
    cases hb : Nat.beq j i with
    | true =>
      rw [hb] at h
      have hj := Nat.eq_of_beq_eq_true hb
      subst hj
      cases h
      exact List.mem_cons_self
    | false => rw [hb] at h; exact List.mem_cons_of_mem _ (ih h)
theorem q_get_at {ls : Array Slot} {nL : Nat} {g : Nat → Nat} {l : qL} {i : Nat} {v : qV} (h : lv_has ls nL (q_lv g l)) (hi : q_get l i = some v) : ls[i]? = some (.val (q_v g v)) := h.2.2 (i, q_v g v) (List.mem_map.mpr ⟨(i, v), q_get_mem hi, rfl⟩)
theorem q_get_ok {l : qL} {i : Nat} {v : qV} (h : q_okl l) (hi : q_get l i = some v) : q_ok v := h _ (q_get_mem hi)
theorem q_catv (g : Nat → Nat) (v : qV) : ((q_v g v).category == 2) = q_lg v := by
  rcases v with z | z | r
  · rfl
  · rfl
  · cases r <;> rfl
theorem q_beq (a b : Nat) : (a == b) = Nat.beq a b := by
  cases h : Nat.beq a b with
  | true => rw [Nat.eq_of_beq_eq_true h]; exact beq_self_eq_true b
  | false =>
    rw [beq_eq_false_iff_ne]
    exact Nat.ne_of_beq_eq_false h
theorem q_put_lv {g : Nat → Nat} {l : qL} {i : Nat} {v : qV} : (i, q_v g v) :: (q_lv g l).filter (fun q => !(q.1 == i) && !(q.1 + 1 == i && q.2.category == 2)) = q_lv g (q_put l i v) := by
  unfold q_lv q_put
  rw [List.map_cons, List.filter_map]
  congr 2
  apply List.filter_congr
  intro q _
  simp only [Function.comp_apply]
  rw [q_catv, q_beq, q_beq]
theorem q_put2_lv {g : Nat → Nat} {l : qL} {i : Nat} {v : qV} : (i, q_v g v) :: (q_lv g l).filter (fun q => !(q.1 == i) && (!(q.1 == i + 1) && !(q.1 + 1 == i && q.2.category == 2))) = q_lv g (q_put2 l i v) := by
  unfold q_lv q_put2
  rw [List.map_cons, List.filter_map]
  congr 2
  apply List.filter_congr
  intro q _
  simp only [Function.comp_apply]
  rw [q_catv, q_beq, q_beq, q_beq]
theorem q_okl_put {l : qL} {i : Nat} {v : qV} (h : q_okl l) (hv : q_ok v) : q_okl (q_put l i v) := by
  intro q hq
  rcases List.mem_cons.mp hq with h1 | h1
  · rw [h1]; exact hv
  · exact h q (List.mem_filter.mp h1).1
theorem q_okl_put2 {l : qL} {i : Nat} {v : qV} (h : q_okl l) (hv : q_ok v) : q_okl (q_put2 l i v) := by
  intro q hq
  rcases List.mem_cons.mp hq with h1 | h1
  · rw [h1]; exact hv
  · exact h q (List.mem_filter.mp h1).1
theorem q_ar_lv (g : Nat → Nat) (vs : List qV) : ∀ i : Nat, lv_args i (vs.map (q_v g)) = q_lv g (q_ar i vs) := by
  induction vs with
  | nil => intro i; rfl
  | cons v vs ih =>
    intro i
    unfold q_ar
    rw [List.map_cons]
    show (i, q_v g v) :: lv_args _ _ = (i, q_v g v) :: q_lv g _
    rw [← ih]
    congr 2
    have h := q_catv g v
    cases hl : q_lg v with
    | true =>
      rw [hl] at h
      rw [if_pos (eq_of_beq h)]
    | false =>
      rw [hl] at h
      rw [if_neg (fun e => by rw [e] at h; cases h)]
theorem q_ar_ok {vs : List qV} (h : q_oks vs) : ∀ i : Nat, q_okl (q_ar i vs) := by
  induction vs with
  | nil => intro i q hq; cases hq
  | cons v vs ih =>
    intro i q hq
    unfold q_ar at hq
    rcases List.mem_cons.mp hq with h1 | h1
    · rw [h1]; exact h v List.mem_cons_self
    · exact ih (fun u hu => h u (List.mem_cons_of_mem _ hu)) _ q h1
/-! ===== the environment: what the tables say that is no word of a list, static rows, texts ===== -/
def qSt : List (String × List Int) := [("FIRST_FINES", [6, 3, 1, 2]), ("SLOT", (1 :: 0 :: 0 :: 1 :: 0 :: 0 :: 1 :: 0 :: 0 :: 1 :: 0 :: 0 :: 1 :: 0 :: 0 :: 1 :: 1 :: 0 :: 1 :: 1 :: 0 :: 2 :: 1 :: 0 :: 1 :: 2 :: 1 :: 1 :: 2 :: 0 :: 1 :: 2 :: 0 :: 1 :: 1 :: 0 :: 1 :: 1 :: 0 :: 1 :: 1 :: 1 :: 1 :: 1 :: 0 :: 1 :: 0 :: 0 :: 1 :: 1 :: 0 :: [])), ("LEAST", (1 :: 0 :: 0 :: 0 :: 0 :: 0 :: 0 :: 0 :: 0 :: 1 :: 0 :: 0 :: 1 :: 0 :: 0 :: 0 :: 0 :: 0 :: 0 :: 0 :: 0 :: 0 :: 1 :: 0 :: 0 :: 0 :: 0 :: 0 :: 0 :: 0 :: 0 :: 0 :: 0 :: 0 :: 1 :: 0 :: 0 :: 1 :: 0 :: 0 :: 0 :: 1 :: 0 :: 0 :: 0 :: 0 :: 0 :: 0 :: 0 :: 1 :: 0 :: [])), ("GREATEST", (99 :: 0 :: 0 :: 7 :: 0 :: 0 :: 10 :: 0 :: 0 :: 99 :: 0 :: 0 :: 99 :: 0 :: 0 :: 7 :: 7 :: 0 :: 7 :: 5 :: 0 :: 3 :: 9 :: 0 :: 7 :: 3 :: 99 :: 7 :: 3 :: 0 :: 7 :: 3 :: 0 :: 7 :: 99 :: 0 :: 7 :: 99 :: 0 :: 7 :: 7 :: 99 :: 7 :: 99 :: 0 :: 99 :: 0 :: 0 :: 7 :: 99 :: 0 :: [])), ("FACTORIAL", [1, 1, 2, 6, 24, 120, 720, 5040, 40320])]
def qNw : List Cond := [.fieldLinkNest RX6 200 "HeightFine" "SLOT" "[I" "HeightFine", .fieldLinkNest RX6 213 "HeightFine" "LEAST" "[I" "HeightFine", .fieldLinkNest RX6 216 "HeightFine" "GREATEST" "[I" "HeightFine", .fieldLinkNest RX2 80 "HeightFine" "FACTORIAL" "[I" "HeightFine", .fieldLinkNest RX1 58 "HeightFine" "FACTORIAL" "[I" "HeightFine", .fieldLinkNest RX0 42 "HeightFine" "FIRST_FINES" "[I" "HeightFine"]
def qTx : List (Nat × String) := ((158, "person") :: (160, "poor") :: (162, "caught") :: (164, "door") :: (166, "work") :: (168, "child") :: (170, "pass") :: (172, "costs") :: (174, "wish") :: (176, "fine") :: (178, "bail") :: (180, "give") :: (182, "stretch") :: (184, "gift") :: (148, "got") :: (154, "owed") :: (156, "tall") :: (186, "theft") :: (188, "lie") :: (190, "speed") :: (192, "insult") :: [])
def qTn : List Nat := (6 :: 4 :: 6 :: 4 :: 4 :: 5 :: 4 :: 5 :: 4 :: 4 :: 4 :: 4 :: 7 :: 4 :: 3 :: 4 :: 4 :: 5 :: 3 :: 5 :: 6 :: [])
def qTb : List (List Int32) := ([112, 101, 114, 115, 111, 110] :: [112, 111, 111, 114] :: [99, 97, 117, 103, 104, 116] :: [100, 111, 111, 114] :: [119, 111, 114, 107] :: [99, 104, 105, 108, 100] :: [112, 97, 115, 115] :: [99, 111, 115, 116, 115] :: [119, 105, 115, 104] :: [102, 105, 110, 101] :: [98, 97, 105, 108] :: [103, 105, 118, 101] :: [115, 116, 114, 101, 116, 99, 104] :: [103, 105, 102, 116] :: [103, 111, 116] :: [111, 119, 101, 100] :: [116, 97, 108, 108] :: [116, 104, 101, 102, 116] :: [108, 105, 101] :: [115, 112, 101, 101, 100] :: [105, 110, 115, 117, 108, 116] :: [])
def qEs (g : Nat → Nat) (A : Nat → Prop) (U : State) : Prop := ∀ (j : Nat) (nm : String) (xs : List Int), qSt[j]? = some (nm, xs) → va_Z "HeightFine" nm "[I" (.ref (g (1000 + j))) A U U.heap ∧ va_X (g (1000 + j)) xs.length (fun i => Int32.ofInt (xs.getD i 0)) U U.heap ∧ g (1000 + j) < U.heap.size ∧ ¬ A (g (1000 + j))
def qEt (g : Nat → Nat) (A : Nat → Prop) (U : State) : Prop := vk_S 21 qTn qTb (fun i => g (2000 + i)) (fun i => g (2100 + i)) A U U.heap ∧ (∀ (i : Nat) (x : Nat × String), qTx[i]? = some x → vk_R RX6 x.1 x.2 (g (2000 + i)) U) ∧ va_Z "java/lang/String" "COMPACT_STRINGS" "Z" (.int 1) A U U.heap ∧ (va_Z "jdk/internal/util/Preconditions" "SIOOBE_FORMATTER" "Ljava/util/function/BiFunction;" .null A U U.heap ∨ va_Z "jdk/internal/util/Preconditions" "SIOOBE_FORMATTER" "Ljava/util/function/BiFunction;" (.ref (g 2200)) A U U.heap)
def qE (g : Nat → Nat) (A : Nat → Prop) (U : State) : Prop := evN U ∧ (∀ w ∈ qNw, va_Nw w U) ∧ qEs g A U ∧ qEt g A U
theorem qE_same {g : Nat → Nat} {A : Nat → Prop} {U V : State} (hv : U.vm = V.vm) (hh : U.heap = V.heap) (h : qE g A U) : qE g A V := by
  obtain ⟨h1, h2, h3, h4, h5, h6, h7⟩ := h
  have hal : U.vm.Alike V.vm := by rw [hv]; exact Vm.Alike.refl _
  refine ⟨evN_same hv h1, fun w hw => ?_, fun j nm xs hj => ?_, ?_, fun i x hx => vk_R.same hv.symm (h5 i x hx), ?_, ?_⟩
  · have h9 := h2 w hw
    simp only [qNw, List.mem_cons, List.not_mem_nil, or_false] at hw
    rcases hw with rfl | rfl | rfl | rfl | rfl | rfl
    all_goals exact va_Nw.same rfl hv h9
  · obtain ⟨a, b, c, d⟩ := h3 j nm xs hj
    rw [← hh]
    exact ⟨a.moved hal, b.moved hal, c, d⟩
  · rw [← hh]; exact h4.moved hal
  · rw [← hh]; exact h6.moved hal
  · rw [← hh]; exact h7.imp (fun h => h.moved hal) (fun h => h.moved hal)
theorem qE_go {g : Nat → Nat} {s U : State} {H : Heap} {A B : Nat → Prop} {locs : List Loc} (h : qE g A s) (hS : va_S A s.heap H locs) (hF : ∀ q, B q → A q) (hU : U.heap = H) (hW : s.WarmedH U.vm) : qE g B U := by
  obtain ⟨h1, h2, h3, h4, h5, h6, h7⟩ := h
  have hk : ∀ a : Nat, a < s.heap.size → ¬ A a → H[a]? = s.heap[a]? := fun a ha hn => hS.2.1 a ha hn
  refine ⟨evN_warm hW h1, fun w hw => ?_, fun j nm xs hj => ?_, ?_, fun i x hx => vk_R.warm hW (h5 i x hx), ?_, ?_⟩
  · have h9 := h2 w hw
    simp only [qNw, List.mem_cons, List.not_mem_nil, or_false] at hw
    rcases hw with rfl | rfl | rfl | rfl | rfl | rfl
    all_goals exact va_Nw.warmF hW h9
  · obtain ⟨a, b, c, d⟩ := h3 j nm xs hj
    rw [hU]
    exact ⟨((a.kept hk).narrow hF).moved hW.alike, (b.kept (hk _ c d)).moved hW.alike, Nat.lt_of_lt_of_le c hS.1, fun z => d (hF _ z)⟩
  · rw [hU]; exact ((h4.kept hk).narrow hF).moved hW.alike
  · rw [hU]; exact ((h6.kept hk).narrow hF).moved hW.alike
  · rw [hU]; exact h7.imp (fun h => ((h.kept hk).narrow hF).moved hW.alike) (fun h => ((h.kept hk).narrow hF).moved hW.alike)
theorem qE_g {g g' : Nat → Nat} {A : Nat → Prop} {U : State} (hg : ∀ i : Nat, 1000 ≤ i → g' i = g i) (h : qE g A U) : qE g' A U := by
  obtain ⟨h1, h2, h3, h4, h5, h6, h7⟩ := h
  refine ⟨h1, h2, fun j nm xs hj => ?_, ?_, fun i x hx => ?_, h6, by rw [hg 2200 (by omega)]; exact h7⟩
  · rw [hg _ (by omega)]; exact h3 j nm xs hj
  · have e1 : (fun i => g' (2000 + i)) = (fun i => g (2000 + i)) := funext (fun i => hg _ (by omega))
    have e2 : (fun i => g' (2100 + i)) = (fun i => g (2100 + i)) := funext (fun i => hg _ (by omega))
    rw [e1, e2]; exact h4
  · rw [hg _ (by omega)]; exact h5 i x hx
