def PTB (o : Nat) (w : qW) : Prop := ∀ (i : Nat) (P : qC → Prop), (TBL o)[i]? = some P → ∃ x, w[o + i]? = some x ∧ P x
def IMk (n : Nat) (i : Option Nat) : Prop := i = none ∨ ∃ j : Nat, j < n ∧ i = some (111 + 43 * j)
def cnO (i : Option Nat) : Nat := match i with
  | some _ => 1
  | none => 0
def PN (n : Nat) (w : qW) : Prop := PW LC w ∧ w.length = 111 + 43 * n ∧ (∃ i0 i1 i2 : Option Nat, w[44]? = some (.inl (8, 3, .inr (.inr [i0, i1, i2]))) ∧ IMk n i0 ∧ IMk n i1 ∧ IMk n i2 ∧ cnO i0 + cnO i1 + cnO i2 = n) ∧ ∀ j : Nat, j < n → PTB (111 + 43 * j) w
set_option maxRecDepth 100000 in
theorem LC_len : LC.length = 111 := rfl
theorem TBL_len (o : Nat) : (TBL o).length = 43 := rfl
theorem PW_app {w : qW} {o m : Nat} (hm : o = 111 + m) (h : PW LC w) (hl : o ≤ w.length) (hb : PTB o w) : PW (LC ++ (List.replicate m (fun _ => True) ++ TBL o)) w := by
  intro i P hi
  by_cases h1 : i < 111
  · rw [List.getElem?_append_left (by rw [LC_len]; exact h1)] at hi
    exact h i P hi
  · rw [List.getElem?_append_right (by rw [LC_len]; omega), LC_len] at hi
    by_cases h2 : i < o
    · rw [List.getElem?_append_left (by rw [List.length_replicate]; omega), List.getElem?_replicate] at hi
      split at hi
      · cases hi
        exact ⟨_, List.getElem?_eq_getElem (by omega), trivial⟩
      · cases hi
    · rw [List.getElem?_append_right (by rw [List.length_replicate]; omega), List.length_replicate] at hi
      obtain ⟨x, hx, hp⟩ := hb _ P hi
      exact ⟨x, by rw [show i = o + (i - 111 - m) by omega]; exact hx, hp⟩
theorem PW_LC {w : qW} {C : List (qC → Prop)} (h : PW (LC ++ C) w) : PW LC w := fun i P hi => h i P (by rw [List.getElem?_append_left ((List.getElem?_eq_some_iff.mp hi).1)]; exact hi)
theorem PW_TB {w : qW} {o m : Nat} (hm : o = 111 + m) (h : PW (LC ++ (List.replicate m (fun _ => True) ++ TBL o)) w) : PTB o w := by
  intro i P hi
  refine h (o + i) P ?_
  rw [List.getElem?_append_right (by rw [LC_len]; omega), LC_len, List.getElem?_append_right (by rw [List.length_replicate]; omega), List.length_replicate, show o + i - 111 - m = i by omega]
  exact hi
theorem PTB_keep {o : Nat} {w w' : qW} (h : PTB o w) (e : ∀ i : Nat, i < 43 → w'[o + i]? = w[o + i]?) : PTB o w' := by
  intro i P hi
  obtain ⟨x, hx, hp⟩ := h i P hi
  have : i < 43 := by have := (List.getElem?_eq_some_iff.mp hi).1; rw [TBL_len] at this; exact this
  exact ⟨x, by rw [e i this]; exact hx, hp⟩
/-- a call that keeps the law's first cells and touches nothing of images -/
theorem PN_of {n : Nat} {w w' : qW} (h : PN n w) (h1 : PW LC w') (h2 : w'.length = w.length) (h3 : ∀ i : Nat, (i = 44 ∨ 111 ≤ i) → w'[i]? = w[i]?) : PN n w' := by
  obtain ⟨a, b, ⟨i0, i1, i2, c1, c2⟩, d⟩ := h
  refine ⟨h1, by rw [h2]; exact b, ⟨i0, i1, i2, by rw [h3 44 (Or.inl rfl)]; exact c1, c2⟩, fun j hj => PTB_keep (d j hj) (fun i hi => h3 _ (Or.inr (by omega)))⟩
/-- a copy between the told block and block j -/
theorem PN_cp {n j o m : Nat} {w w' : qW} (h : PN n w) (hj : j < n) (ho : o = 111 + 43 * j) (hm : o = 111 + m) (h1 : PW (LC ++ (List.replicate m (fun _ => True) ++ TBL o)) w') (h2 : w'.length = w.length) (h3 : ∀ i : Nat, ¬ (1 ≤ i ∧ i ≤ 43) ∧ ¬ (o ≤ i ∧ i ≤ o + 42) → w'[i]? = w[i]?) : PN n w' := by
  obtain ⟨a, b, ⟨i0, i1, i2, c1, c2⟩, d⟩ := h
  refine ⟨PW_LC h1, by rw [h2]; exact b, ⟨i0, i1, i2, by rw [h3 44 (by omega)]; exact c1, c2⟩, fun q hq => ?_⟩
  by_cases e : q = j
  · subst e; rw [← ho]; exact PW_TB hm h1
  · exact PTB_keep (d q hq) (fun i hi => h3 _ (by omega))
theorem PN_CL {n j o m : Nat} {w : qW} (h : PN n w) (hj : j < n) (ho : o = 111 + 43 * j) (hm : o = 111 + m) : PW (LC ++ (List.replicate m (fun _ => True) ++ TBL o)) w := PW_app hm h.1 (by rw [h.2.1]; omega) (by rw [ho]; exact h.2.2.2 j hj)
def spN (n : Nat) (rel : Option qV → Prop) (ar : List qV → Prop) : qS := fun av w Q => PN n w ∧ ar av ∧ ∀ r w', PN n w' → w'.length = w.length → rel r → Q r w'
theorem spN_mo {n : Nat} {rel : Option qV → Prop} {ar : List qV → Prop} : ∀ (av : List qV) (w : qW) (P P' : Option qV → qW → Prop), (∀ r w1, P r w1 → P' r w1) → spN n rel ar av w P → spN n rel ar av w P' := fun av w P P' h hs => ⟨hs.1, hs.2.1, fun r w' a b c => h _ _ (hs.2.2 r w' a b c)⟩
theorem q_MN_of {l : Launch} {y : MethodName} {cc : ByteArray} {nL fr lo : Nat} {ret : Option FieldType} {rel : Option qV → Prop} {ar : List qV → Prop} (n : Nat) (h : q_M l y cc nL ret fr lo (spW0 LC ar rel)) : q_M l y cc nL ret fr lo (spN n rel ar) := q_M_mono (fun av w Q hs => ⟨hs.1.1, hs.2.1, fun r w' a b c d => hs.2.2 r w' (PN_of hs.1 a b c) b d⟩) h
/-- the three copies into one, by the image's block -/
def sU (d : Nat) : qS := fun av w Q => ∃ (n j : Nat), PN n w ∧ j < n ∧ j < 3 ∧ av = (match d with
    | 0 => [q2 1, q2 (111 + 43 * j)]
    | _ => [q2 (111 + 43 * j), q2 1]) ∧ ∀ w', PN n w' → w'.length = w.length → Q none w'
theorem sU_mo (d : Nat) : ∀ (av : List qV) (w : qW) (P P' : Option qV → qW → Prop), (∀ r w1, P r w1 → P' r w1) → sU d av w P → sU d av w P' := fun av w P P' h hs => by
  obtain ⟨n, j, h1, h2, h3, h4, h5⟩ := hs
  exact ⟨n, j, h1, h2, h3, h4, fun w' a b => h _ _ (h5 w' a b)⟩
theorem mU_0 (l : Launch) : q_M l yX8_copy cX8_copy 3 none 2 89 (sU 0) := by
  intro dC dI k g av w Q sz hs oka okw
  obtain ⟨n, j, h1, h2, h3, rfl, h5⟩ := hs
  rcases (show j = 0 ∨ j = 1 ∨ j = 2 by omega) with rfl | rfl | rfl
  · refine mL_copy_111t l dC dI k g _ w Q sz ⟨PN_CL (m := 0) h1 h2 rfl rfl, rfl, fun r w' a b c e => ?_⟩ oka okw
    subst e
    exact h5 w' (PN_cp (m := 0) h1 h2 rfl rfl a b (fun i hi => c i hi)) b
  · refine mL_copy_154t l dC dI k g _ w Q sz ⟨PN_CL (m := 43) h1 h2 rfl rfl, rfl, fun r w' a b c e => ?_⟩ oka okw
    subst e
    exact h5 w' (PN_cp (m := 43) h1 h2 rfl rfl a b (fun i hi => c i hi)) b
  · refine mL_copy_197t l dC dI k g _ w Q sz ⟨PN_CL (m := 86) h1 h2 rfl rfl, rfl, fun r w' a b c e => ?_⟩ oka okw
    subst e
    exact h5 w' (PN_cp (m := 86) h1 h2 rfl rfl a b (fun i hi => c i hi)) b
theorem mU_1 (l : Launch) : q_M l yX8_copy cX8_copy 3 none 2 89 (sU 1) := by
  intro dC dI k g av w Q sz hs oka okw
  obtain ⟨n, j, h1, h2, h3, rfl, h5⟩ := hs
  rcases (show j = 0 ∨ j = 1 ∨ j = 2 by omega) with rfl | rfl | rfl
  · refine mL_copy_111i l dC dI k g _ w Q sz ⟨PN_CL (m := 0) h1 h2 rfl rfl, rfl, fun r w' a b c e => ?_⟩ oka okw
    subst e
    exact h5 w' (PN_cp (m := 0) h1 h2 rfl rfl a b (fun i hi => c i hi)) b
  · refine mL_copy_154i l dC dI k g _ w Q sz ⟨PN_CL (m := 43) h1 h2 rfl rfl, rfl, fun r w' a b c e => ?_⟩ oka okw
    subst e
    exact h5 w' (PN_cp (m := 43) h1 h2 rfl rfl a b (fun i hi => c i hi)) b
  · refine mL_copy_197i l dC dI k g _ w Q sz ⟨PN_CL (m := 86) h1 h2 rfl rfl, rfl, fun r w' a b c e => ?_⟩ oka okw
    subst e
    exact h5 w' (PN_cp (m := 86) h1 h2 rfl rfl a b (fun i hi => c i hi)) b
