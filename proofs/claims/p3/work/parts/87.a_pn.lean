def PTB (o : Nat) (u : Int) (w : qW) : Prop := ∀ (i : Nat) (P : qC → Prop), (TBL o u)[i]? = some P → ∃ x, w[o + i]? = some x ∧ P x
def IMk (n : Nat) (i : Option Nat) : Prop := i = none ∨ ∃ j : Nat, j < n ∧ i = some (111 + 43 * j)
def cnO (i : Option Nat) : Nat := match i with
  | some _ => 1
  | none => 0
/-- what the law knows of the two sides beside the cells: the tape's length, the reference's lengths and what it keeps, the lengths of images' blocks, the images' places -/
abbrev qG : Type := Int × (Nat → Int) × (Nat → Int) × (Nat → Int) × (Nat → Option Nat)
abbrev gL (γ : qG) : List (qC → Prop) := LC γ.1 γ.2.1 γ.2.2.1
def PN (γ : qG) (n : Nat) (w : qW) : Prop := PW (gL γ) w ∧ w.length = 111 + 43 * n ∧ (w[44]? = some (.inl (8, 3, .inr (.inr [γ.2.2.2.2 0, γ.2.2.2.2 1, γ.2.2.2.2 2]))) ∧ IMk n (γ.2.2.2.2 0) ∧ IMk n (γ.2.2.2.2 1) ∧ IMk n (γ.2.2.2.2 2) ∧ cnO (γ.2.2.2.2 0) + cnO (γ.2.2.2.2 1) + cnO (γ.2.2.2.2 2) = n) ∧ ∀ j : Nat, j < n → PTB (111 + 43 * j) (γ.2.2.2.1 j) w
set_option maxRecDepth 100000 in
theorem LC_len (ln : Int) (siz kp : Nat → Int) : (LC ln siz kp).length = 111 := rfl
theorem TBL_len (o : Nat) (u : Int) : (TBL o u).length = 43 := rfl
theorem PW_app {w : qW} {o m : Nat} {ln : Int} {siz kp : Nat → Int} {u : Int} (hm : o = 111 + m) (h : PW (LC ln siz kp) w) (hl : o ≤ w.length) (hb : PTB o u w) : PW (LC ln siz kp ++ (List.replicate m (fun _ => True) ++ TBL o u)) w := by
  intro i P hi
  by_cases h1 : i < 111
  · rw [List.getElem?_append_left (by rw [LC_len]; exact h1)] at hi
    exact h i P hi
  · rw [List.getElem?_append_right (by rw [LC_len]; omega), LC_len] at hi
    by_cases h2 : i < o
    · rw [List.getElem?_append_left (by rw [List.length_replicate]; omega), List.getElem?_replicate] at hi
      split at hi
      · cases hi
        exact ⟨_, List.getElem?_eq_getElem (by omega), trivial⟩
      · cases hi
    · rw [List.getElem?_append_right (by rw [List.length_replicate]; omega), List.length_replicate] at hi
      obtain ⟨x, hx, hp⟩ := hb _ P hi
      exact ⟨x, by rw [show i = o + (i - 111 - m) by omega]; exact hx, hp⟩
theorem PW_LC {w : qW} {ln : Int} {siz kp : Nat → Int} {C : List (qC → Prop)} (h : PW (LC ln siz kp ++ C) w) : PW (LC ln siz kp) w := fun i P hi => h i P (by rw [List.getElem?_append_left ((List.getElem?_eq_some_iff.mp hi).1)]; exact hi)
theorem PW_TB {w : qW} {o m : Nat} {ln : Int} {siz kp : Nat → Int} {u : Int} (hm : o = 111 + m) (h : PW (LC ln siz kp ++ (List.replicate m (fun _ => True) ++ TBL o u)) w) : PTB o u w := by
  intro i P hi
  refine h (o + i) P ?_
  rw [List.getElem?_append_right (by rw [LC_len]; omega), LC_len, List.getElem?_append_right (by rw [List.length_replicate]; omega), List.length_replicate, show o + i - 111 - m = i by omega]
  exact hi
theorem PTB_keep {o : Nat} {u : Int} {w w' : qW} (h : PTB o u w) (e : ∀ i : Nat, i < 43 → w'[o + i]? = w[o + i]?) : PTB o u w' := by
  intro i P hi
  obtain ⟨x, hx, hp⟩ := h i P hi
  have : i < 43 := by have := (List.getElem?_eq_some_iff.mp hi).1; rw [TBL_len] at this; exact this
  exact ⟨x, by rw [e i this]; exact hx, hp⟩
/-- a call that keeps the law's first cells (with other ghosts) and touches nothing of images -/
theorem PN_of {γ : qG} {n : Nat} {ln : Int} {siz kp : Nat → Int} {w w' : qW} (h : PN γ n w) (h1 : PW (LC ln siz kp) w') (h2 : w'.length = w.length) (h3 : ∀ i : Nat, (i = 44 ∨ 111 ≤ i) → w'[i]? = w[i]?) : PN (ln, siz, kp, γ.2.2.2.1, γ.2.2.2.2) n w' := by
  obtain ⟨a, b, ⟨c1, c2⟩, d⟩ := h
  refine ⟨h1, by rw [h2]; exact b, ⟨by rw [h3 44 (Or.inl rfl)]; exact c1, c2⟩, fun j hj => PTB_keep (d j hj) (fun i hi => h3 _ (Or.inr (by omega)))⟩
/-- a copy between the told block and block j -/
theorem PN_cp {γ : qG} {n j o m : Nat} {ln u : Int} {w w' : qW} (h : PN γ n w) (hj : j < n) (ho : o = 111 + 43 * j) (hm : o = 111 + m) (h1 : PW (LC ln γ.2.1 γ.2.2.1 ++ (List.replicate m (fun _ => True) ++ TBL o u)) w') (h2 : w'.length = w.length) (h3 : ∀ i : Nat, ¬ (1 ≤ i ∧ i ≤ 43) ∧ ¬ (o ≤ i ∧ i ≤ o + 42) → w'[i]? = w[i]?) : PN (ln, γ.2.1, γ.2.2.1, q_up γ.2.2.2.1 j u, γ.2.2.2.2) n w' := by
  obtain ⟨a, b, ⟨c1, c2⟩, d⟩ := h
  refine ⟨PW_LC h1, by rw [h2]; exact b, ⟨by rw [h3 44 (by omega)]; exact c1, c2⟩, fun q hq => ?_⟩
  show PTB (111 + 43 * q) (q_up γ.2.2.2.1 j u q) w'
  by_cases e : q = j
  · subst e; rw [q_up_s, ← ho]; exact PW_TB hm h1
  · rw [q_up_n e]; exact PTB_keep (d q hq) (fun i hi => h3 _ (by omega))
theorem PN_CL {γ : qG} {n j o m : Nat} {w : qW} (h : PN γ n w) (hj : j < n) (ho : o = 111 + 43 * j) (hm : o = 111 + m) : PW (LC γ.1 γ.2.1 γ.2.2.1 ++ (List.replicate m (fun _ => True) ++ TBL o (γ.2.2.2.1 j))) w := PW_app hm h.1 (by rw [h.2.1]; omega) (by rw [ho]; exact h.2.2.2 j hj)
def spN (n : Nat) (rel : Option qV → Prop) (ar : List qV → Prop) : qS := fun av w Q => ∃ γ : qG, PN γ n w ∧ ar av ∧ ∀ r w', PN γ n w' → w'.length = w.length → rel r → Q r w'
theorem spN_mo {n : Nat} {rel : Option qV → Prop} {ar : List qV → Prop} : ∀ (av : List qV) (w : qW) (P P' : Option qV → qW → Prop), (∀ r w1, P r w1 → P' r w1) → spN n rel ar av w P → spN n rel ar av w P' := fun av w P P' h hs => by
  obtain ⟨γ, h1, h2, h3⟩ := hs
  exact ⟨γ, h1, h2, fun r w' a b c => h _ _ (h3 r w' a b c)⟩
theorem q_MN_of {l : Launch} {y : MethodName} {cc : ByteArray} {nL fr lo : Nat} {ret : Option FieldType} {rel : Option qV → Prop} {ar : List qV → Prop} (n : Nat) (h : ∀ (ln : Int) (siz kp : Nat → Int), q_M l y cc nL ret fr lo (spW0 (LC ln siz kp) ar rel)) : q_M l y cc nL ret fr lo (spN n rel ar) := by
  intro dC dI k g av w Q sz hs oka okw
  obtain ⟨γ, h1, h2, h3⟩ := hs
  exact h γ.1 γ.2.1 γ.2.2.1 dC dI k g av w Q sz ⟨h1.1, h2, fun r w' a b c d => h3 r w' (PN_of h1 a b c) b d⟩ oka okw
/-- calls that change what is known: rel says how -/
def spM (n : Nat) (ar : List qV → Prop) (rel : qG → List qV → Option qV → qG → Prop) : qS := fun av w Q => ∃ γ : qG, PN γ n w ∧ ar av ∧ ∀ r γ' w', PN γ' n w' → w'.length = w.length → rel γ av r γ' → Q r w'
theorem spM_mo {n : Nat} {ar : List qV → Prop} {rel : qG → List qV → Option qV → qG → Prop} : ∀ (av : List qV) (w : qW) (P P' : Option qV → qW → Prop), (∀ r w1, P r w1 → P' r w1) → spM n ar rel av w P → spM n ar rel av w P' := fun av w P P' h hs => by
  obtain ⟨γ, h1, h2, h3⟩ := hs
  exact ⟨γ, h1, h2, fun r γ' w' a b c => h _ _ (h3 r γ' w' a b c)⟩
theorem q_MM_of {l : Launch} {y : MethodName} {cc : ByteArray} {nL fr lo : Nat} {ret : Option FieldType} {ar : List qV → Prop} {rel : qG → List qV → Option qV → qG → Prop} {R : Int → (Nat → Int) → (Nat → Int) → List qV → Option qV → List (qC → Prop) → Prop} (n : Nat) (h : ∀ (ln : Int) (siz kp : Nat → Int), q_M l y cc nL ret fr lo (spS (LC ln siz kp) ar (R ln siz kp))) (hR : ∀ (γ : qG) (av : List qV) (r : Option qV) (C : List (qC → Prop)), R γ.1 γ.2.1 γ.2.2.1 av r C → ∃ (ln : Int) (siz kp : Nat → Int), C = LC ln siz kp ∧ rel γ av r (ln, siz, kp, γ.2.2.2.1, γ.2.2.2.2)) : q_M l y cc nL ret fr lo (spM n ar rel) := by
  intro dC dI k g av w Q sz hs oka okw
  obtain ⟨γ, h1, h2, h3⟩ := hs
  refine h γ.1 γ.2.1 γ.2.2.1 dC dI k g av w Q sz ⟨h1.1, h2, fun r C w' a b c d => ?_⟩ oka okw
  obtain ⟨ln, siz, kp, rfl, hd⟩ := hR γ av r C d
  exact h3 r _ w' (PN_of h1 a b c) b hd
/-- the three copies into one, by the image's block -/
def sU (d : Nat) : qS := fun av w Q => ∃ (γ : qG) (n j : Nat), PN γ n w ∧ j < n ∧ j < 3 ∧ av = (match d with
    | 0 => [q2 1, q2 (111 + 43 * j)]
    | _ => [q2 (111 + 43 * j), q2 1]) ∧ ∀ w', PN (match d with
    | 0 => (γ.2.2.2.1 j, γ.2.1, γ.2.2.1, γ.2.2.2.1, γ.2.2.2.2)
    | _ => (γ.1, γ.2.1, γ.2.2.1, q_up γ.2.2.2.1 j γ.1, γ.2.2.2.2)) n w' → w'.length = w.length → Q none w'
theorem sU_mo (d : Nat) : ∀ (av : List qV) (w : qW) (P P' : Option qV → qW → Prop), (∀ r w1, P r w1 → P' r w1) → sU d av w P → sU d av w P' := fun av w P P' h hs => by
  obtain ⟨γ, n, j, h1, h2, h3, h4, h5⟩ := hs
  exact ⟨γ, n, j, h1, h2, h3, h4, fun w' a b => h _ _ (h5 w' a b)⟩
theorem q_up_self (f : Nat → Int) (j : Nat) : q_up f j (f j) = f := by
  funext i
  unfold q_up
  split
  · rename_i h; rw [h]
  · rfl
theorem mU_0 (l : Launch) : q_M l yX8_copy cX8_copy 3 none 2 89 (sU 0) := by
  intro dC dI k g av w Q sz hs oka okw
  obtain ⟨γ, n, j, h1, h2, h3, rfl, h5⟩ := hs
  rcases (show j = 0 ∨ j = 1 ∨ j = 2 by omega) with rfl | rfl | rfl
  · refine mL_copy_111t l γ.1 γ.2.1 γ.2.2.1 (γ.2.2.2.1 0) dC dI k g _ w Q sz ⟨PN_CL (m := 0) h1 h2 rfl rfl, rfl, fun r w' a b c e => ?_⟩ oka okw
    subst e
    have h9 := PN_cp (m := 0) h1 h2 rfl rfl a b (fun i hi => c i hi)
    rw [q_up_self] at h9
    exact h5 w' h9 b
  · refine mL_copy_154t l γ.1 γ.2.1 γ.2.2.1 (γ.2.2.2.1 1) dC dI k g _ w Q sz ⟨PN_CL (m := 43) h1 h2 rfl rfl, rfl, fun r w' a b c e => ?_⟩ oka okw
    subst e
    have h9 := PN_cp (m := 43) h1 h2 rfl rfl a b (fun i hi => c i hi)
    rw [q_up_self] at h9
    exact h5 w' h9 b
  · refine mL_copy_197t l γ.1 γ.2.1 γ.2.2.1 (γ.2.2.2.1 2) dC dI k g _ w Q sz ⟨PN_CL (m := 86) h1 h2 rfl rfl, rfl, fun r w' a b c e => ?_⟩ oka okw
    subst e
    have h9 := PN_cp (m := 86) h1 h2 rfl rfl a b (fun i hi => c i hi)
    rw [q_up_self] at h9
    exact h5 w' h9 b
theorem mU_1 (l : Launch) : q_M l yX8_copy cX8_copy 3 none 2 89 (sU 1) := by
  intro dC dI k g av w Q sz hs oka okw
  obtain ⟨γ, n, j, h1, h2, h3, rfl, h5⟩ := hs
  rcases (show j = 0 ∨ j = 1 ∨ j = 2 by omega) with rfl | rfl | rfl
  · refine mL_copy_111i l γ.1 γ.2.1 γ.2.2.1 (γ.2.2.2.1 0) dC dI k g _ w Q sz ⟨PN_CL (m := 0) h1 h2 rfl rfl, rfl, fun r w' a b c e => ?_⟩ oka okw
    subst e
    have h9 := PN_cp (m := 0) h1 h2 rfl rfl a b (fun i hi => c i hi)
    exact h5 w' h9 b
  · refine mL_copy_154i l γ.1 γ.2.1 γ.2.2.1 (γ.2.2.2.1 1) dC dI k g _ w Q sz ⟨PN_CL (m := 43) h1 h2 rfl rfl, rfl, fun r w' a b c e => ?_⟩ oka okw
    subst e
    have h9 := PN_cp (m := 43) h1 h2 rfl rfl a b (fun i hi => c i hi)
    exact h5 w' h9 b
  · refine mL_copy_197i l γ.1 γ.2.1 γ.2.2.1 (γ.2.2.2.1 2) dC dI k g _ w Q sz ⟨PN_CL (m := 86) h1 h2 rfl rfl, rfl, fun r w' a b c e => ?_⟩ oka okw
    subst e
    have h9 := PN_cp (m := 86) h1 h2 rfl rfl a b (fun i hi => c i hi)
    exact h5 w' h9 b
