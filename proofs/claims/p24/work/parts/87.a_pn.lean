def PTB (o : Nat) (F U : Nat → Nat → Int) (w : qW) : Prop := ∀ (i : Nat) (P : qC → Prop), (TBL o F U)[i]? = some P → ∃ x, w[o + i]? = some x ∧ P x
def IMk (n : Nat) (i : Option Nat) : Prop := i = none ∨ ∃ j : Nat, j < n ∧ i = some (111 + 43 * j)
def cnO (i : Option Nat) : Nat := match i with
  | some _ => 1
  | none => 0
/-- what the law knows of the two sides: what each lasting cell holds (rows, numbers, by places), the images' places -/
abbrev qG : Type := (Nat → Nat → Int) × (Nat → Nat → Int) × (Nat → Option Nat)
abbrev gL (γ : qG) : List (qC → Prop) := LC γ.1 γ.2.1
def PN (γ : qG) (n : Nat) (w : qW) : Prop := PW (gL γ) w ∧ w.length = 111 + 43 * n ∧ (w[44]? = some (.inl (8, 3, .inr (.inr [γ.2.2 0, γ.2.2 1, γ.2.2 2]))) ∧ IMk n (γ.2.2 0) ∧ IMk n (γ.2.2 1) ∧ IMk n (γ.2.2 2) ∧ cnO (γ.2.2 0) + cnO (γ.2.2 1) + cnO (γ.2.2 2) = n) ∧ ∀ j : Nat, j < n → PTB (111 + 43 * j) γ.1 γ.2.1 w
theorem PW_app {w : qW} {o m : Nat} {F U : Nat → Nat → Int} (hm : o = 111 + m) (h : PW (LC F U) w) (hl : o ≤ w.length) (hb : PTB o F U w) : PW (LC F U ++ (List.replicate m (fun _ => True) ++ TBL o F U)) w := by
  intro i P hi
  by_cases h1 : i < 111
  · rw [List.getElem?_append_left (by rw [LC_len]; exact h1)] at hi
    exact h i P hi
  · rw [List.getElem?_append_right (by rw [LC_len]; omega), LC_len] at hi
    by_cases h2 : i < o
    · rw [List.getElem?_append_left (by rw [List.length_replicate]; omega), List.getElem?_replicate] at hi
      split at hi
      · cases hi
        exact ⟨_, List.getElem?_eq_getElem (by omega), trivial⟩
      · cases hi
    · rw [List.getElem?_append_right (by rw [List.length_replicate]; omega), List.length_replicate] at hi
      obtain ⟨x, hx, hp⟩ := hb _ P hi
      exact ⟨x, by rw [show i = o + (i - 111 - m) by omega]; exact hx, hp⟩
theorem PW_LC {w : qW} {F U : Nat → Nat → Int} {C : List (qC → Prop)} (h : PW (LC F U ++ C) w) : PW (LC F U) w := fun i P hi => h i P (by rw [List.getElem?_append_left ((List.getElem?_eq_some_iff.mp hi).1)]; exact hi)
theorem PW_TB {w : qW} {o m : Nat} {F U : Nat → Nat → Int} (hm : o = 111 + m) (h : PW (LC F U ++ (List.replicate m (fun _ => True) ++ TBL o F U)) w) : PTB o F U w := by
  intro i P hi
  refine h (o + i) P ?_
  rw [List.getElem?_append_right (by rw [LC_len]; omega), LC_len, List.getElem?_append_right (by rw [List.length_replicate]; omega), List.length_replicate, show o + i - 111 - m = i by omega]
  exact hi
theorem PTB_keep {o : Nat} {F U F' U' : Nat → Nat → Int} {w w' : qW} (h : PTB o F U w) (e : ∀ i : Nat, i < 43 → w'[o + i]? = w[o + i]?) (hg : ∀ j : Nat, j < 43 → F' (o + j) = F (o + j) ∧ U' (o + j) = U (o + j)) : PTB o F' U' w' := by
  intro i P hi
  rw [TBL_ne hg] at hi
  obtain ⟨x, hx, hp⟩ := h i P hi
  have : i < 43 := by have := (List.getElem?_eq_some_iff.mp hi).1; rw [TBL_len] at this; exact this
  exact ⟨x, by rw [e i this]; exact hx, hp⟩
/-- a call that keeps the law's first cells (with other ghosts) and touches nothing of images -/
theorem PN_of {γ : qG} {n : Nat} {F U : Nat → Nat → Int} {w w' : qW} (h : PN γ n w) (h1 : PW (LC F U) w') (h2 : w'.length = w.length) (h3 : ∀ i : Nat, (i = 44 ∨ 111 ≤ i) → w'[i]? = w[i]?) (hg : ∀ p : Nat, 111 ≤ p → F p = γ.1 p ∧ U p = γ.2.1 p) : PN (F, U, γ.2.2) n w' := by
  obtain ⟨a, b, ⟨c1, c2⟩, d⟩ := h
  refine ⟨h1, by rw [h2]; exact b, ⟨by rw [h3 44 (Or.inl rfl)]; exact c1, c2⟩, fun j hj => PTB_keep (d j hj) (fun i hi => h3 _ (Or.inr (by omega))) (fun q hq => hg _ (by omega))⟩
/-- a copy between the told block and block j -/
theorem PN_cp {γ : qG} {n j o m : Nat} {F U : Nat → Nat → Int} {w w' : qW} (h : PN γ n w) (hj : j < n) (ho : o = 111 + 43 * j) (hm : o = 111 + m) (h1 : PW (LC F U ++ (List.replicate m (fun _ => True) ++ TBL o F U)) w') (h2 : w'.length = w.length) (h3 : ∀ i : Nat, ¬ (1 ≤ i ∧ i ≤ 43) ∧ ¬ (o ≤ i ∧ i ≤ o + 42) → w'[i]? = w[i]?) (hg : ∀ p : Nat, 111 ≤ p → ¬ (o ≤ p ∧ p ≤ o + 42) → F p = γ.1 p ∧ U p = γ.2.1 p) : PN (F, U, γ.2.2) n w' := by
  obtain ⟨a, b, ⟨c1, c2⟩, d⟩ := h
  refine ⟨PW_LC h1, by rw [h2]; exact b, ⟨by rw [h3 44 (by omega)]; exact c1, c2⟩, fun q hq => ?_⟩
  by_cases e : q = j
  · subst e; rw [← ho]; exact PW_TB hm h1
  · exact PTB_keep (d q hq) (fun i hi => h3 _ (by omega)) (fun i hi => hg _ (by omega) (by omega))
theorem PN_CL {γ : qG} {n j o m : Nat} {w : qW} (h : PN γ n w) (hj : j < n) (ho : o = 111 + 43 * j) (hm : o = 111 + m) : PW (LC γ.1 γ.2.1 ++ (List.replicate m (fun _ => True) ++ TBL o γ.1 γ.2.1)) w := PW_app hm h.1 (by rw [h.2.1]; omega) (by rw [ho]; exact h.2.2.2 j hj)
def spN (n : Nat) (rel : Option qV → Prop) (ar : List qV → Prop) : qS := fun av w Q => ∃ γ : qG, PN γ n w ∧ ar av ∧ ∀ r w', PN γ n w' → w'.length = w.length → rel r → Q r w'
theorem spN_mo {n : Nat} {rel : Option qV → Prop} {ar : List qV → Prop} : ∀ (av : List qV) (w : qW) (P P' : Option qV → qW → Prop), (∀ r w1, P r w1 → P' r w1) → spN n rel ar av w P → spN n rel ar av w P' := fun av w P P' h hs => by
  obtain ⟨γ, h1, h2, h3⟩ := hs
  exact ⟨γ, h1, h2, fun r w' a b c => h _ _ (h3 r w' a b c)⟩
theorem PN_eta {γ : qG} {n : Nat} {w : qW} (h : PN (γ.1, γ.2.1, γ.2.2) n w) : PN γ n w := h
theorem q_MN_of {l : Launch} {y : MethodName} {cc : ByteArray} {nL fr lo : Nat} {ret : Option FieldType} {rel : Option qV → Prop} {ar : List qV → Prop} (n : Nat) (h : ∀ (F U : Nat → Nat → Int), q_M l y cc nL ret fr lo (spW0 (LC F U) ar rel)) : q_M l y cc nL ret fr lo (spN n rel ar) := by
  intro dC dI k g av w Q sz hs oka okw
  obtain ⟨γ, h1, h2, h3⟩ := hs
  exact h γ.1 γ.2.1 dC dI k g av w Q sz ⟨h1.1, h2, fun r w' a b c d => h3 r w' (PN_eta (PN_of h1 a b c (fun p _ => ⟨rfl, rfl⟩))) b d⟩ oka okw
/-- calls that change what is known: rel says how -/
def spM (n : Nat) (ar : List qV → Prop) (rel : qG → List qV → Option qV → qG → Prop) : qS := fun av w Q => ∃ γ : qG, PN γ n w ∧ ar av ∧ ∀ r γ' w', PN γ' n w' → w'.length = w.length → rel γ av r γ' → Q r w'
theorem spM_mo {n : Nat} {ar : List qV → Prop} {rel : qG → List qV → Option qV → qG → Prop} : ∀ (av : List qV) (w : qW) (P P' : Option qV → qW → Prop), (∀ r w1, P r w1 → P' r w1) → spM n ar rel av w P → spM n ar rel av w P' := fun av w P P' h hs => by
  obtain ⟨γ, h1, h2, h3⟩ := hs
  exact ⟨γ, h1, h2, fun r γ' w' a b c => h _ _ (h3 r γ' w' a b c)⟩
/-- what a call changes of the first cells, as a step of what is known -/
def stG (rel : (Nat → Nat → Int) → (Nat → Nat → Int) → List qV → Option qV → (Nat → Nat → Int) → (Nat → Nat → Int) → Prop) (γ : qG) (av : List qV) (r : Option qV) (γ' : qG) : Prop := γ'.2.2 = γ.2.2 ∧ rel γ.1 γ.2.1 av r γ'.1 γ'.2.1
theorem q_MM_G {l : Launch} {y : MethodName} {cc : ByteArray} {nL fr lo : Nat} {ret : Option FieldType} {ar : List qV → Prop} {rel : (Nat → Nat → Int) → (Nat → Nat → Int) → List qV → Option qV → (Nat → Nat → Int) → (Nat → Nat → Int) → Prop} (n : Nat) (h : ∀ (F U : Nat → Nat → Int), q_M l y cc nL ret fr lo (spG F U ar (rel F U))) (hf : ∀ (F U F' U' : Nat → Nat → Int) (av : List qV) (r : Option qV), rel F U av r F' U' → frm F U F' U') : q_M l y cc nL ret fr lo (spM n ar (stG rel)) := by
  intro dC dI k g av w Q sz hs oka okw
  obtain ⟨γ, h1, h2, h3⟩ := hs
  exact h γ.1 γ.2.1 dC dI k g av w Q sz ⟨h1.1, h2, fun r F' U' w' a b c d => h3 r (F', U', γ.2.2) w' (PN_of h1 a b c (hf _ _ _ _ _ _ d)) b ⟨rfl, d⟩⟩ oka okw
theorem q_MM_X {l : Launch} {y : MethodName} {cc : ByteArray} {nL fr lo : Nat} {ret : Option FieldType} {ar : List qV → Prop} {rel : (Nat → Nat → Int) → (Nat → Nat → Int) → List qV → Option qV → (Nat → Nat → Int) → (Nat → Nat → Int) → Prop} (n : Nat) (h : q_M l y cc nL ret fr lo (spX ar rel)) (hf : ∀ (F U F' U' : Nat → Nat → Int) (av : List qV) (r : Option qV), rel F U av r F' U' → frm F U F' U') : q_M l y cc nL ret fr lo (spM n ar (stG rel)) := by
  intro dC dI k g av w Q sz hs oka okw
  obtain ⟨γ, h1, h2, h3⟩ := hs
  exact h dC dI k g av w Q sz ⟨γ.1, γ.2.1, h1.1, h2, fun r F' U' w' a b c d => h3 r (F', U', γ.2.2) w' (PN_of h1 a b c (hf _ _ _ _ _ _ d)) b ⟨rfl, d⟩⟩ oka okw
/-- calls that change nothing, and what they answer -/
def stV (rel : (Nat → Nat → Int) → (Nat → Nat → Int) → List qV → Option qV → Prop) (γ : qG) (av : List qV) (r : Option qV) (γ' : qG) : Prop := γ' = γ ∧ rel γ.1 γ.2.1 av r
theorem q_MM_V {l : Launch} {y : MethodName} {cc : ByteArray} {nL fr lo : Nat} {ret : Option FieldType} {ar : List qV → Prop} {rel : (Nat → Nat → Int) → (Nat → Nat → Int) → List qV → Option qV → Prop} (n : Nat) (h : ∀ (F U : Nat → Nat → Int), q_M l y cc nL ret fr lo (spV (LC F U) (rel F U) ar)) : q_M l y cc nL ret fr lo (spM n ar (stV rel)) := by
  intro dC dI k g av w Q sz hs oka okw
  obtain ⟨γ, h1, h2, h3⟩ := hs
  exact h γ.1 γ.2.1 dC dI k g av w Q sz ⟨h1.1, h2, fun r w' a b c d => h3 r γ w' (PN_eta (PN_of h1 a b c (fun p _ => ⟨rfl, rfl⟩))) b ⟨rfl, d⟩⟩ oka okw
/-- the three copies into one, by the image's block: 0 the told block becomes as the image's, 1 the image's as the told one -/
def cpG (d j : Nat) (γ γ' : qG) : Prop := γ'.2.2 = γ.2.2 ∧ (match d with
    | 0 => EqT 1 (111 + 43 * j) γ.1 γ.2.1 γ'.1 γ'.2.1
    | _ => EqT (111 + 43 * j) 1 γ.1 γ.2.1 γ'.1 γ'.2.1)
def sU (d : Nat) : qS := fun av w Q => ∃ (γ : qG) (n j : Nat), PN γ n w ∧ j < n ∧ j < 3 ∧ av = (match d with
    | 0 => [q2 1, q2 (111 + 43 * j)]
    | _ => [q2 (111 + 43 * j), q2 1]) ∧ ∀ γ' w', PN γ' n w' → w'.length = w.length → cpG d j γ γ' → Q none w'
theorem sU_mo (d : Nat) : ∀ (av : List qV) (w : qW) (P P' : Option qV → qW → Prop), (∀ r w1, P r w1 → P' r w1) → sU d av w P → sU d av w P' := fun av w P P' h hs => by
  obtain ⟨γ, n, j, h1, h2, h3, h4, h5⟩ := hs
  exact ⟨γ, n, j, h1, h2, h3, h4, fun γ' w' a b c => h _ _ (h5 γ' w' a b c)⟩
theorem mU_0 (l : Launch) : q_M l yX8_copy cX8_copy 3 none 2 89 (sU 0) := by
  intro dC dI k g av w Q sz hs oka okw
  obtain ⟨γ, n, j, h1, h2, h3, rfl, h5⟩ := hs
  rcases (show j = 0 ∨ j = 1 ∨ j = 2 by omega) with rfl | rfl | rfl
  · refine mX_copy_111t l dC dI k g _ w Q sz ⟨γ.1, γ.2.1, PN_CL (m := 0) h1 h2 rfl rfl, rfl, fun r F' U' w' a b c e => ?_⟩ oka okw
    obtain ⟨rfl, e⟩ := e
    have h9 := PN_cp (m := 0) h1 h2 rfl rfl a b (fun i hi => c i hi) (fun p h8 h7 => e.1 p (by omega))
    exact h5 _ w' h9 b ⟨rfl, e⟩
  · refine mX_copy_154t l dC dI k g _ w Q sz ⟨γ.1, γ.2.1, PN_CL (m := 43) h1 h2 rfl rfl, rfl, fun r F' U' w' a b c e => ?_⟩ oka okw
    obtain ⟨rfl, e⟩ := e
    have h9 := PN_cp (m := 43) h1 h2 rfl rfl a b (fun i hi => c i hi) (fun p h8 h7 => e.1 p (by omega))
    exact h5 _ w' h9 b ⟨rfl, e⟩
  · refine mX_copy_197t l dC dI k g _ w Q sz ⟨γ.1, γ.2.1, PN_CL (m := 86) h1 h2 rfl rfl, rfl, fun r F' U' w' a b c e => ?_⟩ oka okw
    obtain ⟨rfl, e⟩ := e
    have h9 := PN_cp (m := 86) h1 h2 rfl rfl a b (fun i hi => c i hi) (fun p h8 h7 => e.1 p (by omega))
    exact h5 _ w' h9 b ⟨rfl, e⟩
theorem mU_1 (l : Launch) : q_M l yX8_copy cX8_copy 3 none 2 89 (sU 1) := by
  intro dC dI k g av w Q sz hs oka okw
  obtain ⟨γ, n, j, h1, h2, h3, rfl, h5⟩ := hs
  rcases (show j = 0 ∨ j = 1 ∨ j = 2 by omega) with rfl | rfl | rfl
  · refine mX_copy_111i l dC dI k g _ w Q sz ⟨γ.1, γ.2.1, PN_CL (m := 0) h1 h2 rfl rfl, rfl, fun r F' U' w' a b c e => ?_⟩ oka okw
    obtain ⟨rfl, e⟩ := e
    have h9 := PN_cp (m := 0) h1 h2 rfl rfl a b (fun i hi => c i hi) (fun p h8 h7 => e.1 p (by omega))
    exact h5 _ w' h9 b ⟨rfl, e⟩
  · refine mX_copy_154i l dC dI k g _ w Q sz ⟨γ.1, γ.2.1, PN_CL (m := 43) h1 h2 rfl rfl, rfl, fun r F' U' w' a b c e => ?_⟩ oka okw
    obtain ⟨rfl, e⟩ := e
    have h9 := PN_cp (m := 43) h1 h2 rfl rfl a b (fun i hi => c i hi) (fun p h8 h7 => e.1 p (by omega))
    exact h5 _ w' h9 b ⟨rfl, e⟩
  · refine mX_copy_197i l dC dI k g _ w Q sz ⟨γ.1, γ.2.1, PN_CL (m := 86) h1 h2 rfl rfl, rfl, fun r F' U' w' a b c e => ?_⟩ oka okw
    obtain ⟨rfl, e⟩ := e
    have h9 := PN_cp (m := 86) h1 h2 rfl rfl a b (fun i hi => c i hi) (fun p h8 h7 => e.1 p (by omega))
    exact h5 _ w' h9 b ⟨rfl, e⟩
