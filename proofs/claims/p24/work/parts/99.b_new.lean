set_option maxRecDepth 100000 in
theorem LC_rf (F U : Nat → Nat → Int) : RFl 111 0 (LC F U) := ⟨(Or.inr (fun x h => by obtain rfl := h; rfl)), (Or.inr (fun x h => by obtain ⟨_, _, _, rfl, -⟩ := h; rfl)), (Or.inr (fun x h => by obtain ⟨_, rfl, -⟩ := h; rfl)), (Or.inr (fun x h => by obtain ⟨_, rfl, -⟩ := h; rfl)), (Or.inr (fun x h => by obtain rfl := h; rfl)), (Or.inr (fun x h => by obtain rfl := h; rfl)), (Or.inr (fun x h => by obtain rfl := h; rfl)), (Or.inr (fun x h => by obtain rfl := h; rfl)), (Or.inr (fun x h => by obtain ⟨_, _, _, _, _, rfl, -⟩ := h; rfl)), (Or.inr (fun x h => by obtain ⟨_, rfl, -⟩ := h; rfl)), (Or.inr (fun x h => by obtain ⟨_, rfl, -⟩ := h; rfl)), (Or.inr (fun x h => by obtain ⟨_, rfl, -⟩ := h; rfl)), (Or.inr (fun x h => by obtain ⟨_, rfl, -⟩ := h; rfl)), (Or.inr (fun x h => by obtain ⟨_, rfl, -⟩ := h; rfl)), (Or.inr (fun x h => by obtain ⟨_, rfl, -⟩ := h; rfl)), (Or.inr (fun x h => by obtain ⟨_, rfl, -⟩ := h; rfl)), (Or.inr (fun x h => by obtain ⟨_, _, _, _, _, rfl, -⟩ := h; rfl)), (Or.inr (fun x h => by obtain ⟨_, rfl, -⟩ := h; rfl)), (Or.inr (fun x h => by obtain ⟨_, rfl, -⟩ := h; rfl)), (Or.inr (fun x h => by obtain ⟨_, rfl, -⟩ := h; rfl)), (Or.inr (fun x h => by obtain ⟨_, rfl, -⟩ := h; rfl)), (Or.inr (fun x h => by obtain ⟨_, rfl, -⟩ := h; rfl)), (Or.inr (fun x h => by obtain ⟨_, rfl, -⟩ := h; rfl)), (Or.inr (fun x h => by obtain ⟨_, rfl, -⟩ := h; rfl)), (Or.inr (fun x h => by obtain ⟨_, rfl, -⟩ := h; rfl)), (Or.inr (fun x h => by obtain ⟨_, rfl, -⟩ := h; rfl)), (Or.inr (fun x h => by obtain ⟨_, rfl, -⟩ := h; rfl)), (Or.inr (fun x h => by obtain ⟨_, rfl, -⟩ := h; rfl)), (Or.inr (fun x h => by obtain ⟨_, rfl, -⟩ := h; rfl)), (Or.inr (fun x h => by obtain ⟨_, rfl, -⟩ := h; rfl)), (Or.inr (fun x h => by obtain ⟨_, rfl, -⟩ := h; rfl)), (Or.inr (fun x h => by obtain ⟨_, rfl, -⟩ := h; rfl)), (Or.inr (fun x h => by obtain ⟨_, rfl, -⟩ := h; rfl)), (Or.inr (fun x h => by obtain ⟨_, rfl, -⟩ := h; rfl)), (Or.inr (fun x h => by obtain ⟨_, rfl, -⟩ := h; rfl)), (Or.inr (fun x h => by obtain ⟨_, rfl, -⟩ := h; rfl)), (Or.inr (fun x h => by obtain ⟨_, rfl, -⟩ := h; rfl)), (Or.inr (fun x h => by obtain ⟨_, rfl, -⟩ := h; rfl)), (Or.inr (fun x h => by obtain ⟨_, rfl, -⟩ := h; rfl)), (Or.inr (fun x h => by obtain ⟨_, rfl, -⟩ := h; rfl)), (Or.inr (fun x h => by obtain ⟨_, rfl, -⟩ := h; rfl)), (Or.inr (fun x h => by obtain ⟨_, rfl, -⟩ := h; rfl)), (Or.inr (fun x h => by obtain ⟨_, rfl, -⟩ := h; rfl)), (Or.inr (fun x h => by obtain ⟨_, rfl, -⟩ := h; rfl)), (Or.inl rfl), (Or.inr (fun x h => by obtain ⟨rt, _, _, _, _, _, _, _, _, _, rfl, -, -, h9⟩ := h; rcases h9 with rfl | rfl <;> rfl)), (Or.inr (fun x h => by obtain ⟨_, rfl⟩ := h; rfl)), (Or.inr (fun x h => by obtain ⟨_, rfl⟩ := h; rfl)), (Or.inr (fun x h => by obtain ⟨_, _, _, _, _, rfl, -⟩ := h; rfl)), (Or.inr (fun x h => by obtain ⟨_, rfl, -⟩ := h; rfl)), (Or.inr (fun x h => by obtain ⟨_, rfl, -⟩ := h; rfl)), (Or.inr (fun x h => by obtain ⟨_, rfl, -⟩ := h; rfl)), (Or.inr (fun x h => by obtain ⟨_, rfl, -⟩ := h; rfl)), (Or.inr (fun x h => by obtain ⟨_, rfl, -⟩ := h; rfl)), (Or.inr (fun x h => by obtain ⟨_, rfl, -⟩ := h; rfl)), (Or.inr (fun x h => by obtain ⟨_, rfl, -⟩ := h; rfl)), (Or.inr (fun x h => by obtain ⟨_, rfl, -⟩ := h; rfl)), (Or.inr (fun x h => by obtain ⟨_, rfl, -⟩ := h; rfl)), (Or.inr (fun x h => by obtain ⟨_, rfl, -⟩ := h; rfl)), (Or.inr (fun x h => by obtain ⟨_, rfl, -⟩ := h; rfl)), (Or.inr (fun x h => by obtain ⟨_, rfl, -⟩ := h; rfl)), (Or.inr (fun x h => by obtain ⟨_, rfl, -⟩ := h; rfl)), (Or.inr (fun x h => by obtain ⟨_, rfl, -⟩ := h; rfl)), (Or.inr (fun x h => by obtain ⟨_, rfl, -⟩ := h; rfl)), (Or.inr (fun x h => by obtain ⟨_, rfl, -⟩ := h; rfl)), (Or.inr (fun x h => by obtain ⟨_, rfl, -⟩ := h; rfl)), (Or.inr (fun x h => by obtain ⟨_, _, rfl⟩ := h; rfl)), (Or.inr (fun x h => by obtain ⟨_, rfl⟩ := h; rfl)), (Or.inr (fun x h => by obtain ⟨_, rfl⟩ := h; rfl)), (Or.inr (fun x h => by obtain ⟨_, rfl⟩ := h; rfl)), (Or.inr (fun x h => by obtain ⟨_, _, rfl⟩ := h; rfl)), (Or.inr (fun x h => by obtain ⟨_, rfl⟩ := h; rfl)), (Or.inr (fun x h => by obtain ⟨_, rfl⟩ := h; rfl)), (Or.inr (fun x h => by obtain ⟨_, rfl⟩ := h; rfl)), (Or.inr (fun x h => by obtain ⟨_, rfl, -⟩ := h; rfl)), (Or.inr (fun x h => by obtain ⟨_, rfl, -⟩ := h; rfl)), (Or.inr (fun x h => by obtain ⟨_, rfl, -⟩ := h; rfl)), (Or.inr (fun x h => by obtain ⟨_, rfl⟩ := h; rfl)), (Or.inr (fun x h => by obtain ⟨_, rfl⟩ := h; rfl)), (Or.inr (fun x h => by obtain ⟨_, rfl⟩ := h; rfl)), (Or.inr (fun x h => by obtain ⟨_, rfl⟩ := h; rfl)), (Or.inr (fun x h => by obtain rfl := h; rfl)), (Or.inr (fun x h => by obtain ⟨_, rfl⟩ := h; rfl)), (Or.inr (fun x h => by obtain ⟨_, rfl⟩ := h; rfl)), (Or.inr (fun x h => by obtain ⟨_, rfl⟩ := h; rfl)), (Or.inr (fun x h => by obtain ⟨_, _, _, _, _, _, _, _, _, _, _, _, _, _, _, _, _, _, _, _, rfl⟩ := h; rfl)), (Or.inr (fun x h => by obtain ⟨_, rfl, -⟩ := h; rfl)), (Or.inr (fun x h => by obtain ⟨_, rfl, -⟩ := h; rfl)), (Or.inr (fun x h => by obtain ⟨_, rfl, -⟩ := h; rfl)), (Or.inr (fun x h => by obtain ⟨_, rfl, -⟩ := h; rfl)), (Or.inr (fun x h => by obtain ⟨_, rfl, -⟩ := h; rfl)), (Or.inr (fun x h => by obtain ⟨_, rfl, -⟩ := h; rfl)), (Or.inr (fun x h => by obtain ⟨_, rfl, -⟩ := h; rfl)), (Or.inr (fun x h => by obtain ⟨_, rfl, -⟩ := h; rfl)), (Or.inr (fun x h => by obtain ⟨_, rfl, -⟩ := h; rfl)), (Or.inr (fun x h => by obtain ⟨_, rfl⟩ := h; rfl)), (Or.inr (fun x h => by obtain ⟨_, rfl⟩ := h; rfl)), (Or.inr (fun x h => by obtain ⟨_, rfl⟩ := h; rfl)), (Or.inr (fun x h => by obtain ⟨_, rfl⟩ := h; rfl)), (Or.inr (fun x h => by obtain ⟨_, rfl⟩ := h; rfl)), (Or.inr (fun x h => by obtain ⟨_, rfl⟩ := h; rfl)), (Or.inr (fun x h => by obtain ⟨_, rfl⟩ := h; rfl)), (Or.inr (fun x h => by obtain ⟨_, rfl⟩ := h; rfl)), (Or.inr (fun x h => by obtain ⟨_, rfl⟩ := h; rfl)), (Or.inr (fun x h => by obtain ⟨_, rfl⟩ := h; rfl)), (Or.inr (fun x h => by obtain ⟨_, rfl⟩ := h; rfl)), (Or.inr (fun x h => by obtain ⟨_, rfl⟩ := h; rfl)), (Or.inr (fun x h => by obtain ⟨_, rfl⟩ := h; rfl)), (Or.inr (fun x h => by obtain ⟨_, rfl⟩ := h; rfl)), (Or.inr (fun x h => by obtain ⟨_, rfl⟩ := h; rfl)), (Or.inr (fun x h => by obtain ⟨_, rfl, -⟩ := h; rfl)), trivial⟩
set_option maxRecDepth 100000 in
theorem TBL_rf111 (F U : Nat → Nat → Int) : RFl 154 100 (TBL 111 F U) := ⟨(Or.inr (fun x h => by obtain ⟨_, _, _, rfl, -⟩ := h; rfl)), (Or.inr (fun x h => by obtain ⟨_, rfl, -⟩ := h; rfl)), (Or.inr (fun x h => by obtain ⟨_, rfl, -⟩ := h; rfl)), (Or.inr (fun x h => by obtain rfl := h; rfl)), (Or.inr (fun x h => by obtain rfl := h; rfl)), (Or.inr (fun x h => by obtain rfl := h; rfl)), (Or.inr (fun x h => by obtain rfl := h; rfl)), (Or.inr (fun x h => by obtain ⟨_, _, _, _, _, rfl, -⟩ := h; rfl)), (Or.inr (fun x h => by obtain ⟨_, rfl, -⟩ := h; rfl)), (Or.inr (fun x h => by obtain ⟨_, rfl, -⟩ := h; rfl)), (Or.inr (fun x h => by obtain ⟨_, rfl, -⟩ := h; rfl)), (Or.inr (fun x h => by obtain ⟨_, rfl, -⟩ := h; rfl)), (Or.inr (fun x h => by obtain ⟨_, rfl, -⟩ := h; rfl)), (Or.inr (fun x h => by obtain ⟨_, rfl, -⟩ := h; rfl)), (Or.inr (fun x h => by obtain ⟨_, rfl, -⟩ := h; rfl)), (Or.inr (fun x h => by obtain ⟨_, _, _, _, _, rfl, -⟩ := h; rfl)), (Or.inr (fun x h => by obtain ⟨_, rfl, -⟩ := h; rfl)), (Or.inr (fun x h => by obtain ⟨_, rfl, -⟩ := h; rfl)), (Or.inr (fun x h => by obtain ⟨_, rfl, -⟩ := h; rfl)), (Or.inr (fun x h => by obtain ⟨_, rfl, -⟩ := h; rfl)), (Or.inr (fun x h => by obtain ⟨_, rfl, -⟩ := h; rfl)), (Or.inr (fun x h => by obtain ⟨_, rfl, -⟩ := h; rfl)), (Or.inr (fun x h => by obtain ⟨_, rfl, -⟩ := h; rfl)), (Or.inr (fun x h => by obtain ⟨_, rfl, -⟩ := h; rfl)), (Or.inr (fun x h => by obtain ⟨_, rfl, -⟩ := h; rfl)), (Or.inr (fun x h => by obtain ⟨_, rfl, -⟩ := h; rfl)), (Or.inr (fun x h => by obtain ⟨_, rfl, -⟩ := h; rfl)), (Or.inr (fun x h => by obtain ⟨_, rfl, -⟩ := h; rfl)), (Or.inr (fun x h => by obtain ⟨_, rfl, -⟩ := h; rfl)), (Or.inr (fun x h => by obtain ⟨_, rfl, -⟩ := h; rfl)), (Or.inr (fun x h => by obtain ⟨_, rfl, -⟩ := h; rfl)), (Or.inr (fun x h => by obtain ⟨_, rfl, -⟩ := h; rfl)), (Or.inr (fun x h => by obtain ⟨_, rfl, -⟩ := h; rfl)), (Or.inr (fun x h => by obtain ⟨_, rfl, -⟩ := h; rfl)), (Or.inr (fun x h => by obtain ⟨_, rfl, -⟩ := h; rfl)), (Or.inr (fun x h => by obtain ⟨_, rfl, -⟩ := h; rfl)), (Or.inr (fun x h => by obtain ⟨_, rfl, -⟩ := h; rfl)), (Or.inr (fun x h => by obtain ⟨_, rfl, -⟩ := h; rfl)), (Or.inr (fun x h => by obtain ⟨_, rfl, -⟩ := h; rfl)), (Or.inr (fun x h => by obtain ⟨_, rfl, -⟩ := h; rfl)), (Or.inr (fun x h => by obtain ⟨_, rfl, -⟩ := h; rfl)), (Or.inr (fun x h => by obtain ⟨_, rfl, -⟩ := h; rfl)), (Or.inr (fun x h => by obtain ⟨_, rfl, -⟩ := h; rfl)), trivial⟩
set_option maxRecDepth 100000 in
theorem TBL_rf154 (F U : Nat → Nat → Int) : RFl 197 100 (TBL 154 F U) := ⟨(Or.inr (fun x h => by obtain ⟨_, _, _, rfl, -⟩ := h; rfl)), (Or.inr (fun x h => by obtain ⟨_, rfl, -⟩ := h; rfl)), (Or.inr (fun x h => by obtain ⟨_, rfl, -⟩ := h; rfl)), (Or.inr (fun x h => by obtain rfl := h; rfl)), (Or.inr (fun x h => by obtain rfl := h; rfl)), (Or.inr (fun x h => by obtain rfl := h; rfl)), (Or.inr (fun x h => by obtain rfl := h; rfl)), (Or.inr (fun x h => by obtain ⟨_, _, _, _, _, rfl, -⟩ := h; rfl)), (Or.inr (fun x h => by obtain ⟨_, rfl, -⟩ := h; rfl)), (Or.inr (fun x h => by obtain ⟨_, rfl, -⟩ := h; rfl)), (Or.inr (fun x h => by obtain ⟨_, rfl, -⟩ := h; rfl)), (Or.inr (fun x h => by obtain ⟨_, rfl, -⟩ := h; rfl)), (Or.inr (fun x h => by obtain ⟨_, rfl, -⟩ := h; rfl)), (Or.inr (fun x h => by obtain ⟨_, rfl, -⟩ := h; rfl)), (Or.inr (fun x h => by obtain ⟨_, rfl, -⟩ := h; rfl)), (Or.inr (fun x h => by obtain ⟨_, _, _, _, _, rfl, -⟩ := h; rfl)), (Or.inr (fun x h => by obtain ⟨_, rfl, -⟩ := h; rfl)), (Or.inr (fun x h => by obtain ⟨_, rfl, -⟩ := h; rfl)), (Or.inr (fun x h => by obtain ⟨_, rfl, -⟩ := h; rfl)), (Or.inr (fun x h => by obtain ⟨_, rfl, -⟩ := h; rfl)), (Or.inr (fun x h => by obtain ⟨_, rfl, -⟩ := h; rfl)), (Or.inr (fun x h => by obtain ⟨_, rfl, -⟩ := h; rfl)), (Or.inr (fun x h => by obtain ⟨_, rfl, -⟩ := h; rfl)), (Or.inr (fun x h => by obtain ⟨_, rfl, -⟩ := h; rfl)), (Or.inr (fun x h => by obtain ⟨_, rfl, -⟩ := h; rfl)), (Or.inr (fun x h => by obtain ⟨_, rfl, -⟩ := h; rfl)), (Or.inr (fun x h => by obtain ⟨_, rfl, -⟩ := h; rfl)), (Or.inr (fun x h => by obtain ⟨_, rfl, -⟩ := h; rfl)), (Or.inr (fun x h => by obtain ⟨_, rfl, -⟩ := h; rfl)), (Or.inr (fun x h => by obtain ⟨_, rfl, -⟩ := h; rfl)), (Or.inr (fun x h => by obtain ⟨_, rfl, -⟩ := h; rfl)), (Or.inr (fun x h => by obtain ⟨_, rfl, -⟩ := h; rfl)), (Or.inr (fun x h => by obtain ⟨_, rfl, -⟩ := h; rfl)), (Or.inr (fun x h => by obtain ⟨_, rfl, -⟩ := h; rfl)), (Or.inr (fun x h => by obtain ⟨_, rfl, -⟩ := h; rfl)), (Or.inr (fun x h => by obtain ⟨_, rfl, -⟩ := h; rfl)), (Or.inr (fun x h => by obtain ⟨_, rfl, -⟩ := h; rfl)), (Or.inr (fun x h => by obtain ⟨_, rfl, -⟩ := h; rfl)), (Or.inr (fun x h => by obtain ⟨_, rfl, -⟩ := h; rfl)), (Or.inr (fun x h => by obtain ⟨_, rfl, -⟩ := h; rfl)), (Or.inr (fun x h => by obtain ⟨_, rfl, -⟩ := h; rfl)), (Or.inr (fun x h => by obtain ⟨_, rfl, -⟩ := h; rfl)), (Or.inr (fun x h => by obtain ⟨_, rfl, -⟩ := h; rfl)), trivial⟩
set_option maxRecDepth 100000 in
theorem PN_c {γ : qG} {n : Nat} {w : qW} {k : Nat → ClassId} {g g' : Nat → Nat} (hPN : PN γ n w) (hn : n ≤ 2) (hg : ∀ i : Nat, i < w.length → g' i = g i) (i : Nat) (x : qC) (hx : w[i]? = some x) : q_c k g' x = q_c k g x := by
  obtain ⟨hPW, hlen, ⟨eI, k0, k1, k2, -⟩, hb⟩ := hPN
  have hi : i < w.length := (List.getElem?_eq_some_iff.mp hx).1
  by_cases c1 : i < 111
  · by_cases c2 : i = 44
    · subst c2
      rw [eI] at hx
      cases hx
      have im : ∀ j : Option Nat, IMk n j → rfO w.length j = true := by
        rintro j (rfl | ⟨q, hq, rfl⟩)
        · rfl
        · exact Nat.ble_eq_true_of_le (by omega)
      refine rfC_c (B := w.length) ?_ hg
      show ([γ.2.2 0, γ.2.2 1, γ.2.2 2] : List (Option Nat)).all (rfO w.length) = true
      rw [List.all_cons, List.all_cons, List.all_cons, im _ k0, im _ k1, im _ k2]
      rfl
    · have hl : i < (gL γ).length := by rw [LC_len]; exact c1
      obtain ⟨y, hy, hp⟩ := hPW i _ (List.getElem?_eq_getElem hl)
      rw [hx] at hy
      cases hy
      exact rfC_c (B := 111) (RFl_at (gL γ) 0 (LC_rf γ.1 γ.2.1) i _ (List.getElem?_eq_getElem hl) (by omega) _ hp) (fun j hj => hg j (by omega))
  · have hj : (i - 111) / 43 < n := by omega
    obtain ⟨o, ho⟩ : ∃ o, o = 111 + 43 * ((i - 111) / 43) := ⟨_, rfl⟩
    have hB := hb _ hj
    rw [← ho] at hB
    have hl : i - o < (TBL o γ.1 γ.2.1).length := by rw [TBL_len]; omega
    obtain ⟨y, hy, hp⟩ := hB (i - o) _ (List.getElem?_eq_getElem hl)
    rw [show o + (i - o) = i by omega, hx] at hy
    cases hy
    have hoo : o = 111 ∨ o = 154 ∧ 197 ≤ w.length := by omega
    rcases hoo with rfl | ⟨rfl, h9⟩
    · exact rfC_c (B := 154) (RFl_at (TBL 111 _ _) 100 (TBL_rf111 _ _) _ _ (List.getElem?_eq_getElem hl) (by omega) _ hp) (fun j hj => hg j (by omega))
    · exact rfC_c (B := 197) (RFl_at (TBL 154 _ _) 100 (TBL_rf154 _ _) _ _ (List.getElem?_eq_getElem hl) (by omega) _ hp) (fun j hj => hg j (by omega))
theorem QL_app {D : va_G} {k : Nat → ClassId} {g g' : Nat → Nat} {H : Heap} {w T : qW} {m : Nat} (hP : va_P D vwCl (q_w k g w) H) (hg : ∀ i : Nat, i < w.length → g' i = g i) (hc : ∀ (i : Nat) (x : qC), w[i]? = some x → q_c k g' x = q_c k g x) (hT : T.length = m) (hQ : QL D k g' H ((List.range m).map (fun j => w.length + j)) T) : va_P D vwCl (q_w k g' (w ++ T)) H := by
  intro i q hi
  obtain ⟨x, hx, rfl⟩ := q_w_of hi
  by_cases c1 : i < w.length
  · rw [List.getElem?_append_left c1] at hx
    rw [hg i c1, hc i x hx]
    exact hP i _ (q_w_at hx)
  · rw [List.getElem?_append_right (by omega)] at hx
    have hl : i - w.length < T.length := (List.getElem?_eq_some_iff.mp hx).1
    refine QL_at _ T hQ (i - w.length) i x ?_ hx
    rw [List.getElem?_map, List.getElem?_range (by omega)]
    show some (w.length + (i - w.length)) = some i
    rw [show w.length + (i - w.length) = i by omega]
def wsI : List Cond := .code yX11_image cX11_image 2 (some .boolean) :: (TB ++ ([.classLink RX11 7 RX8, .instantiable RX8 9] ++ ws_c_Tinit))
theorem wsI_TB {w : Cond} (h : w ∈ TB) : w ∈ wsI := List.mem_cons_of_mem _ (List.mem_append.mpr (Or.inl h))
theorem wsI_1 : (Cond.classLink RX11 7 RX8) ∈ wsI := List.mem_cons_of_mem _ (List.mem_append.mpr (Or.inr (List.mem_append.mpr (Or.inl List.mem_cons_self))))
theorem wsI_2 : (Cond.instantiable RX8 9) ∈ wsI := List.mem_cons_of_mem _ (List.mem_append.mpr (Or.inr (List.mem_append.mpr (Or.inl (List.mem_cons_of_mem _ List.mem_cons_self)))))
set_option maxRecDepth 20000 in
theorem wsI_Tg : ws_c_Tinit.all goodWord = true := by decide +kernel
theorem wsI_T : GoodIn wsI ws_c_Tinit := fun w h => ⟨List.mem_cons_of_mem _ (List.mem_append.mpr (Or.inr (List.mem_append.mpr (Or.inr h)))), good_of_word (List.all_eq_true.mp wsI_Tg w h)⟩
set_option maxRecDepth 100000 in
theorem vI_new {γ : qG} {n : Nat} {w : qW} {a : Int} {J : Nat → List qV → List qV → qW → Prop} (hPN : PN γ n w) (ha : 0 ≤ a ∧ a ≤ 2) (hno : γ.2.2 a.toNat = none) (h25 : J 25 [q2 0, q1 a] [q1 a, q2 44] w) : bI_0 J [(0, q2 0), (1, q1 a)] [] w := by
  obtain ⟨hPW, hlen9, ⟨eI, k0, k1, k2, hc⟩, hb⟩ := id hPN
  obtain ⟨_, eH, rfl⟩ := hPW 0 _ rfl
  have hq : [γ.2.2 0, γ.2.2 1, γ.2.2 2].getD a.toNat none = none := by
    rcases (show a = 0 ∨ a = 1 ∨ a = 2 by omega) with rfl | rfl | rfl <;> exact hno
  apply And.intro
  · intro h1
    exact absurd ha.1 (by omega)
  · intro h1
    apply And.intro
    · intro h6
      refine p_get eH rfl ?_
      refine p_aald eI rfl ⟨by omega, by omega⟩ ?_
      rw [hq]
      refine p_get eH rfl ?_
      exact h25
    · intro h6
      exact absurd ha.2 (by omega)
theorem IMk_up {n : Nat} {i : Option Nat} (h : IMk n i) : IMk (n + 1) i := by
  rcases h with h | ⟨j, hj, h⟩
  · exact Or.inl h
  · exact Or.inr ⟨j, by omega, h⟩
theorem IMk_new (n : Nat) : IMk (n + 1) (some (111 + 43 * n)) := Or.inr ⟨n, by omega, rfl⟩
def upO (f : Nat → Option Nat) (i : Nat) (v : Option Nat) : Nat → Option Nat := fun j => if j = i then v else f j
theorem upO_s {f : Nat → Option Nat} {i : Nat} {v : Option Nat} : upO f i v i = v := by unfold upO; rw [if_pos rfl]
theorem upO_n {f : Nat → Option Nat} {i j : Nat} {v : Option Nat} (h : ¬ j = i) : upO f i v j = f j := by unfold upO; rw [if_neg h]
/-- rows and numbers with a block more at place o -/
def FN (F : Nat → Nat → Int) (o : Nat) (G : Nat → Nat → Int32) : Nat → Nat → Int := fun p => if o ≤ p then FT G (p - o) else F p
def UN (U : Nat → Nat → Int) (o : Nat) : Nat → Nat → Int := fun p => if o ≤ p then UT (p - o) else U p
theorem FN_l {F : Nat → Nat → Int} {o p : Nat} {G : Nat → Nat → Int32} (h : p < o) : FN F o G p = F p := by unfold FN; rw [if_neg (by omega)]
theorem UN_l {U : Nat → Nat → Int} {o p : Nat} (h : p < o) : UN U o p = U p := by unfold UN; rw [if_neg (by omega)]
theorem FN_n {F : Nat → Nat → Int} {o j : Nat} {G : Nat → Nat → Int32} : FN F o G (o + j) = FT G j := by unfold FN; rw [if_pos (by omega), show o + j - o = j by omega]
theorem UN_n {U : Nat → Nat → Int} {o j : Nat} : UN U o (o + j) = UT j := by unfold UN; rw [if_pos (by omega), show o + j - o = j by omega]
/-- the ghosts with one image more, not copied into yet -/
abbrev gNew (γ : qG) (n : Nat) (a : Int) (G : Nat → Nat → Int32) : qG := (FN γ.1 (111 + 43 * n) G, UN γ.2.1 (111 + 43 * n), upO γ.2.2 a.toNat (some (111 + 43 * n)))
theorem set3 {E : Nat → Option Nat} {a : Int} {v : Option Nat} (ha : 0 ≤ a ∧ a ≤ 2) : [E 0, E 1, E 2].set a.toNat v = [upO E a.toNat v 0, upO E a.toNat v 1, upO E a.toNat v 2] := by
  rcases (show a = 0 ∨ a = 1 ∨ a = 2 by omega) with rfl | rfl | rfl <;> rfl
theorem cn3 {E : Nat → Option Nat} {a : Int} {v n : Nat} (ha : 0 ≤ a ∧ a ≤ 2) (hq : E a.toNat = none) (hc : cnO (E 0) + cnO (E 1) + cnO (E 2) = n) : cnO (upO E a.toNat (some v) 0) + cnO (upO E a.toNat (some v) 1) + cnO (upO E a.toNat (some v) 2) = n + 1 ∧ n ≤ 2 := by
  have hs : cnO (some v) = 1 := rfl
  have h0 : cnO none = 0 := rfl
  have c0 := cnO_le (E 0)
  have c1 := cnO_le (E 1)
  have c2 := cnO_le (E 2)
  rcases (show a = 0 ∨ a = 1 ∨ a = 2 by omega) with rfl | rfl | rfl
  · have hq : E 0 = none := hq
    rw [hq] at hc
    show cnO (some v) + cnO (E 1) + cnO (E 2) = n + 1 ∧ n ≤ 2
    omega
  · have hq : E 1 = none := hq
    rw [hq] at hc
    show cnO (E 0) + cnO (some v) + cnO (E 2) = n + 1 ∧ n ≤ 2
    omega
  · have hq : E 2 = none := hq
    rw [hq] at hc
    show cnO (E 0) + cnO (E 1) + cnO (some v) = n + 1 ∧ n ≤ 2
    omega
theorem im3 {E : Nat → Option Nat} {a : Int} {n j : Nat} (h : IMk n (E j)) : IMk (n + 1) (upO E a.toNat (some (111 + 43 * n)) j) := by
  by_cases e : j = a.toNat
  · rw [e, upO_s]; exact IMk_new n
  · rw [upO_n e]; exact IMk_up h
/-- the world with one image more -/
theorem PN_new {γ : qG} {n : Nat} {w : qW} {a : Int} {G : Nat → Nat → Int32} (hPN : PN γ n w) (ha : 0 ≤ a ∧ a ≤ 2) (hq : γ.2.2 a.toNat = none) (h13 : FGv (G 13)) (h23 : FGv (G 23)) : n ≤ 2 ∧ PN (gNew γ n a G) (n + 1) ((w ++ TCl w.length G).set 44 (.inl (8, 3, .inr (.inr ([γ.2.2 0, γ.2.2 1, γ.2.2 2].set a.toNat (some w.length)))))) := by
  obtain ⟨hPW, hlen, ⟨eI, k0, k1, k2, hc⟩, hb⟩ := hPN
  have hTl : (TCl w.length G).length = 43 := rfl
  obtain ⟨hcn, hn⟩ := cn3 (v := 111 + 43 * n) ha hq hc
  rw [set3 ha, hlen]
  refine ⟨hn, ?_, ?_, ⟨?_, im3 k0, im3 k1, im3 k2, hcn⟩, ?_⟩
  · refine PW_set (fun i P hi => ?_) (show PX_IM _ from ⟨_, _, _, rfl⟩)
    have hi9 : i < 111 := by
      have h9 := (List.getElem?_eq_some_iff.mp hi).1
      rw [LC_len] at h9
      exact h9
    have hi : (LC (FN γ.1 (111 + 43 * n) G) (UN γ.2.1 (111 + 43 * n)))[i]? = some P := hi
    rw [LC_ne (FN_l (by omega)) (UN_l (by omega))] at hi
    obtain ⟨x, hx, hp⟩ := hPW i P hi
    exact ⟨x, by rw [List.getElem?_append_left ((List.getElem?_eq_some_iff.mp hx).1)]; exact hx, hp⟩
  · rw [List.length_set, List.length_append]
    show w.length + 43 = _
    rw [hlen]; omega
  · rw [List.getElem?_set, if_pos rfl, if_pos (by rw [List.length_append]; omega)]
  · intro j hj i P hi
    have hi43 : i < 43 := by have := (List.getElem?_eq_some_iff.mp hi).1; rw [TBL_len] at this; exact this
    rw [List.getElem?_set, if_neg (by omega)]
    have hi : (TBL (111 + 43 * j) (FN γ.1 (111 + 43 * n) G) (UN γ.2.1 (111 + 43 * n)))[i]? = some P := hi
    by_cases c9 : j < n
    · rw [TBL_ne (F := γ.1) (U := γ.2.1) (fun q hq => ⟨FN_l (by omega), UN_l (by omega)⟩)] at hi
      obtain ⟨x, hx, hp⟩ := hb j c9 i P hi
      exact ⟨x, by rw [List.getElem?_append_left ((List.getElem?_eq_some_iff.mp hx).1)]; exact hx, hp⟩
    · have hjn : j = n := by omega
      subst hjn
      obtain ⟨x, hx, hp⟩ := PL_PW _ (TCl (111 + 43 * j) G) (TCl_PL (111 + 43 * j) h13 h23 (fun q _ => FN_n) (fun q _ => UN_n)) i P hi
      refine ⟨x, ?_, hp⟩
      rw [List.getElem?_append_right (by omega), show 111 + 43 * j + i - w.length = i by omega]
      exact hx
def wI9 (γ : qG) (a : Int) (n : Nat) (w : qW) (g : Nat → Nat) (A : Nat → Prop) (u : (Nat → Nat) × qW) : Prop := (∃ (G : Nat → Nat → Int32) (γ' : qG), PN γ' (n + 1) u.2 ∧ cpG 1 n (gNew γ n a G) γ') ∧ (∀ i : Nat, i < w.length → u.1 i = g i) ∧ (∀ i : Nat, 900 ≤ i → u.1 i = g i) ∧ q_okw u.2 ∧ q_D A u.1 u.2.length
set_option maxHeartbeats 4000000 in
set_option maxRecDepth 100000 in
theorem mI_new (l : Launch) (γ : qG) (n : Nat) (dC : Nat → ClassId) (dI : Nat → Nat → Nat) (k : Nat → ClassId) (g : Nat → Nat) (a : Int) (w : qW) (sz : Nat) (hPN : PN γ n w) (ha : 0 ≤ a ∧ a ≤ 2) (hno : γ.2.2 a.toNat = none) (okw : q_okw w) :
    Met l yX11_image wsI { frames := 4, cells := 43, slots := 1181, locals := 128 } (va_Pc [.ref (g 0), .int (Int32.ofInt a)] (q_pre dC dI k g w sz)) (va_Qi (fun (r : Int32) (u : (Nat → Nat) × qW) => r = 1 ∧ wI9 γ a n w g (va_A (q_w k g w) sz) u) (fun (u : (Nat → Nat) × qW) (t : State) => va_P (dC, dI) vwCl (q_w k u.1 u.2) t.heap) (va_A (q_w k g w) sz)) 43 1181 (va_A (q_w k g w) sz) := by
  refine Met.ofW (cc := cX11_image) (maxL := 2) (ret := some .boolean) (by decide) rfl ?_
  intro p e s m args below meth c s₁ B hml hv
  obtain ⟨rfl, hsz, hP, hK, hD0, hE⟩ := hv
  subst hsz
  have hts := atoms_spec (ws := wsI) B.pre
  have hx : p.tables.exec = Jvm.exec := B.exec
  have hb : c.code = cX11_image := B.bytes
  have hown : s.vm.findClass RX11 = some m.cls := findClass_of_methodNamed B.named
  have hlk := B.notSynchronized
  have hret : meth.sig.returnType = some .boolean := B.returns
  obtain ⟨A, hAe⟩ : ∃ A : Nat → Prop, A = va_A (q_w k g w) s.heap.size := ⟨_, rfl⟩
  rw [← hAe] at hE ⊢
  have hA : ∀ q : Nat, s.heap.size ≤ q → A q := fun q h => by rw [hAe]; exact Or.inr h
  have hDg : q_D A g w.length := ⟨hD0.1, fun i hi => by rw [hAe]; exact Or.inl ⟨i, _, q_w_at (List.getElem?_eq_getElem hi)⟩⟩
  have X : q_X p { frames := 4, cells := 43, slots := 1181, locals := 128 } s m ([.ref (g 0), .int (Int32.ofInt a)] : List Value).toArray meth c cX11_image 2 w.length 4 128 RX11 (some .boolean) dC dI k g A := ⟨hx, hb, hml, hown, fun w' h' => hts w' (wsI_TB h'), hK, hA, hE, Nat.le_refl _, Nat.le_refl _, hlk, hret, hDg⟩
  obtain ⟨-, hlen, ⟨eI, -⟩, -⟩ := id hPN
  have oka : q_oks [q2 0, q1 a] := by
    intro v hv
    simp only [List.mem_cons, List.not_mem_nil, or_false] at hv
    rcases hv with rfl | rfl
    · exact trivial
    · exact ⟨by omega, by omega⟩
  have hJ : ∀ d : Nat, q_SdN 0 0 p l e { frames := 4, cells := 43, slots := 1181, locals := 128 } s m ([.ref (g 0), .int (Int32.ofInt a)] : List Value).toArray below meth c 2 w.length dC dI k g A (MQ below (va_Qi (fun (r : Int32) (u : (Nat → Nat) × qW) => r = 1 ∧ wI9 γ a n w g A u) (fun (u : (Nat → Nat) × qW) (t : State) => va_P (dC, dI) vwCl (q_w k u.1 u.2) t.heap) A) ([.ref (g 0), .int (Int32.ofInt a)] : List Value).toArray s 43 1181 A) d (x_cut [0, 1] ((fun d vs st w' => d = 25 ∧ vs = [q2 0, q1 a] ∧ st = [q1 a, q2 44] ∧ w' = w) d)) := by
    intro d H locs ls lv st w' h hPi hW hSi hl okl oks okwi
    unfold x_cut at h
    split at h
    case h_2 => exact h.elim
    rename_i vs hvs
    obtain ⟨rfl, rfl, rfl, rfl⟩ := h
    have hls : lv_has ls 2 (q_lv g (([0, 1] : List Nat).zip [q2 0, q1 a])) := ⟨hl.1, hl.2.1, fun q hq => by
      obtain ⟨x, hx, rfl⟩ := List.mem_map.mp hq
      exact hl.2.2 _ (List.mem_map.mpr ⟨x, q_pk_mem hvs x hx, rfl⟩)⟩
    have hDv : va_D A (q_w k g w') := q_D_va hDg
    show W p l e _ s m _ below meth c H locs 0 0 _ (F0 m 25 ls [.int (Int32.ofInt a), .ref (g 44)])
    refine va_new (ci := 8) (fs := [.null, .null, .null, .null, .null, .null, .int 0, .int 0, .int 0]) (C := RX8) (T := TX8) (N := 9) hx hb hts (fun w' h' => wsI_TB (tu_X8 w' h')) tyX8 tyX8_ok hown (hts _ wsI_1) (hts _ wsI_2) (hts _ (wsI_TB tw_121)) hK hPi hDv hSi hA rfl df_X8 (by decide +kernel) (by decide +kernel) dX11_image_25 (fun q H1 hP1 hD1 hS1 => ?_)
    refine lv_dup hx hb dX11_image_28 rfl ?_
    have hPc := P_last hP1
    have hDc := D_last hD1
    have hFc := F_last hD1 hS1 hA
    refine va_callv (va_runIN (As := []) (rest := [.ref q, .int (Int32.ofInt a), .ref (g 44)]) ⟨hx, hb, hml, hown, hts⟩ (c_Tinit l dC dI k q (g 1000) H1.size) ⟨va_cnB 0 hts wsI_T rfl rfl rfl (evN_m_X11_9 hE.1) (hts _ (wsI_TB tw_121)) (by decide +kernel) ⟨Nat.le_of_ble_eq_true rfl, Nat.le_of_ble_eq_true rfl⟩, rfl, hts (.instanceMethod yX8_init) (wsI_TB tw_147)⟩ ⟨prF_blind, fun U hU hW => ⟨rfl, prF_go hPc hDc hK (ew_qE hE) hS1 hFc hU hW⟩⟩ rfl rfl hls.1 rfl (lv_room (Nat.le_of_ble_eq_true rfl)) dX11_image_29 ⟨by decide +kernel, by decide +kernel⟩) hS1 (fun q _ h => hFc q h) hFc (fun u t H2 locs2 ht hvm hw hB hz1 hk1 hS2 => ?_)
    obtain ⟨am, G⟩ := u
    obtain ⟨h13, h23⟩ : FGv (G 13) ∧ FGv (G 23) := hw
    obtain ⟨hP2, hD2⟩ := hB
    rw [ht] at hP2
    have hP2 : va_P (dC, dI) vwCl (TCv k q am G) H2 := hP2
    have hD2 : va_D (va_A [(q, .inr (8, [.null, .null, .null, .null, .null, .null, .int 0, .int 0, .int 0]))] H1.size) (TCv k q am G) := hD2
    have hPold : va_P (dC, dI) vwCl (q_w k g w') H2 := va_P_new hP1 hD1 hk1
    obtain ⟨hn2, hPN1⟩ := PN_new (G := G) hPN ha hno h13 h23
    have hadl : (ADT q am).length = 43 := rfl
    obtain ⟨g', hg'⟩ : ∃ g' : Nat → Nat, g' = gN g w'.length (ADT q am) := ⟨_, rfl⟩
    have hg1 : ∀ i : Nat, i < w'.length → g' i = g i := fun i hi => by rw [hg']; exact gN_lt hi
    have hg2 : ∀ j : Nat, j < 43 → g' (w'.length + j) = (ADT q am).getD j 0 := fun j hj => by rw [hg']; exact gN_ad (by rw [hadl]; exact hj)
    have hg3 : ∀ i : Nat, 900 ≤ i → g' i = g i := fun i hi => by rw [hg']; exact gN_hi (by rw [hadl, hlen]; omega)
    have hP3 : va_P (dC, dI) vwCl (q_w k g' (w' ++ TCl w'.length G)) H2 := QL_app hPold hg1 (PN_c hPN hn2 hg1) (m := 43) rfl (TCl_QL hg2 hP2)
    have hlt : ∀ i : Nat, i < w'.length → g i < H1.size := fun i hi => (hP1 i (g i, q_c k g w'[i]) (by rw [List.getElem?_append_left (by rw [q_w_len]; exact hi)]; exact q_w_at (List.getElem?_eq_getElem hi))).lt
    have hne : ∀ i : Nat, i < w'.length → g i ≠ q := fun i hi he => by
      have h9 := hD1.1 i (q_w k g w').length (g i, q_c k g w'[i]) (q, .inr (8, [.null, .null, .null, .null, .null, .null, .int 0, .int 0, .int 0])) (by rw [List.getElem?_append_left (by rw [q_w_len]; exact hi)]; exact q_w_at (List.getElem?_eq_getElem hi)) (by rw [List.getElem?_append_right (Nat.le_refl _), Nat.sub_self]; rfl) he
      rw [q_w_len] at h9
      omega
    have hD3 : q_D A g' (w'.length + 43) := q_D_app hDg hlt hne hD2 (ad := ADT q am) rfl rfl hg1 hg2 hFc
    have hWl : (w' ++ TCl w'.length G).length = w'.length + 43 := by rw [List.length_append]; rfl
    have hD3v : va_D A (q_w k g' (w' ++ TCl w'.length G)) := q_D_va (by rw [hWl]; exact hD3)
    have e44 : g' 44 = g 44 := hg1 44 (by rw [hlen]; omega)
    have eN : g' w'.length = q := hg2 0 (by decide)
    have ea : (w' ++ TCl w'.length G)[44]? = some (.inl (8, 3, .inr (.inr [γ.2.2 0, γ.2.2 1, γ.2.2 2]))) := by rw [List.getElem?_append_left (by rw [hlen]; omega)]; exact eI
    have ev9 : (w' ++ TCl w'.length G)[w'.length]? = some (.inr (8, [q2 (w'.length + 1), q2 (w'.length + 2), q2 (w'.length + 3), q2 (w'.length + 4), q2 (w'.length + 5), q2 (w'.length + 6), q1 0, q1 0, q1 (-1)])) := by rw [List.getElem?_append_right (Nat.le_refl _), Nat.sub_self]; rfl
    have hqa : q_i a := ⟨by omega, by omega⟩
    rw [show [Value.ref q, .int (Int32.ofInt a), .ref (g 44)] = [Value.ref (g' w'.length), .int (Int32.ofInt a), .ref (g' 44)] by rw [eN, e44]]
    refine va_astq hx hb hK hP3 hD3v hS2 44 8 w'.length 8 (q_w_at ea) rfl (q_w_at ev9) rfl (i := Int32.ofInt a) (q_in hqa ha.1 (by omega)) dX11_image_32 (fun H3 locs3 hP4 hD4 hS3 => ?_)
    rw [q_cl hqa, ← up_set (g := g') (l := [γ.2.2 0, γ.2.2 1, γ.2.2 2]) (j := a.toNat) (N := w'.length) (by show a.toNat < 3; omega)] at hP4
    have hP5 : va_P (dC, dI) vwCl (q_w k g' ((w' ++ TCl w'.length G).set 44 (.inl (8, 3, .inr (.inr ([γ.2.2 0, γ.2.2 1, γ.2.2 2].set a.toNat (some w'.length))))))) H3 := by
      rw [← q_w_set]
      exact hP4
    have ew9 : ((w' ++ TCl w'.length G).set 44 (.inl (8, 3, .inr (.inr ([γ.2.2 0, γ.2.2 1, γ.2.2 2].set a.toNat (some w'.length)))))).length = w'.length + 43 := by rw [List.length_set]; exact hWl
    have okw5 : q_okw ((w' ++ TCl w'.length G).set 44 (.inl (8, 3, .inr (.inr ([γ.2.2 0, γ.2.2 1, γ.2.2 2].set a.toNat (some w'.length)))))) := q_okw_set (okw_app okwi (TCl_ok _ _)) trivial
    generalize (w' ++ TCl w'.length G).set 44 (.inl (8, 3, .inr (.inr ([γ.2.2 0, γ.2.2 1, γ.2.2 2].set a.toNat (some w'.length))))) = w5 at hPN1 hP5 ew9 okw5
    have hE' : qE g' A s := qE_g (fun i hi => hg3 i (by omega)) hE
    have X' : q_X p { frames := 4, cells := 43, slots := 1181, locals := 128 } s m ([.ref (g 0), .int (Int32.ofInt a)] : List Value).toArray meth c cX11_image 2 (w'.length + 43) 4 128 RX11 (some .boolean) dC dI k g' A := ⟨hx, hb, hml, hown, fun w' h' => hts w' (wsI_TB h'), hK, hA, hE', Nat.le_refl _, Nat.le_refl _, hlk, hret, hD3⟩
    have e0 : g' 0 = g 0 := hg1 0 (by rw [hlen]; omega)
    have hl5 : lv_has ls 2 (q_lv g' [(0, q2 0), (1, q1 a)]) := by
      have e9 : q_lv g' [(0, q2 0), (1, q1 a)] = q_lv g (([0, 1] : List Nat).zip [q2 0, q1 a]) := by
        show [(0, Value.ref (g' 0)), (1, Value.int (Int32.ofInt a))] = [(0, Value.ref (g 0)), (1, Value.int (Int32.ofInt a))]
        rw [e0]
      rw [e9]; exact hls
    refine sI_33 (nc := 43) (ns := 1181) X' ⟨Nat.le_refl _, Nat.le_refl _⟩ (J := fun d vs st w2 => d = 46 ∧ vs = [q2 0, q1 a] ∧ st = [] ∧ (∃ γ' : qG, PN γ' (n + 1) w2 ∧ cpG 1 n (gNew γ n a G) γ') ∧ w2.length = w5.length) ?_ H3 locs3 ls [(0, q2 0), (1, q1 a)] [] w5 (vI_33 hPN1 ha (j := n) (by omega) upO_s (fun γ' w2 a1 a2 a3 => ⟨rfl, rfl, rfl, ⟨γ', a1, a3⟩, a2⟩)) hP5 ew9 hS3 hl5 (fun q hq => ?_) (fun v hv => by cases hv) okw5
    · intro d H locs ls lv st w2 h hP hW hS hl okl oks okw
      unfold x_cut at h
      split at h
      case h_2 => exact h.elim
      obtain ⟨rfl, -, rfl, ⟨γ', hPN2, hc2⟩, hl2⟩ := h
      refine lv_iconst (v := 1) hx hb dX11_image_46 (by decide) ?_
      exact W.zret hx hb hret rfl (fun t ht hWm => ⟨⟨1, (g', w2), rfl, ⟨rfl, ⟨G, γ', hPN2, hc2⟩, hg1, hg3, okw, by rw [hW]; exact hD3⟩, by show va_P (dC, dI) vwCl (q_w k g' w2) t.heap; rw [ht]; exact hP⟩, hS.F ht⟩) hS.2.2 dX11_image_47 hlk
    · simp only [List.mem_cons, List.not_mem_nil, or_false] at hq
      rcases hq with rfl | rfl
      · exact trivial
      · exact hqa
  rw [lg_entry_eq]
  have hl := lv_entry ([q2 0, q1 a].map (q_v g)) (n := 2) (Nat.le_of_ble_eq_true rfl)
  rw [q_ar_lv] at hl
  exact sI_0 (nc := 0) (ns := 0) X hJ s.heap [] _ (q_ar 0 [q2 0, q1 a]) [] w (vI_new hPN ha hno ⟨rfl, rfl, rfl, rfl⟩) hP rfl va_S.rf hl (q_ar_ok oka 0) (fun v hv => by cases hv) okw

