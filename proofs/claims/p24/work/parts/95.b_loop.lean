theorem dL_law_1375 : decode code 1375 = .ok (.iconst 1, 1) := by decide +kernel
theorem dL_law_1376 : decode code 1376 = .ok (.ireturn, 1) := by decide +kernel
def lvI (i : Int) : qL := [(0, q2 900), (1, q2 0), (2, q2 85), (3, q1 i)]
def aA (s : State) : Nat → Prop := fun q => s.heap.size ≤ q
def LIv (s : State) (dC : Nat → ClassId) (dI : Nat → Nat → Nat) (k : Nat → ClassId) (hi : Nat → Nat) (γ : qG) (n : Nat) (g : Nat → Nat) (w : qW) (H : Heap) (locs : List Loc) : Prop := REL2 γ ∧ PN γ n w ∧ (∀ j : Nat, 900 ≤ j → g j = hi j) ∧ q_D (aA s) g w.length ∧ va_P (dC, dI) vwCl (q_w k g w) H ∧ va_S (aA s) s.heap H locs ∧ q_okw w
theorem PN_3 {γ : qG} {n : Nat} {w : qW} (h : PN γ n w) : n ≤ 3 := by
  obtain ⟨-, -, ⟨-, -, -, -, hc⟩, -⟩ := h
  have c0 := cnO_le (γ.2.2 0)
  have c1 := cnO_le (γ.2.2 1)
  have c2 := cnO_le (γ.2.2 2)
  omega
set_option maxHeartbeats 2000000 in
theorem law_loop {p : Program} {l : Launch} {e : Env} {s : State} {m : MethodId} {below : List Frame} {meth : Method} {c : Code} {b L : Nat} {xs : Nat → Int32} (hL : L ≤ 3072) (C0 : lw_At p s m meth c b L xs) {dC : Nat → ClassId} {dI : Nat → Nat → Nat} {k : Nat → ClassId} {hi : Nat → Nat} (hK : va_K (dC, dI) vwCl (tyL k) s) (hhi : hi 900 = b) (hE : ∀ g : Nat → Nat, (∀ i : Nat, 900 ≤ i → g i = hi i) → qE g (aA s) s) {c0 s0 : Nat} (hc0 : c0 + 129 ≤ 600000 ∧ s0 + 3543 ≤ 7302250)
    (himg : ∀ (γ : qG) (n : Nat) (g : Nat → Nat) (w : qW) (H : Heap) (locs : List Loc) (ls : Array Slot) (i : Int), LIv s dC dI k hi γ n g w H locs → lv_has ls 4 (q_lv g (lvI i)) → 0 ≤ i → i + 6 ≤ L → (∀ (γ' : qG) (n' : Nat) (g' : Nat → Nat) (w' : qW) (H' : Heap) (locs' : List Loc) (ls' : Array Slot), LIv s dC dI k hi γ' n' g' w' H' locs' → lv_has ls' 4 (q_lv g' (lvI (i + 6))) → W p l e room_1 s m #[Value.ref b] below meth c H' locs' (c0 + 43 * n') (s0 + 1181 * n') (lw_Z below #[Value.ref b] s) (F0 m 18 ls' [])) → W p l e room_1 s m #[Value.ref b] below meth c H locs (c0 + 43 * n) (s0 + 1181 * n) (lw_Z below #[Value.ref b] s) (F0 m 1323 ls [])) :
    ∀ (f : Nat) (γ : qG) (n : Nat) (g : Nat → Nat) (w : qW) (H : Heap) (locs : List Loc) (ls : Array Slot) (i : Int), LIv s dC dI k hi γ n g w H locs → lv_has ls 4 (q_lv g (lvI i)) → 0 ≤ i → i ≤ L → (L : Int) + 6 - i ≤ 6 * f → W p l e room_1 s m #[Value.ref b] below meth c H locs (c0 + 43 * n) (s0 + 1181 * n) (lw_Z below #[Value.ref b] s) (F0 m 18 ls []) := by
  intro f
  induction f with
  | zero => intro γ n g w H locs ls i _ _ h0 h1 h2; omega
  | succ f ih =>
    intro γ n g w H locs ls i hV hl h0 h1 h2
    obtain ⟨hR, hPN, hg, hD, hP, hS, okw⟩ := id hV
    have hn3 := PN_3 hPN
    obtain ⟨hx, hb, hr, hml, hown, hts, hX, hbl, hlocks, hgv⟩ := id C0
    have hbA : ¬ aA s b := fun h => absurd h (Nat.not_le.mpr hbl)
    have X : q_X p room_1 s m #[Value.ref b] meth c code 4 w.length 10 231 R_law ret dC dI k g (aA s) := ⟨hx, hb, hml, hown, fun w' h' => hts w' (TB_in w' h'), hK, fun q h => h, hE g hg, by decide, by decide, hlocks, hr, hD⟩
    have hJ : ∀ d : Nat, q_SdN (c0 + 43 * n) (s0 + 1181 * n) p l e room_1 s m #[Value.ref b] below meth c 4 w.length dC dI k g (aA s) (lw_Z below #[Value.ref b] s) d (x_cut [0, 1, 2, 3] ((fun d vs st w' => st = [] ∧ (∃ γ' : qG, REL2 γ' ∧ PN γ' n w') ∧ ((d = 18 ∧ vs = [q2 900, q2 0, q2 85, q1 (i + 6)] ∧ i + 6 ≤ L) ∨ (d = 1375 ∧ vs = [q2 900, q2 0, q2 85, q1 i]) ∨ (d = 1323 ∧ vs = [q2 900, q2 0, q2 85, q1 i] ∧ i + 6 ≤ L))) d)) := by
      intro d H locs ls lv st w' h hP hW hS hl okl oks okw
      unfold x_cut at h
      split at h
      · rename_i vs hvs
        obtain ⟨rfl, ⟨γ', hR', hPN'⟩, h⟩ := h
        have hls : lv_has ls 4 (q_lv g (([0, 1, 2, 3] : List Nat).zip vs)) := ⟨hl.1, hl.2.1, fun q hq => by
          obtain ⟨x, hx, rfl⟩ := List.mem_map.mp hq
          exact hl.2.2 _ (List.mem_map.mpr ⟨x, q_pk_mem hvs x hx, rfl⟩)⟩
        have hV' : LIv s dC dI k hi γ' n g w' H locs := ⟨hR', hPN', hg, by rw [hW]; exact hD, hP, hS, okw⟩
        rcases h with ⟨rfl, rfl, h3⟩ | ⟨rfl, rfl⟩ | ⟨rfl, rfl, h3⟩
        · exact ih γ' n g w' H locs ls (i + 6) hV' hls (by omega) h3 (by omega)
        · refine lv_iconst (v := 1) hx hb dL_law_1375 (by decide) ?_
          refine va_forget (fun q hq => hS.2.2 q hq) ?_
          refine W.widen (k := 600000) (n := 7302250) (by omega) (by omega) ?_
          exact lw_ret hx hb hr hlocks dL_law_1376
        · exact himg γ' n g w' H locs ls i hV' hls h0 h3 (fun γ2 n' g' w2 H' locs' ls' a1 a2 => ih γ2 n' g' w2 H' locs' ls' (i + 6) a1 a2 (by omega) h3 (by omega))
      · exact h.elim
    have hi9 : g 900 = b := by rw [hg 900 (Nat.le_refl _)]; exact hhi
    have oki : q_okl (lvI i) := by
      intro q hq
      simp only [lvI, List.mem_cons, List.not_mem_nil, or_false] at hq
      rcases hq with rfl | rfl | rfl | rfl
      · exact trivial
      · exact trivial
      · exact trivial
      · exact ⟨by show -2147483648 ≤ i; omega, by show i ≤ 2147483647; omega⟩
    exact s_law_18 (n := n) X ⟨by show c0 + 43 * n + 0 ≤ 600000; omega, by show s0 + 1181 * n + 0 ≤ 7302250; omega⟩ hL hX hbl hbA hi9 hJ H locs ls (lvI i) [] w (v_law_18 ⟨h0, by omega, hL⟩ hR hPN (fun j γ' w' e1 e2 hw' hr' => ⟨rfl, ⟨γ', hr', hw'⟩, Or.inl ⟨rfl, by rw [e1], e2⟩⟩) ⟨rfl, ⟨γ, hR, hPN⟩, Or.inr (Or.inl ⟨rfl, rfl⟩)⟩ (fun h => ⟨rfl, ⟨γ, hR, hPN⟩, Or.inr (Or.inr ⟨rfl, rfl, h⟩)⟩)) hP rfl hS hl oki (fun v hv => by cases hv) okw
