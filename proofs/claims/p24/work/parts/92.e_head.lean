set_option maxHeartbeats 4000000 in
set_option maxRecDepth 100000 in
theorem v_law_18 {n L : Nat} {xs : Nat → Int32} {J : Nat → List qV → List qV → qW → Prop} {i : Int} {γ : qG} {w : qW} (hi : 0 ≤ i ∧ i ≤ 3072 ∧ L ≤ 3072) (hR : REL2 γ) (hW : PN γ n w) (hk : ∀ (j : Int) (γ' : qG) (w' : qW), j = i + 6 → i + 6 ≤ L → PN γ' n w' → REL2 γ' → J 18 [q2 900, q2 0, q2 85, q1 j] [] w') (hx : J 1375 [q2 900, q2 0, q2 85, q1 i] [] w) (hm : i + 6 ≤ L → J 1323 [q2 900, q2 0, q2 85, q1 i] [] w) : b_law_18 n L xs J [(0, q2 900), (1, q2 0), (2, q2 85), (3, q1 i)] [] w := by
  apply And.intro
  · rfl
  intro z23 h23
  replace h23 := e_sub h23 (by omega)
  apply And.intro
  · intro h24
    exact hx
  · intro h24
    apply And.intro
    · exact ⟨rfl, by omega, by omega⟩
    intro z29 h29
    intro z32 h32
    apply And.intro
    · apply And.intro
      · intro h33
        exact v_law_164 (by omega) hR hW (fun j γ' w' a b c => hk j γ' w' a (by omega) b c)
      apply And.intro
      · intro h33
        exact v_law_227 (by omega) hR hW (fun j γ' w' a b c => hk j γ' w' a (by omega) b c)
      apply And.intro
      · intro h33
        exact v_law_250 (by omega) hR hW (fun j γ' w' a b c => hk j γ' w' a (by omega) b c)
      apply And.intro
      · intro h33
        exact v_law_283 (by omega) hR hW (fun j γ' w' a b c => hk j γ' w' a (by omega) b c)
      apply And.intro
      · intro h33
        exact v_law_306 (by omega) hR hW (fun j γ' w' a b c => hk j γ' w' a (by omega) b c)
      apply And.intro
      · intro h33
        exact v_law_339 (by omega) hR hW (fun j γ' w' a b c => hk j γ' w' a (by omega) b c)
      apply And.intro
      · intro h33
        exact v_law_382 (by omega) hR hW (fun j γ' w' a b c => hk j γ' w' a (by omega) b c)
      apply And.intro
      · intro h33
        exact v_law_415 (by omega) hR hW (fun j γ' w' a b c => hk j γ' w' a (by omega) b c)
      apply And.intro
      · intro h33
        exact v_law_468 (by omega) hR hW (fun j γ' w' a b c => hk j γ' w' a (by omega) b c)
      apply And.intro
      · intro h33
        exact v_law_511 (by omega) hR hW (fun j γ' w' a b c => hk j γ' w' a (by omega) b c)
      apply And.intro
      · intro h33
        exact v_law_554 (by omega) hR hW (fun j γ' w' a b c => hk j γ' w' a (by omega) b c)
      apply And.intro
      · intro h33
        exact v_law_613 (by omega) hR hW (fun j γ' w' a b c => hk j γ' w' a (by omega) b c)
      apply And.intro
      · intro h33
        exact v_law_666 (by omega) hR hW (fun j γ' w' a b c => hk j γ' w' a (by omega) b c)
      apply And.intro
      · intro h33
        exact v_law_719 (by omega) hR hW (fun j γ' w' a b c => hk j γ' w' a (by omega) b c)
      apply And.intro
      · intro h33
        exact v_law_762 (by omega) hR hW (fun j γ' w' a b c => hk j γ' w' a (by omega) b c)
      apply And.intro
      · intro h33
        exact v_law_795 (by omega) hR hW (fun j γ' w' a b c => hk j γ' w' a (by omega) b c)
      apply And.intro
      · intro h33
        exact v_law_838 (by omega) hR hW (fun j γ' w' a b c => hk j γ' w' a (by omega) b c)
      apply And.intro
      · intro h33
        exact v_law_901 (by omega) hR hW (fun j γ' w' a b c => hk j γ' w' a (by omega) b c)
      apply And.intro
      · intro h33
        exact v_law_954 (by omega) hR hW (fun j γ' w' a b c => hk j γ' w' a (by omega) b c)
      apply And.intro
      · intro h33
        exact v_law_1007 (by omega) hR hW (fun j γ' w' a b c => hk j γ' w' a (by omega) b c)
      apply And.intro
      · intro h33
        exact v_law_1050 (by omega) hR hW (fun j γ' w' a b c => hk j γ' w' a (by omega) b c)
      apply And.intro
      · intro h33
        exact v_law_1083 (by omega) hR hW (fun j γ' w' a b c => hk j γ' w' a (by omega) b c)
      apply And.intro
      · intro h33
        exact v_law_1116 (by omega) hR hW (fun j γ' w' a b c => hk j γ' w' a (by omega) b c)
      apply And.intro
      · intro h33
        exact v_law_1165 (by omega) hR hW (fun j γ' w' a b c => hk j γ' w' a (by omega) b c)
      apply And.intro
      · intro h33
        exact v_law_1214 (by omega) hR hW (fun j γ' w' a b c => hk j γ' w' a (by omega) b c)
      apply And.intro
      · intro h33
        exact v_law_1257 (by omega) hR hW (fun j γ' w' a b c => hk j γ' w' a (by omega) b c)
      apply And.intro
      · intro h33
        exact v_law_1300 (by omega) hR hW (fun j γ' w' a b c => hk j γ' w' a (by omega) b c)
      apply And.intro
      · intro h33
        exact hm (by omega)
      apply And.intro
      · intro h33
        exact v_law_1346 (by omega) hR hW (fun j γ' w' a b c => hk j γ' w' a (by omega) b c)
      exact trivial
    · intro h33
      exact v_law_1369 (by omega) hR hW (fun j γ' w' a b c => hk j γ' w' a (by omega) b c)
