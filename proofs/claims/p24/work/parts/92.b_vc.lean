set_option maxHeartbeats 2000000 in
set_option maxRecDepth 100000 in
theorem v_law_468 {n L : Nat} {xs : Nat → Int32} {J : Nat → List qV → List qV → qW → Prop} {i : Int} {γ : qG} {w : qW} (hi : 0 ≤ i ∧ i + 6 ≤ L ∧ L ≤ 3072) (hR : REL2 γ) (hW : PN γ n w) (hk : ∀ (j : Int) (γ' : qG) (w' : qW), j = i + 6 → PN γ' n w' → REL2 γ' → J 18 [q2 900, q2 0, q2 85, q1 j] [] w') : b_law_468 n L xs J [(0, q2 900), (1, q2 0), (2, q2 85), (3, q1 i)] [] w := by
  intro z472 h472
  replace h472 := e_add h472 (by omega)
  apply And.intro
  · exact ⟨rfl, by omega, by omega⟩
  intro z473 h473
  have q473 : z473 = (xs (i + 1).toNat).toInt := by rw [h473, show z472 = i + 1 by omega]
  intro z477 h477
  replace h477 := e_add h477 (by omega)
  apply And.intro
  · exact ⟨rfl, by omega, by omega⟩
  intro z478 h478
  have q478 : z478 = (xs (i + 2).toNat).toInt := by rw [h478, show z477 = i + 2 by omega]
  intro z482 h482
  replace h482 := e_add h482 (by omega)
  apply And.intro
  · exact ⟨rfl, by omega, by omega⟩
  intro z483 h483
  have q483 : z483 = (xs (i + 3).toNat).toInt := by rw [h483, show z482 = i + 3 by omega]
  obtain ⟨_, e484, rfl⟩ := hW.1 0 _ rfl
  refine p_callN (a := 0) (As := [q1 z473, q1 z478, q1 z483]) (rest := []) hW rfl e484 (Nat.le_of_ble_eq_true rfl) ⟨_, _, _, rfl⟩ (fun r w hW hr => ?_)
  obtain ⟨r484, rfl⟩ := hr
  intro z492 h492
  replace h492 := e_add h492 (by omega)
  apply And.intro
  · exact ⟨rfl, by omega, by omega⟩
  intro z493 h493
  have q493 : z493 = (xs (i + 1).toNat).toInt := by rw [h493, show z492 = i + 1 by omega]
  intro z497 h497
  replace h497 := e_add h497 (by omega)
  apply And.intro
  · exact ⟨rfl, by omega, by omega⟩
  intro z498 h498
  have q498 : z498 = (xs (i + 2).toNat).toInt := by rw [h498, show z497 = i + 2 by omega]
  intro z502 h502
  replace h502 := e_add h502 (by omega)
  apply And.intro
  · exact ⟨rfl, by omega, by omega⟩
  intro z503 h503
  have q503 : z503 = (xs (i + 3).toNat).toInt := by rw [h503, show z502 = i + 3 by omega]
  obtain ⟨_, e504, mco_504, mre_504, mle_504, mbe_504, mso_504, mva_504, mwo_504, mwr_504, mlf_504, mlp_504, mfp_504, mfd_504, mgo_504, mbo_504, mpe_504, mye_504, mpr_504, mld_504, msi_504, mse_504, rfl⟩ := hW.1 85 _ rfl
  refine p_callN (a := 85) (As := [q1 z493, q1 z498, q1 z503]) (rest := []) hW rfl e504 (Nat.le_of_ble_eq_true rfl) ⟨_, _, _, rfl⟩ (fun r w hW hr => ?_)
  obtain ⟨r504, rfl⟩ := hr
  intro z1369 h1369
  replace h1369 := e_add h1369 (by omega)
  exact hk _ _ _ (by omega) hW hR

set_option maxHeartbeats 2000000 in
set_option maxRecDepth 100000 in
theorem v_law_511 {n L : Nat} {xs : Nat → Int32} {J : Nat → List qV → List qV → qW → Prop} {i : Int} {γ : qG} {w : qW} (hi : 0 ≤ i ∧ i + 6 ≤ L ∧ L ≤ 3072) (hR : REL2 γ) (hW : PN γ n w) (hk : ∀ (j : Int) (γ' : qG) (w' : qW), j = i + 6 → PN γ' n w' → REL2 γ' → J 18 [q2 900, q2 0, q2 85, q1 j] [] w') : b_law_511 n L xs J [(0, q2 900), (1, q2 0), (2, q2 85), (3, q1 i)] [] w := by
  intro z515 h515
  replace h515 := e_add h515 (by omega)
  apply And.intro
  · exact ⟨rfl, by omega, by omega⟩
  intro z516 h516
  have q516 : z516 = (xs (i + 1).toNat).toInt := by rw [h516, show z515 = i + 1 by omega]
  intro z520 h520
  replace h520 := e_add h520 (by omega)
  apply And.intro
  · exact ⟨rfl, by omega, by omega⟩
  intro z521 h521
  have q521 : z521 = (xs (i + 2).toNat).toInt := by rw [h521, show z520 = i + 2 by omega]
  intro z525 h525
  replace h525 := e_add h525 (by omega)
  apply And.intro
  · exact ⟨rfl, by omega, by omega⟩
  intro z526 h526
  have q526 : z526 = (xs (i + 3).toNat).toInt := by rw [h526, show z525 = i + 3 by omega]
  obtain ⟨_, e527, rfl⟩ := hW.1 0 _ rfl
  refine p_callN (a := 0) (As := [q1 z516, q1 z521, q1 z526]) (rest := []) hW rfl e527 (Nat.le_of_ble_eq_true rfl) ⟨_, _, _, rfl⟩ (fun r w hW hr => ?_)
  obtain ⟨r527, rfl⟩ := hr
  intro z535 h535
  replace h535 := e_add h535 (by omega)
  apply And.intro
  · exact ⟨rfl, by omega, by omega⟩
  intro z536 h536
  have q536 : z536 = (xs (i + 1).toNat).toInt := by rw [h536, show z535 = i + 1 by omega]
  intro z540 h540
  replace h540 := e_add h540 (by omega)
  apply And.intro
  · exact ⟨rfl, by omega, by omega⟩
  intro z541 h541
  have q541 : z541 = (xs (i + 2).toNat).toInt := by rw [h541, show z540 = i + 2 by omega]
  intro z545 h545
  replace h545 := e_add h545 (by omega)
  apply And.intro
  · exact ⟨rfl, by omega, by omega⟩
  intro z546 h546
  have q546 : z546 = (xs (i + 3).toNat).toInt := by rw [h546, show z545 = i + 3 by omega]
  obtain ⟨_, e547, mco_547, mre_547, mle_547, mbe_547, mso_547, mva_547, mwo_547, mwr_547, mlf_547, mlp_547, mfp_547, mfd_547, mgo_547, mbo_547, mpe_547, mye_547, mpr_547, mld_547, msi_547, mse_547, rfl⟩ := hW.1 85 _ rfl
  refine p_callN (a := 85) (As := [q1 z536, q1 z541, q1 z546]) (rest := []) hW rfl e547 (Nat.le_of_ble_eq_true rfl) ⟨_, _, _, rfl⟩ (fun r w hW hr => ?_)
  obtain ⟨r547, rfl⟩ := hr
  intro z1369 h1369
  replace h1369 := e_add h1369 (by omega)
  exact hk _ _ _ (by omega) hW hR

set_option maxHeartbeats 2000000 in
set_option maxRecDepth 100000 in
theorem v_law_554 {n L : Nat} {xs : Nat → Int32} {J : Nat → List qV → List qV → qW → Prop} {i : Int} {γ : qG} {w : qW} (hi : 0 ≤ i ∧ i + 6 ≤ L ∧ L ≤ 3072) (hR : REL2 γ) (hW : PN γ n w) (hk : ∀ (j : Int) (γ' : qG) (w' : qW), j = i + 6 → PN γ' n w' → REL2 γ' → J 18 [q2 900, q2 0, q2 85, q1 j] [] w') : b_law_554 n L xs J [(0, q2 900), (1, q2 0), (2, q2 85), (3, q1 i)] [] w := by
  intro z558 h558
  replace h558 := e_add h558 (by omega)
  apply And.intro
  · exact ⟨rfl, by omega, by omega⟩
  intro z559 h559
  have q559 : z559 = (xs (i + 1).toNat).toInt := by rw [h559, show z558 = i + 1 by omega]
  intro z563 h563
  replace h563 := e_add h563 (by omega)
  apply And.intro
  · exact ⟨rfl, by omega, by omega⟩
  intro z564 h564
  have q564 : z564 = (xs (i + 2).toNat).toInt := by rw [h564, show z563 = i + 2 by omega]
  intro z568 h568
  replace h568 := e_add h568 (by omega)
  apply And.intro
  · exact ⟨rfl, by omega, by omega⟩
  intro z569 h569
  have q569 : z569 = (xs (i + 3).toNat).toInt := by rw [h569, show z568 = i + 3 by omega]
  apply And.intro
  · intro h570
    obtain ⟨_, e578, rfl⟩ := hW.1 0 _ rfl
    refine p_callN (a := 0) (As := [q1 z559, q1 z564, q1 0]) (rest := []) hW rfl e578 (Nat.le_of_ble_eq_true rfl) ⟨_, _, _, rfl⟩ (fun r w hW hr => ?_)
    obtain ⟨r578, rfl⟩ := hr
    intro z586 h586
    replace h586 := e_add h586 (by omega)
    apply And.intro
    · exact ⟨rfl, by omega, by omega⟩
    intro z587 h587
    have q587 : z587 = (xs (i + 1).toNat).toInt := by rw [h587, show z586 = i + 1 by omega]
    intro z591 h591
    replace h591 := e_add h591 (by omega)
    apply And.intro
    · exact ⟨rfl, by omega, by omega⟩
    intro z592 h592
    have q592 : z592 = (xs (i + 2).toNat).toInt := by rw [h592, show z591 = i + 2 by omega]
    intro z596 h596
    replace h596 := e_add h596 (by omega)
    apply And.intro
    · exact ⟨rfl, by omega, by omega⟩
    intro z597 h597
    have q597 : z597 = (xs (i + 3).toNat).toInt := by rw [h597, show z596 = i + 3 by omega]
    apply And.intro
    · intro h598
      obtain ⟨_, e606, mco_606, mre_606, mle_606, mbe_606, mso_606, mva_606, mwo_606, mwr_606, mlf_606, mlp_606, mfp_606, mfd_606, mgo_606, mbo_606, mpe_606, mye_606, mpr_606, mld_606, msi_606, mse_606, rfl⟩ := hW.1 85 _ rfl
      refine p_callN (a := 85) (As := [q1 z587, q1 z592, q1 0]) (rest := []) hW rfl e606 (Nat.le_of_ble_eq_true rfl) ⟨_, _, _, rfl⟩ (fun r w hW hr => ?_)
      obtain ⟨r606, rfl⟩ := hr
      intro z1369 h1369
      replace h1369 := e_add h1369 (by omega)
      exact hk _ _ _ (by omega) hW hR
    · intro h598
      obtain ⟨_, e606, mco_606, mre_606, mle_606, mbe_606, mso_606, mva_606, mwo_606, mwr_606, mlf_606, mlp_606, mfp_606, mfd_606, mgo_606, mbo_606, mpe_606, mye_606, mpr_606, mld_606, msi_606, mse_606, rfl⟩ := hW.1 85 _ rfl
      refine p_callN (a := 85) (As := [q1 z587, q1 z592, q1 1]) (rest := []) hW rfl e606 (Nat.le_of_ble_eq_true rfl) ⟨_, _, _, rfl⟩ (fun r w hW hr => ?_)
      obtain ⟨r606, rfl⟩ := hr
      intro z1369 h1369
      replace h1369 := e_add h1369 (by omega)
      exact hk _ _ _ (by omega) hW hR
  · intro h570
    obtain ⟨_, e578, rfl⟩ := hW.1 0 _ rfl
    refine p_callN (a := 0) (As := [q1 z559, q1 z564, q1 1]) (rest := []) hW rfl e578 (Nat.le_of_ble_eq_true rfl) ⟨_, _, _, rfl⟩ (fun r w hW hr => ?_)
    obtain ⟨r578, rfl⟩ := hr
    intro z586 h586
    replace h586 := e_add h586 (by omega)
    apply And.intro
    · exact ⟨rfl, by omega, by omega⟩
    intro z587 h587
    have q587 : z587 = (xs (i + 1).toNat).toInt := by rw [h587, show z586 = i + 1 by omega]
    intro z591 h591
    replace h591 := e_add h591 (by omega)
    apply And.intro
    · exact ⟨rfl, by omega, by omega⟩
    intro z592 h592
    have q592 : z592 = (xs (i + 2).toNat).toInt := by rw [h592, show z591 = i + 2 by omega]
    intro z596 h596
    replace h596 := e_add h596 (by omega)
    apply And.intro
    · exact ⟨rfl, by omega, by omega⟩
    intro z597 h597
    have q597 : z597 = (xs (i + 3).toNat).toInt := by rw [h597, show z596 = i + 3 by omega]
    apply And.intro
    · intro h598
      obtain ⟨_, e606, mco_606, mre_606, mle_606, mbe_606, mso_606, mva_606, mwo_606, mwr_606, mlf_606, mlp_606, mfp_606, mfd_606, mgo_606, mbo_606, mpe_606, mye_606, mpr_606, mld_606, msi_606, mse_606, rfl⟩ := hW.1 85 _ rfl
      refine p_callN (a := 85) (As := [q1 z587, q1 z592, q1 0]) (rest := []) hW rfl e606 (Nat.le_of_ble_eq_true rfl) ⟨_, _, _, rfl⟩ (fun r w hW hr => ?_)
      obtain ⟨r606, rfl⟩ := hr
      intro z1369 h1369
      replace h1369 := e_add h1369 (by omega)
      exact hk _ _ _ (by omega) hW hR
    · intro h598
      obtain ⟨_, e606, mco_606, mre_606, mle_606, mbe_606, mso_606, mva_606, mwo_606, mwr_606, mlf_606, mlp_606, mfp_606, mfd_606, mgo_606, mbo_606, mpe_606, mye_606, mpr_606, mld_606, msi_606, mse_606, rfl⟩ := hW.1 85 _ rfl
      refine p_callN (a := 85) (As := [q1 z587, q1 z592, q1 1]) (rest := []) hW rfl e606 (Nat.le_of_ble_eq_true rfl) ⟨_, _, _, rfl⟩ (fun r w hW hr => ?_)
      obtain ⟨r606, rfl⟩ := hr
      intro z1369 h1369
      replace h1369 := e_add h1369 (by omega)
      exact hk _ _ _ (by omega) hW hR

set_option maxHeartbeats 2000000 in
set_option maxRecDepth 100000 in
theorem v_law_613 {n L : Nat} {xs : Nat → Int32} {J : Nat → List qV → List qV → qW → Prop} {i : Int} {γ : qG} {w : qW} (hi : 0 ≤ i ∧ i + 6 ≤ L ∧ L ≤ 3072) (hR : REL2 γ) (hW : PN γ n w) (hk : ∀ (j : Int) (γ' : qG) (w' : qW), j = i + 6 → PN γ' n w' → REL2 γ' → J 18 [q2 900, q2 0, q2 85, q1 j] [] w') : b_law_613 n L xs J [(0, q2 900), (1, q2 0), (2, q2 85), (3, q1 i)] [] w := by
  intro z617 h617
  replace h617 := e_add h617 (by omega)
  apply And.intro
  · exact ⟨rfl, by omega, by omega⟩
  intro z618 h618
  have q618 : z618 = (xs (i + 1).toNat).toInt := by rw [h618, show z617 = i + 1 by omega]
  intro z622 h622
  replace h622 := e_add h622 (by omega)
  apply And.intro
  · exact ⟨rfl, by omega, by omega⟩
  intro z623 h623
  have q623 : z623 = (xs (i + 2).toNat).toInt := by rw [h623, show z622 = i + 2 by omega]
  intro z627 h627
  replace h627 := e_add h627 (by omega)
  apply And.intro
  · exact ⟨rfl, by omega, by omega⟩
  intro z628 h628
  have q628 : z628 = (xs (i + 3).toNat).toInt := by rw [h628, show z627 = i + 3 by omega]
  intro z632 h632
  replace h632 := e_add h632 (by omega)
  apply And.intro
  · exact ⟨rfl, by omega, by omega⟩
  intro z633 h633
  have q633 : z633 = (xs (i + 4).toNat).toInt := by rw [h633, show z632 = i + 4 by omega]
  obtain ⟨_, e634, rfl⟩ := hW.1 0 _ rfl
  refine p_callN (a := 0) (As := [q1 z618, q1 z623, q1 z628, q1 z633]) (rest := []) hW rfl e634 (Nat.le_of_ble_eq_true rfl) ⟨_, _, _, _, rfl⟩ (fun r w hW hr => ?_)
  obtain ⟨r634, rfl⟩ := hr
  intro z642 h642
  replace h642 := e_add h642 (by omega)
  apply And.intro
  · exact ⟨rfl, by omega, by omega⟩
  intro z643 h643
  have q643 : z643 = (xs (i + 1).toNat).toInt := by rw [h643, show z642 = i + 1 by omega]
  intro z647 h647
  replace h647 := e_add h647 (by omega)
  apply And.intro
  · exact ⟨rfl, by omega, by omega⟩
  intro z648 h648
  have q648 : z648 = (xs (i + 2).toNat).toInt := by rw [h648, show z647 = i + 2 by omega]
  intro z652 h652
  replace h652 := e_add h652 (by omega)
  apply And.intro
  · exact ⟨rfl, by omega, by omega⟩
  intro z653 h653
  have q653 : z653 = (xs (i + 3).toNat).toInt := by rw [h653, show z652 = i + 3 by omega]
  intro z657 h657
  replace h657 := e_add h657 (by omega)
  apply And.intro
  · exact ⟨rfl, by omega, by omega⟩
  intro z658 h658
  have q658 : z658 = (xs (i + 4).toNat).toInt := by rw [h658, show z657 = i + 4 by omega]
  obtain ⟨_, e659, mco_659, mre_659, mle_659, mbe_659, mso_659, mva_659, mwo_659, mwr_659, mlf_659, mlp_659, mfp_659, mfd_659, mgo_659, mbo_659, mpe_659, mye_659, mpr_659, mld_659, msi_659, mse_659, rfl⟩ := hW.1 85 _ rfl
  refine p_callN (a := 85) (As := [q1 z643, q1 z648, q1 z653, q1 z658]) (rest := []) hW rfl e659 (Nat.le_of_ble_eq_true rfl) ⟨_, _, _, _, rfl⟩ (fun r w hW hr => ?_)
  obtain ⟨r659, rfl⟩ := hr
  intro z1369 h1369
  replace h1369 := e_add h1369 (by omega)
  exact hk _ _ _ (by omega) hW hR

set_option maxHeartbeats 2000000 in
set_option maxRecDepth 100000 in
theorem v_law_666 {n L : Nat} {xs : Nat → Int32} {J : Nat → List qV → List qV → qW → Prop} {i : Int} {γ : qG} {w : qW} (hi : 0 ≤ i ∧ i + 6 ≤ L ∧ L ≤ 3072) (hR : REL2 γ) (hW : PN γ n w) (hk : ∀ (j : Int) (γ' : qG) (w' : qW), j = i + 6 → PN γ' n w' → REL2 γ' → J 18 [q2 900, q2 0, q2 85, q1 j] [] w') : b_law_666 n L xs J [(0, q2 900), (1, q2 0), (2, q2 85), (3, q1 i)] [] w := by
  intro z670 h670
  replace h670 := e_add h670 (by omega)
  apply And.intro
  · exact ⟨rfl, by omega, by omega⟩
  intro z671 h671
  have q671 : z671 = (xs (i + 1).toNat).toInt := by rw [h671, show z670 = i + 1 by omega]
  intro z675 h675
  replace h675 := e_add h675 (by omega)
  apply And.intro
  · exact ⟨rfl, by omega, by omega⟩
  intro z676 h676
  have q676 : z676 = (xs (i + 2).toNat).toInt := by rw [h676, show z675 = i + 2 by omega]
  intro z680 h680
  replace h680 := e_add h680 (by omega)
  apply And.intro
  · exact ⟨rfl, by omega, by omega⟩
  intro z681 h681
  have q681 : z681 = (xs (i + 3).toNat).toInt := by rw [h681, show z680 = i + 3 by omega]
  intro z685 h685
  replace h685 := e_add h685 (by omega)
  apply And.intro
  · exact ⟨rfl, by omega, by omega⟩
  intro z686 h686
  have q686 : z686 = (xs (i + 4).toNat).toInt := by rw [h686, show z685 = i + 4 by omega]
  obtain ⟨_, e687, rfl⟩ := hW.1 0 _ rfl
  refine p_callN (a := 0) (As := [q1 z671, q1 z676, q1 z681, q1 z686]) (rest := []) hW rfl e687 (Nat.le_of_ble_eq_true rfl) ⟨_, _, _, _, rfl⟩ (fun r w hW hr => ?_)
  obtain ⟨r687, rfl⟩ := hr
  intro z695 h695
  replace h695 := e_add h695 (by omega)
  apply And.intro
  · exact ⟨rfl, by omega, by omega⟩
  intro z696 h696
  have q696 : z696 = (xs (i + 1).toNat).toInt := by rw [h696, show z695 = i + 1 by omega]
  intro z700 h700
  replace h700 := e_add h700 (by omega)
  apply And.intro
  · exact ⟨rfl, by omega, by omega⟩
  intro z701 h701
  have q701 : z701 = (xs (i + 2).toNat).toInt := by rw [h701, show z700 = i + 2 by omega]
  intro z705 h705
  replace h705 := e_add h705 (by omega)
  apply And.intro
  · exact ⟨rfl, by omega, by omega⟩
  intro z706 h706
  have q706 : z706 = (xs (i + 3).toNat).toInt := by rw [h706, show z705 = i + 3 by omega]
  intro z710 h710
  replace h710 := e_add h710 (by omega)
  apply And.intro
  · exact ⟨rfl, by omega, by omega⟩
  intro z711 h711
  have q711 : z711 = (xs (i + 4).toNat).toInt := by rw [h711, show z710 = i + 4 by omega]
  obtain ⟨_, e712, mco_712, mre_712, mle_712, mbe_712, mso_712, mva_712, mwo_712, mwr_712, mlf_712, mlp_712, mfp_712, mfd_712, mgo_712, mbo_712, mpe_712, mye_712, mpr_712, mld_712, msi_712, mse_712, rfl⟩ := hW.1 85 _ rfl
  refine p_callN (a := 85) (As := [q1 z696, q1 z701, q1 z706, q1 z711]) (rest := []) hW rfl e712 (Nat.le_of_ble_eq_true rfl) ⟨_, _, _, _, rfl⟩ (fun r w hW hr => ?_)
  obtain ⟨r712, rfl⟩ := hr
  intro z1369 h1369
  replace h1369 := e_add h1369 (by omega)
  exact hk _ _ _ (by omega) hW hR

set_option maxHeartbeats 2000000 in
set_option maxRecDepth 100000 in
theorem v_law_719 {n L : Nat} {xs : Nat → Int32} {J : Nat → List qV → List qV → qW → Prop} {i : Int} {γ : qG} {w : qW} (hi : 0 ≤ i ∧ i + 6 ≤ L ∧ L ≤ 3072) (hR : REL2 γ) (hW : PN γ n w) (hk : ∀ (j : Int) (γ' : qG) (w' : qW), j = i + 6 → PN γ' n w' → REL2 γ' → J 18 [q2 900, q2 0, q2 85, q1 j] [] w') : b_law_719 n L xs J [(0, q2 900), (1, q2 0), (2, q2 85), (3, q1 i)] [] w := by
  intro z723 h723
  replace h723 := e_add h723 (by omega)
  apply And.intro
  · exact ⟨rfl, by omega, by omega⟩
  intro z724 h724
  have q724 : z724 = (xs (i + 1).toNat).toInt := by rw [h724, show z723 = i + 1 by omega]
  intro z728 h728
  replace h728 := e_add h728 (by omega)
  apply And.intro
  · exact ⟨rfl, by omega, by omega⟩
  intro z729 h729
  have q729 : z729 = (xs (i + 2).toNat).toInt := by rw [h729, show z728 = i + 2 by omega]
  intro z733 h733
  replace h733 := e_add h733 (by omega)
  apply And.intro
  · exact ⟨rfl, by omega, by omega⟩
  intro z734 h734
  have q734 : z734 = (xs (i + 3).toNat).toInt := by rw [h734, show z733 = i + 3 by omega]
  obtain ⟨_, e735, rfl⟩ := hW.1 0 _ rfl
  refine p_callM (a := 0) (As := [q1 z724, q1 z729, q1 z734]) (rest := []) hW rfl e735 (Nat.le_of_ble_eq_true rfl) ⟨_, _, _, rfl⟩ (fun r γ735 w hW hr735 => ?_)
  obtain ⟨r735, rfl⟩ := rlElC_z hr735
  intro z743 h743
  replace h743 := e_add h743 (by omega)
  apply And.intro
  · exact ⟨rfl, by omega, by omega⟩
  intro z744 h744
  have q744 : z744 = (xs (i + 1).toNat).toInt := by rw [h744, show z743 = i + 1 by omega]
  intro z748 h748
  replace h748 := e_add h748 (by omega)
  apply And.intro
  · exact ⟨rfl, by omega, by omega⟩
  intro z749 h749
  have q749 : z749 = (xs (i + 2).toNat).toInt := by rw [h749, show z748 = i + 2 by omega]
  intro z753 h753
  replace h753 := e_add h753 (by omega)
  apply And.intro
  · exact ⟨rfl, by omega, by omega⟩
  intro z754 h754
  have q754 : z754 = (xs (i + 3).toNat).toInt := by rw [h754, show z753 = i + 3 by omega]
  obtain ⟨_, e755, mco_755, mre_755, mle_755, mbe_755, mso_755, mva_755, mwo_755, mwr_755, mlf_755, mlp_755, mfp_755, mfd_755, mgo_755, mbo_755, mpe_755, mye_755, mpr_755, mld_755, msi_755, mse_755, rfl⟩ := hW.1 85 _ rfl
  refine p_callM (a := 85) (As := [q1 z744, q1 z749, q1 z754]) (rest := []) hW rfl e755 (Nat.le_of_ble_eq_true rfl) ⟨_, _, _, rfl⟩ (fun r γ755 w hW hr755 => ?_)
  obtain ⟨r755, rfl⟩ := rlElM_z hr755
  have R9 := RL2El (q724.trans q744.symm) (q729.trans q749.symm) (q734.trans q754.symm) hR hr735 hr755
  intro z1369 h1369
  replace h1369 := e_add h1369 (by omega)
  exact hk _ _ _ (by omega) hW R9.1

set_option maxHeartbeats 2000000 in
set_option maxRecDepth 100000 in
theorem v_law_762 {n L : Nat} {xs : Nat → Int32} {J : Nat → List qV → List qV → qW → Prop} {i : Int} {γ : qG} {w : qW} (hi : 0 ≤ i ∧ i + 6 ≤ L ∧ L ≤ 3072) (hR : REL2 γ) (hW : PN γ n w) (hk : ∀ (j : Int) (γ' : qG) (w' : qW), j = i + 6 → PN γ' n w' → REL2 γ' → J 18 [q2 900, q2 0, q2 85, q1 j] [] w') : b_law_762 n L xs J [(0, q2 900), (1, q2 0), (2, q2 85), (3, q1 i)] [] w := by
  intro z766 h766
  replace h766 := e_add h766 (by omega)
  apply And.intro
  · exact ⟨rfl, by omega, by omega⟩
  intro z767 h767
  have q767 : z767 = (xs (i + 1).toNat).toInt := by rw [h767, show z766 = i + 1 by omega]
  intro z771 h771
  replace h771 := e_add h771 (by omega)
  apply And.intro
  · exact ⟨rfl, by omega, by omega⟩
  intro z772 h772
  have q772 : z772 = (xs (i + 2).toNat).toInt := by rw [h772, show z771 = i + 2 by omega]
  obtain ⟨_, e773, rfl⟩ := hW.1 0 _ rfl
  refine p_callN (a := 0) (As := [q1 z767, q1 z772]) (rest := []) hW rfl e773 (Nat.le_of_ble_eq_true rfl) ⟨_, _, rfl⟩ (fun r w hW hr => ?_)
  obtain ⟨r773, rfl⟩ := hr
  intro z781 h781
  replace h781 := e_add h781 (by omega)
  apply And.intro
  · exact ⟨rfl, by omega, by omega⟩
  intro z782 h782
  have q782 : z782 = (xs (i + 1).toNat).toInt := by rw [h782, show z781 = i + 1 by omega]
  intro z786 h786
  replace h786 := e_add h786 (by omega)
  apply And.intro
  · exact ⟨rfl, by omega, by omega⟩
  intro z787 h787
  have q787 : z787 = (xs (i + 2).toNat).toInt := by rw [h787, show z786 = i + 2 by omega]
  obtain ⟨_, e788, mco_788, mre_788, mle_788, mbe_788, mso_788, mva_788, mwo_788, mwr_788, mlf_788, mlp_788, mfp_788, mfd_788, mgo_788, mbo_788, mpe_788, mye_788, mpr_788, mld_788, msi_788, mse_788, rfl⟩ := hW.1 85 _ rfl
  refine p_callN (a := 85) (As := [q1 z782, q1 z787]) (rest := []) hW rfl e788 (Nat.le_of_ble_eq_true rfl) ⟨_, _, rfl⟩ (fun r w hW hr => ?_)
  obtain ⟨r788, rfl⟩ := hr
  intro z1369 h1369
  replace h1369 := e_add h1369 (by omega)
  exact hk _ _ _ (by omega) hW hR

set_option maxHeartbeats 2000000 in
set_option maxRecDepth 100000 in
theorem v_law_795 {n L : Nat} {xs : Nat → Int32} {J : Nat → List qV → List qV → qW → Prop} {i : Int} {γ : qG} {w : qW} (hi : 0 ≤ i ∧ i + 6 ≤ L ∧ L ≤ 3072) (hR : REL2 γ) (hW : PN γ n w) (hk : ∀ (j : Int) (γ' : qG) (w' : qW), j = i + 6 → PN γ' n w' → REL2 γ' → J 18 [q2 900, q2 0, q2 85, q1 j] [] w') : b_law_795 n L xs J [(0, q2 900), (1, q2 0), (2, q2 85), (3, q1 i)] [] w := by
  intro z799 h799
  replace h799 := e_add h799 (by omega)
  apply And.intro
  · exact ⟨rfl, by omega, by omega⟩
  intro z800 h800
  have q800 : z800 = (xs (i + 1).toNat).toInt := by rw [h800, show z799 = i + 1 by omega]
  intro z804 h804
  replace h804 := e_add h804 (by omega)
  apply And.intro
  · exact ⟨rfl, by omega, by omega⟩
  intro z805 h805
  have q805 : z805 = (xs (i + 2).toNat).toInt := by rw [h805, show z804 = i + 2 by omega]
  intro z809 h809
  replace h809 := e_add h809 (by omega)
  apply And.intro
  · exact ⟨rfl, by omega, by omega⟩
  intro z810 h810
  have q810 : z810 = (xs (i + 3).toNat).toInt := by rw [h810, show z809 = i + 3 by omega]
  obtain ⟨_, e811, rfl⟩ := hW.1 0 _ rfl
  refine p_callM (a := 0) (As := [q1 z800, q1 z805, q1 z810]) (rest := []) hW rfl e811 (Nat.le_of_ble_eq_true rfl) ⟨_, _, _, rfl⟩ (fun r γ811 w hW hr811 => ?_)
  obtain ⟨r811, rfl⟩ := rlFtC_z hr811
  intro z819 h819
  replace h819 := e_add h819 (by omega)
  apply And.intro
  · exact ⟨rfl, by omega, by omega⟩
  intro z820 h820
  have q820 : z820 = (xs (i + 1).toNat).toInt := by rw [h820, show z819 = i + 1 by omega]
  intro z824 h824
  replace h824 := e_add h824 (by omega)
  apply And.intro
  · exact ⟨rfl, by omega, by omega⟩
  intro z825 h825
  have q825 : z825 = (xs (i + 2).toNat).toInt := by rw [h825, show z824 = i + 2 by omega]
  intro z829 h829
  replace h829 := e_add h829 (by omega)
  apply And.intro
  · exact ⟨rfl, by omega, by omega⟩
  intro z830 h830
  have q830 : z830 = (xs (i + 3).toNat).toInt := by rw [h830, show z829 = i + 3 by omega]
  obtain ⟨_, e831, mco_831, mre_831, mle_831, mbe_831, mso_831, mva_831, mwo_831, mwr_831, mlf_831, mlp_831, mfp_831, mfd_831, mgo_831, mbo_831, mpe_831, mye_831, mpr_831, mld_831, msi_831, mse_831, rfl⟩ := hW.1 85 _ rfl
  refine p_callM (a := 85) (As := [q1 z820, q1 z825, q1 z830]) (rest := []) hW rfl e831 (Nat.le_of_ble_eq_true rfl) ⟨_, _, _, rfl⟩ (fun r γ831 w hW hr831 => ?_)
  obtain ⟨r831, rfl⟩ := rlFtM_z hr831
  have R9 := RL2Ft (q800.trans q820.symm) (q805.trans q825.symm) (q810.trans q830.symm) hR hr811 hr831
  intro z1369 h1369
  replace h1369 := e_add h1369 (by omega)
  exact hk _ _ _ (by omega) hW R9.1
