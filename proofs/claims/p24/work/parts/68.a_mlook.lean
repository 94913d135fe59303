/-! ===== the reference: borough, deed, fact ===== -/
theorem bm_id {v : Int} (h : -2147483648 ≤ v ∧ v ≤ 2147483647) : v.bmod (2 ^ 32) = v := by
  rw [Int.bmod_def]
  have e : ((2 ^ 32 : Nat) : Int) = 4294967296 := by decide
  rw [e]
  split <;> omega
theorem e_divn {z x y : Int} (h : z = (Int32.ofInt x / Int32.ofInt y).toInt) (hx : -2147483648 ≤ x ∧ x < 0) (hy : 0 < y ∧ y ≤ 2147483647) : z ≤ 0 := by
  rw [h, Int32.toInt_div, Int32.toInt_ofInt, Int32.toInt_ofInt]
  have ex : x.bmod Int32.size = x := bm_id (by omega)
  have ey : y.bmod Int32.size = y := bm_id (by omega)
  rw [ex, ey]
  have h1 : x.tdiv y = -((-x) / y) := by
    have h2 : x = -(-x) := by omega
    rw [h2, Int.neg_tdiv, Int.neg_neg, Int.tdiv_eq_ediv_of_nonneg (by omega)]
  have h3 : 0 ≤ (-x) / y := Int.ediv_nonneg (by omega) (by omega)
  have h4 : (-x) / y ≤ -x := Int.ediv_le_self _ (by omega)
  rw [h1, bm_id (by omega)]
  omega
theorem e_div9 {z x y : Int} (h : z = (Int32.ofInt x / Int32.ofInt y).toInt) (hx : -2147483648 ≤ x ∧ x ≤ 2147483647) (hy : 0 < y ∧ y ≤ 2147483647) : (0 ≤ x → z = x / y) ∧ (x < 0 → z ≤ 0) := ⟨fun h1 => e_div h ⟨h1, hx.2⟩ hy, fun h1 => e_divn h ⟨hx.1, h1⟩ hy⟩
theorem e_rem9 {z x y : Int} (h : z = (Int32.ofInt x - Int32.ofInt x / Int32.ofInt y * Int32.ofInt y).toInt) (hx : -2147483648 ≤ x ∧ x ≤ 2147483647) (hy : 0 < y ∧ y ≤ 2147483647) : (0 ≤ x → z = x % y ∧ 0 ≤ z ∧ z < y) ∧ (-2147483648 ≤ z ∧ z ≤ 2147483647) := ⟨fun h1 => e_rem h ⟨h1, hx.2⟩ hy, e_rng h⟩
def rwD (m : Nat → Int) (b : Nat) : Nat → Int := fun j => m (b + j)
theorem Rw_1 {f : Nat → Int} {W a m z : Int} (h : z = f (W * m).toNat) (hm : m = a) (hw : 0 ≤ W * a) : z = rwD f (W * a).toNat 0 := by
  subst hm
  unfold rwD
  rw [Nat.add_zero]; exact h
theorem Rw_2 {f : Nat → Int} {W a i z : Int} {j : Nat} (h : z = f i.toNat) (hi : i = W * a + j) (hw : 0 ≤ W * a) : z = rwD f (W * a).toNat j := by
  unfold rwD
  rw [h]
  congr 1
  omega
def FtD (D : Nat → Int) (k w r : Int) : Prop := FtR (fun i => D (1 + 2 * i)) (fun i => D (2 + 2 * i)) (D 0) k w r
def DeD (D : Nat → Int) (k w r : Int) : Prop := DeR (fun i => D (1 + 4 * i)) (fun i => D (2 + 4 * i)) (fun i => D (3 + 4 * i)) (fun i => D (4 + 4 * i)) (D 0) k w r
theorem Ft_0 {D : Nat → Int} {k w r : Int} (h : r = D 0) (hk : k = -1) (hw : w = 0) : FtD D k w r := Or.inl ⟨hk, hw, h⟩
theorem Ft_1 {D : Nat → Int} {k w : Int} (hk : k = -1) (hw : ¬ w = 0) : FtD D k w (-2) := Or.inr (Or.inl ⟨hk, hw, rfl⟩)
theorem Ft_2 {f : Nat → Int} {W a m k w r z : Int} (h : r = f (W * m + 1 + 2 * k + w).toNat) (hm : m = a) (hw : 0 ≤ W * a) (hz : z = rwD f (W * a).toNat 0) (hk : 0 ≤ k ∧ k < z) (hw1 : 0 ≤ w ∧ w ≤ 1) : FtD (rwD f (W * a).toNat) k w r := by
  subst hm hz
  refine Or.inr (Or.inr ⟨by omega, ?_⟩)
  rcases (show w = 0 ∨ w = 1 by omega) with rfl | rfl
  · exact Or.inl ⟨hk.1, hk.2, rfl, Rw_2 (j := 1 + 2 * k.toNat) h (by omega) hw⟩
  · exact Or.inr (Or.inl ⟨hk.1, hk.2, rfl, Rw_2 (j := 2 + 2 * k.toNat) h (by omega) hw⟩)
theorem Ft_3 {D : Nat → Int} {k w z : Int} (hz : z = D 0) (hk : ¬ k = -1) (hn : ¬ (0 ≤ k ∧ k < z ∧ 0 ≤ w ∧ w ≤ 1)) : FtD D k w (-2) := by
  subst hz
  exact Or.inr (Or.inr ⟨hk, Or.inr (Or.inr ⟨hn, rfl⟩)⟩)
theorem De_0 {D : Nat → Int} {k w r : Int} (h : r = D 0) (hk : k = -1) (hw : w = 0) : DeD D k w r := Or.inl ⟨hk, hw, h⟩
theorem De_1 {D : Nat → Int} {k w : Int} (hk : k = -1) (hw : ¬ w = 0) : DeD D k w (-2) := Or.inr (Or.inl ⟨hk, hw, rfl⟩)
theorem De_2 {f : Nat → Int} {W a m k w r z : Int} (h : r = f (W * m + 1 + 4 * k + w).toNat) (hm : m = a) (hw : 0 ≤ W * a) (hz : z = rwD f (W * a).toNat 0) (hk : 0 ≤ k ∧ k < z) (hw1 : 0 ≤ w ∧ w ≤ 3) : DeD (rwD f (W * a).toNat) k w r := by
  subst hm hz
  refine Or.inr (Or.inr ⟨by omega, ?_⟩)
  rcases (show w = 0 ∨ w = 1 ∨ w = 2 ∨ w = 3 by omega) with rfl | rfl | rfl | rfl
  · exact Or.inl ⟨hk.1, hk.2, rfl, Rw_2 (j := 1 + 4 * k.toNat) h (by omega) hw⟩
  · exact Or.inr (Or.inl ⟨hk.1, hk.2, rfl, Rw_2 (j := 2 + 4 * k.toNat) h (by omega) hw⟩)
  · exact Or.inr (Or.inr (Or.inl ⟨hk.1, hk.2, rfl, Rw_2 (j := 3 + 4 * k.toNat) h (by omega) hw⟩))
  · exact Or.inr (Or.inr (Or.inr (Or.inl ⟨hk.1, hk.2, rfl, Rw_2 (j := 4 + 4 * k.toNat) h (by omega) hw⟩)))
theorem De_3 {D : Nat → Int} {k w z : Int} (hz : z = D 0) (hk : ¬ k = -1) (hn : ¬ (0 ≤ k ∧ k < z ∧ 0 ≤ w ∧ w ≤ 3)) : DeD D k w (-2) := by
  subst hz
  exact Or.inr (Or.inr ⟨hk, Or.inr (Or.inr (Or.inr (Or.inr ⟨hn, rfl⟩)))⟩)
/-- a borough's row -/
def BoD (D : Nat → Int) (a r : Int) : Prop := BoR (fun i => D (5 + i)) (fun i => D (13 + i)) (fun i => D (21 + i)) (fun i => D (43 + i)) (fun i => D (25 + i)) (fun i => D (31 + i)) (fun i => D (37 + i)) (D 0) (D 1) (D 2) (D 3) (D 4) a r
theorem of_D {f : Nat → Int} {a m i z : Int} {j : Nat} (h : z = ofR f m i) (hm : m = a) (hi : i = j) (ha : 0 ≤ a) : z = rwD f (75 * a).toNat j := by
  subst hm hi
  exact Rw_2 h rfl (by omega)
theorem Bd_0 {f : Nat → Int} {a m w r : Int} (h : r = ofR f m w) (hm : m = a) (ha : 0 ≤ a) (hw : 0 ≤ w ∧ w ≤ 4) : BoD (rwD f (75 * a).toNat) w r := by
  refine Or.inl ⟨by omega, ?_⟩
  rcases (show w = 0 ∨ w = 1 ∨ w = 2 ∨ w = 3 ∨ w = 4 by omega) with rfl | rfl | rfl | rfl | rfl
  · exact Or.inl ⟨rfl, of_D (j := 0) h hm rfl ha⟩
  · exact Or.inr (Or.inl ⟨rfl, of_D (j := 1) h hm rfl ha⟩)
  · exact Or.inr (Or.inr (Or.inl ⟨rfl, of_D (j := 2) h hm rfl ha⟩))
  · exact Or.inr (Or.inr (Or.inr (Or.inl ⟨rfl, of_D (j := 3) h hm rfl ha⟩)))
  · exact Or.inr (Or.inr (Or.inr (Or.inr (Or.inl ⟨rfl, of_D (j := 4) h hm rfl ha⟩))))
theorem Bd_00 {D : Nat → Int} {w : Int} (h : w < 10) (hw : ¬ (0 ≤ w ∧ w ≤ 4)) : BoD D w (-2) := Or.inl ⟨h, Or.inr (Or.inr (Or.inr (Or.inr (Or.inr ⟨hw, rfl⟩))))⟩
theorem Bd_1y {f : Nat → Int} {a m w k i r s ms : Int} (h : r = ofR f m i) (hm : m = a) (ha : 0 ≤ a) (hi : i = 5 + k) (hk : k = w - 10) (hw : 10 ≤ w ∧ w < 20) (hs : s = ofR f ms 0) (hms : ms = a) (hks : k < s) (hl : s ≤ 8) : BoD (rwD f (75 * a).toNat) w r := by
  have hd : s = rwD f (75 * a).toNat 0 := of_D (j := 0) hs hms rfl ha
  exact Or.inr (Or.inl ⟨⟨by omega, by omega⟩, Or.inl ⟨by omega, by rw [← hd]; omega, by omega, of_D (j := 5 + (w - 10).toNat) h hm (by omega) ha⟩⟩)
theorem Bd_1n {f : Nat → Int} {a w s ms : Int} (ha : 0 ≤ a) (hw : 10 ≤ w ∧ w < 20) (hs : s = ofR f ms 0) (hms : ms = a) (hks : ¬ w - 10 < s) : BoD (rwD f (75 * a).toNat) w (-2) := by
  have hd : s = rwD f (75 * a).toNat 0 := of_D (j := 0) hs hms rfl ha
  exact Or.inr (Or.inl ⟨⟨by omega, by omega⟩, Or.inr ⟨fun h9 => hks (by rw [hd]; exact h9.2.1), rfl⟩⟩)
theorem Bd_2y {f : Nat → Int} {a m w k i r s ms : Int} (h : r = ofR f m i) (hm : m = a) (ha : 0 ≤ a) (hi : i = 13 + k) (hk : k = w - 20) (hw : 20 ≤ w ∧ w < 30) (hs : s = ofR f ms 0) (hms : ms = a) (hks : k < s) (hl : s ≤ 8) : BoD (rwD f (75 * a).toNat) w r := by
  have hd : s = rwD f (75 * a).toNat 0 := of_D (j := 0) hs hms rfl ha
  exact Or.inr (Or.inr (Or.inl ⟨⟨by omega, by omega⟩, Or.inl ⟨by omega, by rw [← hd]; omega, by omega, of_D (j := 13 + (w - 20).toNat) h hm (by omega) ha⟩⟩))
theorem Bd_2n {f : Nat → Int} {a w s ms : Int} (ha : 0 ≤ a) (hw : 20 ≤ w ∧ w < 30) (hs : s = ofR f ms 0) (hms : ms = a) (hks : ¬ w - 20 < s) : BoD (rwD f (75 * a).toNat) w (-2) := by
  have hd : s = rwD f (75 * a).toNat 0 := of_D (j := 0) hs hms rfl ha
  exact Or.inr (Or.inr (Or.inl ⟨⟨by omega, by omega⟩, Or.inr ⟨fun h9 => hks (by rw [hd]; exact h9.2.1), rfl⟩⟩))
theorem Bd_3y {f : Nat → Int} {a m w k i r s ms : Int} (h : r = ofR f m i) (hm : m = a) (ha : 0 ≤ a) (hi : i = 25 + k) (hk : k = w - 40) (hw : 40 ≤ w ∧ w < 50) (hs : s = ofR f ms 3) (hms : ms = a) (hks : k < s) (hl : s ≤ 6) : BoD (rwD f (75 * a).toNat) w r := by
  have hd : s = rwD f (75 * a).toNat 3 := of_D (j := 3) hs hms rfl ha
  exact Or.inr (Or.inr (Or.inr (Or.inr (Or.inl ⟨⟨by omega, by omega⟩, Or.inl ⟨by omega, by rw [← hd]; omega, by omega, of_D (j := 25 + (w - 40).toNat) h hm (by omega) ha⟩⟩))))
theorem Bd_3n {f : Nat → Int} {a w s ms : Int} (ha : 0 ≤ a) (hw : 40 ≤ w ∧ w < 50) (hs : s = ofR f ms 3) (hms : ms = a) (hks : ¬ w - 40 < s) : BoD (rwD f (75 * a).toNat) w (-2) := by
  have hd : s = rwD f (75 * a).toNat 3 := of_D (j := 3) hs hms rfl ha
  exact Or.inr (Or.inr (Or.inr (Or.inr (Or.inl ⟨⟨by omega, by omega⟩, Or.inr ⟨fun h9 => hks (by rw [hd]; exact h9.2.1), rfl⟩⟩))))
theorem Bd_4y {f : Nat → Int} {a m w k i r s ms : Int} (h : r = ofR f m i) (hm : m = a) (ha : 0 ≤ a) (hi : i = 31 + k) (hk : k = w - 50) (hw : 50 ≤ w ∧ w < 60) (hs : s = ofR f ms 3) (hms : ms = a) (hks : k < s) (hl : s ≤ 6) : BoD (rwD f (75 * a).toNat) w r := by
  have hd : s = rwD f (75 * a).toNat 3 := of_D (j := 3) hs hms rfl ha
  exact Or.inr (Or.inr (Or.inr (Or.inr (Or.inr (Or.inl ⟨⟨by omega, by omega⟩, Or.inl ⟨by omega, by rw [← hd]; omega, by omega, of_D (j := 31 + (w - 50).toNat) h hm (by omega) ha⟩⟩)))))
theorem Bd_4n {f : Nat → Int} {a w s ms : Int} (ha : 0 ≤ a) (hw : 50 ≤ w ∧ w < 60) (hs : s = ofR f ms 3) (hms : ms = a) (hks : ¬ w - 50 < s) : BoD (rwD f (75 * a).toNat) w (-2) := by
  have hd : s = rwD f (75 * a).toNat 3 := of_D (j := 3) hs hms rfl ha
  exact Or.inr (Or.inr (Or.inr (Or.inr (Or.inr (Or.inl ⟨⟨by omega, by omega⟩, Or.inr ⟨fun h9 => hks (by rw [hd]; exact h9.2.1), rfl⟩⟩)))))
theorem Bd_5y {f : Nat → Int} {a m w k i r s ms : Int} (h : r = ofR f m i) (hm : m = a) (ha : 0 ≤ a) (hi : i = 37 + k) (hk : k = w - 60) (hw : 60 ≤ w ∧ w < 70) (hs : s = ofR f ms 4) (hms : ms = a) (hks : k < s) (hl : s ≤ 6) : BoD (rwD f (75 * a).toNat) w r := by
  have hd : s = rwD f (75 * a).toNat 4 := of_D (j := 4) hs hms rfl ha
  exact Or.inr (Or.inr (Or.inr (Or.inr (Or.inr (Or.inr (Or.inl ⟨⟨by omega, by omega⟩, Or.inl ⟨by omega, by rw [← hd]; omega, by omega, of_D (j := 37 + (w - 60).toNat) h hm (by omega) ha⟩⟩))))))
theorem Bd_5n {f : Nat → Int} {a w s ms : Int} (ha : 0 ≤ a) (hw : 60 ≤ w ∧ w < 70) (hs : s = ofR f ms 4) (hms : ms = a) (hks : ¬ w - 60 < s) : BoD (rwD f (75 * a).toNat) w (-2) := by
  have hd : s = rwD f (75 * a).toNat 4 := of_D (j := 4) hs hms rfl ha
  exact Or.inr (Or.inr (Or.inr (Or.inr (Or.inr (Or.inr (Or.inl ⟨⟨by omega, by omega⟩, Or.inr ⟨fun h9 => hks (by rw [hd]; exact h9.2.1), rfl⟩⟩))))))
theorem Bd_8y {f : Nat → Int} {a m w k i r : Int} (h : r = ofR f m i) (hm : m = a) (ha : 0 ≤ a) (hi : i = 21 + k) (hk : k = w - 30) (hw : 30 ≤ w ∧ w ≤ 33) : BoD (rwD f (75 * a).toNat) w r :=
  Or.inr (Or.inr (Or.inr (Or.inl ⟨⟨by omega, by omega⟩, Or.inl ⟨by omega, by omega, by omega, of_D (j := 21 + (w - 30).toNat) h hm (by omega) ha⟩⟩)))
theorem Bd_8n {D : Nat → Int} {w : Int} (hw : 34 ≤ w ∧ w < 40) : BoD D w (-2) :=
  Or.inr (Or.inr (Or.inr (Or.inl ⟨⟨by omega, by omega⟩, Or.inr ⟨by omega, rfl⟩⟩)))
theorem Bd_9y {f : Nat → Int} {a m w q i r s ms : Int} (h : r = ofR f m i) (hm : m = a) (ha : 0 ≤ a) (hi : i = 43 + w - 70) (hq : q = (w - 70) / 4) (hw : 70 ≤ w ∧ w ≤ 101) (hs : s = ofR f ms 0) (hms : ms = a) (hks : q < s) : BoD (rwD f (75 * a).toNat) w r := by
  have hd : s = rwD f (75 * a).toNat 0 := of_D (j := 0) hs hms rfl ha
  exact Or.inr (Or.inr (Or.inr (Or.inr (Or.inr (Or.inr (Or.inr ⟨by omega, Or.inl ⟨by omega, by rw [← hd]; omega, by omega, of_D (j := 43 + (w - 70).toNat) h hm (by omega) ha⟩⟩))))))
theorem Bd_9n {f : Nat → Int} {a w q s ms : Int} (ha : 0 ≤ a) (hq : q = (w - 70) / 4) (hw : 70 ≤ w ∧ w ≤ 101) (hs : s = ofR f ms 0) (hms : ms = a) (hks : ¬ q < s) : BoD (rwD f (75 * a).toNat) w (-2) := by
  have hd : s = rwD f (75 * a).toNat 0 := of_D (j := 0) hs hms rfl ha
  exact Or.inr (Or.inr (Or.inr (Or.inr (Or.inr (Or.inr (Or.inr ⟨by omega, Or.inr ⟨fun h9 => hks (by have h8 := h9.2.1; rw [← hd] at h8; omega), rfl⟩⟩))))))
theorem Bd_9z {D : Nat → Int} {w : Int} (hw : 102 ≤ w) : BoD D w (-2) :=
  Or.inr (Or.inr (Or.inr (Or.inr (Or.inr (Or.inr (Or.inr ⟨by omega, Or.inr ⟨by omega, rfl⟩⟩))))))

theorem dG12_hand_0 : decode cX12_hand 0 = .ok (.aload_n 0, 1) := by decide +kernel
theorem dG12_hand_1 : decode cX12_hand 1 = .ok (.iconst 0, 1) := by decide +kernel
theorem dG12_hand_2 : decode cX12_hand 2 = .ok (.iload_n 1, 1) := by decide +kernel
theorem dG12_hand_3 : decode cX12_hand 3 = .ok (.invokevirtual 287, 3) := by decide +kernel
theorem dG12_hand_6 : decode cX12_hand 6 = .ok (.ifCond .ne 5, 3) := by decide +kernel
theorem dG12_hand_9 : decode cX12_hand 9 = .ok (.iconst 0, 1) := by decide +kernel
theorem dG12_hand_10 : decode cX12_hand 10 = .ok (.ireturn, 1) := by decide +kernel
theorem dG12_hand_11 : decode cX12_hand 11 = .ok (.aload_n 0, 1) := by decide +kernel
theorem dG12_hand_12 : decode cX12_hand 12 = .ok (.iload_n 1, 1) := by decide +kernel
theorem dG12_hand_13 : decode cX12_hand 13 = .ok (.putfield 296, 3) := by decide +kernel
theorem dG12_hand_16 : decode cX12_hand 16 = .ok (.aload_n 0, 1) := by decide +kernel
theorem dG12_hand_17 : decode cX12_hand 17 = .ok (.aload_n 0, 1) := by decide +kernel
theorem dG12_hand_18 : decode cX12_hand 18 = .ok (.iconst 0, 1) := by decide +kernel
theorem dG12_hand_19 : decode cX12_hand 19 = .ok (.invokevirtual 299, 3) := by decide +kernel
theorem dG12_hand_22 : decode cX12_hand 22 = .ok (.putfield 303, 3) := by decide +kernel
theorem dG12_hand_25 : decode cX12_hand 25 = .ok (.iconst 1, 1) := by decide +kernel
theorem dG12_hand_26 : decode cX12_hand 26 = .ok (.ireturn, 1) := by decide +kernel
def is_G12_hand : Nat → List Nat := fun d => []
set_option maxRecDepth 100000 in
def b_G12_hand_0 (J : Nat → List qV → List qV → qW → Prop) (Q : qR) : qK := x_aload 0 (x_int 0 (x_iload 1 (x_callr (some 12) 3 spr_X12_is (x_if_ne (x_aload 0 (x_iload 1 (x_put 12 24 q_oki (x_nw (x_aload 0 (x_aload 0 (x_int 0 (x_callr (some 12) 2 spr_X12_of (x_put 12 25 q_oki (x_nw (x_int 1 (x_zret Q)))))))))))) (x_int 0 (x_zret Q))))))
set_option maxRecDepth 100000 in
theorem s_G12_hand_0 {p : Program} {l : Launch} {e : Env} {R : Room} {s : State} {m : MethodId} {args : Array Value} {below : List Frame} {meth : Method} {c : Code} {nW : Nat} {dC : Nat → ClassId} {dI : Nat → Nat → Nat} {k : Nat → ClassId} {g : Nat → Nat} {A : Nat → Prop} {J : Nat → List qV → List qV → qW → Prop} {Q : qR} (X : q_X p R s m args meth c cX12_hand 2 nW 2 44 RX12 (some .boolean) dC dI k g A) (hJ : ∀ d : Nat, q_Sd p l e R s m args below meth c 2 nW dC dI k g A (MQ below (q_post (dC, dI) k g nW Q A) args s 0 0 A) d (x_cut (is_G12_hand d) (J d))) : q_Sd p l e R s m args below meth c 2 nW dC dI k g A (MQ below (q_post (dC, dI) k g nW Q A) args s 0 0 A) 0 (b_G12_hand_0 J Q) := by
  unfold b_G12_hand_0
  refine s_aload_n X rfl dG12_hand_0 ?_
  refine s_iconst X ⟨by decide, by decide⟩ dG12_hand_1 ?_
  refine s_iload_n X rfl dG12_hand_2 ?_
  refine s_callVr X (m_X12_is l) tw_1061 tw_1062 tw_1590 tw_134 tw_1063 rfl (by decide +kernel) ⟨by decide, by decide⟩ dG12_hand_3 ?_
  refine s_if_ne X (tgt := 11) dG12_hand_6 (by decide) ?_ ?_
  · refine s_aload_n X rfl dG12_hand_11 ?_
    refine s_iload_n X rfl dG12_hand_12 ?_
    refine s_put X (T := TX12) (C := RX12) (N := 45) tu_X12 tyX12_ok nmX12 rfl (by decide) tw_1021 rfl (by decide +kernel) q_oki_t dG12_hand_13 ?_
    refine s_nw ?_
    refine s_aload_n X rfl dG12_hand_16 ?_
    refine s_aload_n X rfl dG12_hand_17 ?_
    refine s_iconst X ⟨by decide, by decide⟩ dG12_hand_18 ?_
    refine s_callVr X (m_X12_of l) tw_1189 tw_1190 tw_1603 tw_134 tw_1191 rfl (by decide +kernel) ⟨by decide, by decide⟩ dG12_hand_19 ?_
    refine s_put X (T := TX12) (C := RX12) (N := 45) tu_X12 tyX12_ok nmX12 rfl (by decide) tw_1022 rfl (by decide +kernel) q_oki_t dG12_hand_22 ?_
    refine s_nw ?_
    refine s_iconst X ⟨by decide, by decide⟩ dG12_hand_25 ?_
    exact s_zret X dG12_hand_26
  · refine s_iconst X ⟨by decide, by decide⟩ dG12_hand_9 ?_
    exact s_zret X dG12_hand_10

def sp_G12_hand : qS := fun av w Q => ∃ (mco : Int) (mre : Int) (mle : Int) (mbe : Int) (mso : Int) (mva : Int) (mwo : Int) (mwr : Int) (mlf : Int) (mlp : Int) (mfp : Int) (mfd : Int) (mgo : Int) (mbo : Int) (mpe : Int) (mye : Int) (mpr : Int) (mld : Int) (msi : Int) (mse : Int) (mn : Nat → Int) (bs : Nat → Int) (a : Int), av = [q2 0, q1 a] ∧ w = [.inr (12, [q1 mco, q2 3, q2 4, q2 5, q2 6, q2 1, q2 2, q2 7, q2 8, q2 9, q1 mre, q1 mle, q1 mbe, q1 mso, q1 mva, q3 mwo, q1 mwr, q1 mlf, q1 mlp, q2 10, q2 11, q1 mfp, q1 mfd, q1 mgo, q1 mbo, q1 mpe, q1 mye, q2 12, q1 mpr, q2 13, q2 14, q2 15, q2 16, q1 mld, q2 17, q1 msi, q2 18, q2 19, q2 20, q2 21, q2 22, q1 mse, q2 23, q2 24, q2 25]), .inl (0, 16, .inl mn), .inl (0, 600, .inl bs)] ∧ (q_rg 0 2 mn) ∧ (BI bs) ∧ (∀ (r : Int) (x_mbo : Int) (x_mpe : Int), (r = 1 ∧ (x_mbo = a ∧ (0 ≤ a ∧ a < mn (0 : Int).toNat) ∧ a ≤ 1 ∧ 0 ≤ x_mpe ∧ x_mpe ≤ 8 ∧ x_mpe = ofR bs x_mbo 0) ∨ r = 0 ∧ ¬ (0 ≤ a ∧ a < mn (0 : Int).toNat)) → Q (some (q1 r)) ([.inr (12, [q1 mco, q2 3, q2 4, q2 5, q2 6, q2 1, q2 2, q2 7, q2 8, q2 9, q1 mre, q1 mle, q1 mbe, q1 mso, q1 mva, q3 mwo, q1 mwr, q1 mlf, q1 mlp, q2 10, q2 11, q1 mfp, q1 mfd, q1 mgo, q1 x_mbo, q1 x_mpe, q1 mye, q2 12, q1 mpr, q2 13, q2 14, q2 15, q2 16, q1 mld, q2 17, q1 msi, q2 18, q2 19, q2 20, q2 21, q2 22, q1 mse, q2 23, q2 24, q2 25]), .inl (0, 16, .inl mn), .inl (0, 600, .inl bs)]))
set_option maxHeartbeats 4000000 in
set_option maxRecDepth 100000 in
theorem m_G12_hand (l : Launch) : q_M l yX12_hand cX12_hand 2 (some .boolean) 2 44 sp_G12_hand := by
  refine q_meth (by decide) (fun av w Q h => by obtain ⟨mco, mre, mle, mbe, mso, mva, mwo, mwr, mlf, mlp, mfp, mfd, mgo, mbo, mpe, mye, mpr, mld, msi, mse, mn, bs, a, rfl, rfl, hmn, hbi, hQ⟩ := h; exact Nat.le_of_ble_eq_true rfl) ?_
  intro p e R s m args below meth c dC dI k g A av w Q hsp oka okw X
  obtain ⟨mco, mre, mle, mbe, mso, mva, mwo, mwr, mlf, mlp, mfp, mfd, mgo, mbo, mpe, mye, mpr, mld, msi, mse, mn, bs, a, rfl, rfl, hmn, hbi, hQ⟩ := hsp
  have o_a : -2147483648 ≤ a ∧ a ≤ 2147483647 := oka _ (List.mem_of_getElem? (i := 1) rfl)
  refine s_mono (s_G12_hand_0 X (J := fun _ _ _ _ => False) (fun d => s_cutF)) ?_
  rintro lv st w' ⟨rfl, rfl, rfl⟩
  refine Exists.intro [0, 1, 3, 4, 5, 6, 2, 7, 8, 9, 10, 11, 12, 13, 14, 15, 16, 17, 18, 19, 20, 21, 22, 23, 24, 25] (Exists.intro [q2 0, q1 _, q1 _] (Exists.intro ([.inr (12, [q1 _, q2 2, q2 3, q2 4, q2 5, q2 1, q2 6, q2 7, q2 8, q2 9, q1 _, q1 _, q1 _, q1 _, q1 _, q3 _, q1 _, q1 _, q1 _, q2 10, q2 11, q1 _, q1 _, q1 _, q1 _, q1 _, q1 _, q2 12, q1 _, q2 13, q2 14, q2 15, q2 16, q1 _, q2 17, q1 _, q2 18, q2 19, q2 20, q2 21, q2 22, q1 _, q2 23, q2 24, q2 25]), .inl (0, 16, .inl _)]) (And.intro rfl (And.intro rfl (And.intro rfl (And.intro ⟨⟨_, rfl⟩, rfl⟩ ?_))))))
  refine Exists.intro _ (Exists.intro _ (Exists.intro _ (Exists.intro _ (Exists.intro _ (Exists.intro _ (Exists.intro _ (Exists.intro _ (Exists.intro _ (Exists.intro _ (Exists.intro _ (Exists.intro _ (Exists.intro _ (Exists.intro _ (Exists.intro _ (Exists.intro _ (Exists.intro _ (Exists.intro _ (Exists.intro _ (Exists.intro _ (Exists.intro _ (Exists.intro _ (Exists.intro _ (And.intro rfl (And.intro rfl (And.intro (by first | omega | assumption | exact q_rg_up (by assumption) (by omega) | exact q_rg_up (q_rg_up (by assumption) (by omega)) (by omega) | exact q_rg_cpy (by assumption) (by assumption)) (And.intro (by first | omega | assumption | exact q_rg_up (by assumption) (by omega) | exact q_rg_up (q_rg_up (by assumption) (by omega)) (by omega) | exact q_rg_cpy (by assumption) (by assumption)) (?_)))))))))))))))))))))))))))
  intro z3 h3
  apply And.intro
  · intro h6
    first | replace h3 := dj1 h3 h6 | replace h3 := dj0 h3 h6
    apply And.intro
    · exact trivial
    refine Exists.intro [0, 2, 3, 4, 5, 6, 1, 7, 8, 9, 10, 11, 12, 13, 14, 15, 16, 17, 18, 19, 20, 21, 22, 23, 24, 25] (Exists.intro [q2 0, q1 _] (Exists.intro ([.inr (12, [q1 _, q2 2, q2 3, q2 4, q2 5, q2 6, q2 1, q2 7, q2 8, q2 9, q1 _, q1 _, q1 _, q1 _, q1 _, q3 _, q1 _, q1 _, q1 _, q2 10, q2 11, q1 _, q1 _, q1 _, q1 _, q1 _, q1 _, q2 12, q1 _, q2 13, q2 14, q2 15, q2 16, q1 _, q2 17, q1 _, q2 18, q2 19, q2 20, q2 21, q2 22, q1 _, q2 23, q2 24, q2 25]), .inl (0, 600, .inl _)]) (And.intro rfl (And.intro rfl (And.intro rfl (And.intro ⟨⟨_, rfl⟩, rfl⟩ ?_))))))
    refine Exists.intro _ (Exists.intro _ (Exists.intro _ (Exists.intro _ (Exists.intro _ (Exists.intro _ (Exists.intro _ (Exists.intro _ (Exists.intro _ (Exists.intro _ (Exists.intro _ (Exists.intro _ (Exists.intro _ (Exists.intro _ (Exists.intro _ (Exists.intro _ (Exists.intro _ (Exists.intro _ (Exists.intro _ (Exists.intro _ (Exists.intro _ (Exists.intro _ (And.intro rfl (And.intro rfl (And.intro (by first | omega | assumption | exact q_rg_up (by assumption) (by omega) | exact q_rg_up (q_rg_up (by assumption) (by omega)) (by omega) | exact q_rg_cpy (by assumption) (by assumption)) (And.intro (by first | omega | assumption | exact q_rg_up (by assumption) (by omega) | exact q_rg_up (q_rg_up (by assumption) (by omega)) (by omega) | exact q_rg_cpy (by assumption) (by assumption)) (And.intro (by first | omega | assumption | exact q_rg_up (by assumption) (by omega) | exact q_rg_up (q_rg_up (by assumption) (by omega)) (by omega) | exact q_rg_cpy (by assumption) (by assumption)) (?_)))))))))))))))))))))))))))
    intro z19 h19
    obtain ⟨h19, k19⟩ := h19
    replace k19 := OFQ_0 k19 rfl
    apply And.intro
    · exact trivial
    apply And.intro
    · first | exact Or.inl rfl | exact Or.inr rfl | omega
    exact hQ _ _ _ (by first | exact Or.inr ⟨by omega, by omega⟩ | exact Or.inl ⟨by omega, by omega, ⟨by omega, by omega⟩, by omega, by omega, by omega, by assumption⟩)
  · intro h6
    first | replace h3 := dj1 h3 h6 | replace h3 := dj0 h3 h6
    apply And.intro
    · first | exact Or.inl rfl | exact Or.inr rfl | omega
    exact hQ _ _ _ (by first | exact Or.inr ⟨by omega, by omega⟩ | exact Or.inl ⟨by omega, by omega, ⟨by omega, by omega⟩, by omega, by omega, by omega, by assumption⟩)

theorem dG12_hasYear_0 : decode cX12_hasYear 0 = .ok (.aload_n 0, 1) := by decide +kernel
theorem dG12_hasYear_1 : decode cX12_hasYear 1 = .ok (.iload_n 1, 1) := by decide +kernel
theorem dG12_hasYear_2 : decode cX12_hasYear 2 = .ok (.putfield 312, 3) := by decide +kernel
theorem dG12_hasYear_5 : decode cX12_hasYear 5 = .ok (.aload_n 0, 1) := by decide +kernel
theorem dG12_hasYear_6 : decode cX12_hasYear 6 = .ok (.iconst 1, 1) := by decide +kernel
theorem dG12_hasYear_7 : decode cX12_hasYear 7 = .ok (.iload_n 1, 1) := by decide +kernel
theorem dG12_hasYear_8 : decode cX12_hasYear 8 = .ok (.invokevirtual 287, 3) := by decide +kernel
theorem dG12_hasYear_11 : decode cX12_hasYear 11 = .ok (.ireturn, 1) := by decide +kernel
def is_G12_hasYear : Nat → List Nat := fun d => []
set_option maxRecDepth 100000 in
def b_G12_hasYear_0 (J : Nat → List qV → List qV → qW → Prop) (Q : qR) : qK := x_aload 0 (x_iload 1 (x_put 12 26 q_oki (x_nw (x_aload 0 (x_int 1 (x_iload 1 (x_callr (some 12) 3 spr_X12_is (x_zret Q))))))))
set_option maxRecDepth 100000 in
theorem s_G12_hasYear_0 {p : Program} {l : Launch} {e : Env} {R : Room} {s : State} {m : MethodId} {args : Array Value} {below : List Frame} {meth : Method} {c : Code} {nW : Nat} {dC : Nat → ClassId} {dI : Nat → Nat → Nat} {k : Nat → ClassId} {g : Nat → Nat} {A : Nat → Prop} {J : Nat → List qV → List qV → qW → Prop} {Q : qR} (X : q_X p R s m args meth c cX12_hasYear 2 nW 2 44 RX12 (some .boolean) dC dI k g A) (hJ : ∀ d : Nat, q_Sd p l e R s m args below meth c 2 nW dC dI k g A (MQ below (q_post (dC, dI) k g nW Q A) args s 0 0 A) d (x_cut (is_G12_hasYear d) (J d))) : q_Sd p l e R s m args below meth c 2 nW dC dI k g A (MQ below (q_post (dC, dI) k g nW Q A) args s 0 0 A) 0 (b_G12_hasYear_0 J Q) := by
  unfold b_G12_hasYear_0
  refine s_aload_n X rfl dG12_hasYear_0 ?_
  refine s_iload_n X rfl dG12_hasYear_1 ?_
  refine s_put X (T := TX12) (C := RX12) (N := 45) tu_X12 tyX12_ok nmX12 rfl (by decide) tw_1023 rfl (by decide +kernel) q_oki_t dG12_hasYear_2 ?_
  refine s_nw ?_
  refine s_aload_n X rfl dG12_hasYear_5 ?_
  refine s_iconst X ⟨by decide, by decide⟩ dG12_hasYear_6 ?_
  refine s_iload_n X rfl dG12_hasYear_7 ?_
  refine s_callVr X (m_X12_is l) tw_1061 tw_1062 tw_1590 tw_134 tw_1063 rfl (by decide +kernel) ⟨by decide, by decide⟩ dG12_hasYear_8 ?_
  exact s_zret X dG12_hasYear_11

def sp_G12_hasYear : qS := fun av w Q => ∃ (mco : Int) (mre : Int) (mle : Int) (mbe : Int) (mso : Int) (mva : Int) (mwo : Int) (mwr : Int) (mlf : Int) (mlp : Int) (mfp : Int) (mfd : Int) (mgo : Int) (mbo : Int) (mpe : Int) (mye : Int) (mpr : Int) (mld : Int) (msi : Int) (mse : Int) (mn : Nat → Int) (a : Int), av = [q2 0, q1 a] ∧ w = [.inr (12, [q1 mco, q2 2, q2 3, q2 4, q2 5, q2 1, q2 6, q2 7, q2 8, q2 9, q1 mre, q1 mle, q1 mbe, q1 mso, q1 mva, q3 mwo, q1 mwr, q1 mlf, q1 mlp, q2 10, q2 11, q1 mfp, q1 mfd, q1 mgo, q1 mbo, q1 mpe, q1 mye, q2 12, q1 mpr, q2 13, q2 14, q2 15, q2 16, q1 mld, q2 17, q1 msi, q2 18, q2 19, q2 20, q2 21, q2 22, q1 mse, q2 23, q2 24, q2 25]), .inl (0, 16, .inl mn)] ∧ (q_rg 0 2 mn) ∧ (∀ (r : Int) (x_mye : Int), (r = 1 ∧ (x_mye = a ∧ (0 ≤ a ∧ a < mn (1 : Int).toNat) ∧ a ≤ 1) ∨ r = 0 ∧ ¬ (0 ≤ a ∧ a < mn (1 : Int).toNat)) → Q (some (q1 r)) ([.inr (12, [q1 mco, q2 2, q2 3, q2 4, q2 5, q2 1, q2 6, q2 7, q2 8, q2 9, q1 mre, q1 mle, q1 mbe, q1 mso, q1 mva, q3 mwo, q1 mwr, q1 mlf, q1 mlp, q2 10, q2 11, q1 mfp, q1 mfd, q1 mgo, q1 mbo, q1 mpe, q1 x_mye, q2 12, q1 mpr, q2 13, q2 14, q2 15, q2 16, q1 mld, q2 17, q1 msi, q2 18, q2 19, q2 20, q2 21, q2 22, q1 mse, q2 23, q2 24, q2 25]), .inl (0, 16, .inl mn)]))
set_option maxHeartbeats 4000000 in
set_option maxRecDepth 100000 in
theorem m_G12_hasYear (l : Launch) : q_M l yX12_hasYear cX12_hasYear 2 (some .boolean) 2 44 sp_G12_hasYear := by
  refine q_meth (by decide) (fun av w Q h => by obtain ⟨mco, mre, mle, mbe, mso, mva, mwo, mwr, mlf, mlp, mfp, mfd, mgo, mbo, mpe, mye, mpr, mld, msi, mse, mn, a, rfl, rfl, hmn, hQ⟩ := h; exact Nat.le_of_ble_eq_true rfl) ?_
  intro p e R s m args below meth c dC dI k g A av w Q hsp oka okw X
  obtain ⟨mco, mre, mle, mbe, mso, mva, mwo, mwr, mlf, mlp, mfp, mfd, mgo, mbo, mpe, mye, mpr, mld, msi, mse, mn, a, rfl, rfl, hmn, hQ⟩ := hsp
  have o_a : -2147483648 ≤ a ∧ a ≤ 2147483647 := oka _ (List.mem_of_getElem? (i := 1) rfl)
  refine s_mono (s_G12_hasYear_0 X (J := fun _ _ _ _ => False) (fun d => s_cutF)) ?_
  rintro lv st w' ⟨rfl, rfl, rfl⟩
  apply And.intro
  · exact trivial
  refine Exists.intro [0, 1, 2, 3, 4, 5, 6, 7, 8, 9, 10, 11, 12, 13, 14, 15, 16, 17, 18, 19, 20, 21, 22, 23, 24, 25] (Exists.intro [q2 0, q1 _, q1 _] (Exists.intro ([.inr (12, [q1 _, q2 2, q2 3, q2 4, q2 5, q2 1, q2 6, q2 7, q2 8, q2 9, q1 _, q1 _, q1 _, q1 _, q1 _, q3 _, q1 _, q1 _, q1 _, q2 10, q2 11, q1 _, q1 _, q1 _, q1 _, q1 _, q1 _, q2 12, q1 _, q2 13, q2 14, q2 15, q2 16, q1 _, q2 17, q1 _, q2 18, q2 19, q2 20, q2 21, q2 22, q1 _, q2 23, q2 24, q2 25]), .inl (0, 16, .inl _)]) (And.intro rfl (And.intro rfl (And.intro rfl (And.intro ⟨⟨_, rfl⟩, rfl⟩ ?_))))))
  refine Exists.intro _ (Exists.intro _ (Exists.intro _ (Exists.intro _ (Exists.intro _ (Exists.intro _ (Exists.intro _ (Exists.intro _ (Exists.intro _ (Exists.intro _ (Exists.intro _ (Exists.intro _ (Exists.intro _ (Exists.intro _ (Exists.intro _ (Exists.intro _ (Exists.intro _ (Exists.intro _ (Exists.intro _ (Exists.intro _ (Exists.intro _ (Exists.intro _ (Exists.intro _ (And.intro rfl (And.intro rfl (And.intro (by first | omega | assumption | exact q_rg_up (by assumption) (by omega) | exact q_rg_up (q_rg_up (by assumption) (by omega)) (by omega) | exact q_rg_cpy (by assumption) (by assumption)) (And.intro (by first | omega | assumption | exact q_rg_up (by assumption) (by omega) | exact q_rg_up (q_rg_up (by assumption) (by omega)) (by omega) | exact q_rg_cpy (by assumption) (by assumption)) (?_)))))))))))))))))))))))))))
  intro z8 h8
  apply And.intro
  · first | exact Or.inl rfl | exact Or.inr rfl | omega
  exact hQ _ _ (by first | omega | assumption | exact q_rg_up (by assumption) (by omega) | exact q_rg_up (q_rg_up (by assumption) (by omega)) (by omega) | exact q_rg_cpy (by assumption) (by assumption))

theorem dG12_hasSight_0 : decode cX12_hasSight 0 = .ok (.aload_n 0, 1) := by decide +kernel
theorem dG12_hasSight_1 : decode cX12_hasSight 1 = .ok (.iload_n 1, 1) := by decide +kernel
theorem dG12_hasSight_2 : decode cX12_hasSight 2 = .ok (.putfield 456, 3) := by decide +kernel
theorem dG12_hasSight_5 : decode cX12_hasSight 5 = .ok (.aload_n 0, 1) := by decide +kernel
theorem dG12_hasSight_6 : decode cX12_hasSight 6 = .ok (.iconst 3, 1) := by decide +kernel
theorem dG12_hasSight_7 : decode cX12_hasSight 7 = .ok (.iload_n 1, 1) := by decide +kernel
theorem dG12_hasSight_8 : decode cX12_hasSight 8 = .ok (.invokevirtual 287, 3) := by decide +kernel
theorem dG12_hasSight_11 : decode cX12_hasSight 11 = .ok (.ireturn, 1) := by decide +kernel
def is_G12_hasSight : Nat → List Nat := fun d => []
set_option maxRecDepth 100000 in
def b_G12_hasSight_0 (J : Nat → List qV → List qV → qW → Prop) (Q : qR) : qK := x_aload 0 (x_iload 1 (x_put 12 35 q_oki (x_nw (x_aload 0 (x_int 3 (x_iload 1 (x_callr (some 12) 3 spr_X12_is (x_zret Q))))))))
set_option maxRecDepth 100000 in
theorem s_G12_hasSight_0 {p : Program} {l : Launch} {e : Env} {R : Room} {s : State} {m : MethodId} {args : Array Value} {below : List Frame} {meth : Method} {c : Code} {nW : Nat} {dC : Nat → ClassId} {dI : Nat → Nat → Nat} {k : Nat → ClassId} {g : Nat → Nat} {A : Nat → Prop} {J : Nat → List qV → List qV → qW → Prop} {Q : qR} (X : q_X p R s m args meth c cX12_hasSight 2 nW 2 44 RX12 (some .boolean) dC dI k g A) (hJ : ∀ d : Nat, q_Sd p l e R s m args below meth c 2 nW dC dI k g A (MQ below (q_post (dC, dI) k g nW Q A) args s 0 0 A) d (x_cut (is_G12_hasSight d) (J d))) : q_Sd p l e R s m args below meth c 2 nW dC dI k g A (MQ below (q_post (dC, dI) k g nW Q A) args s 0 0 A) 0 (b_G12_hasSight_0 J Q) := by
  unfold b_G12_hasSight_0
  refine s_aload_n X rfl dG12_hasSight_0 ?_
  refine s_iload_n X rfl dG12_hasSight_1 ?_
  refine s_put X (T := TX12) (C := RX12) (N := 45) tu_X12 tyX12_ok nmX12 rfl (by decide) tw_1032 rfl (by decide +kernel) q_oki_t dG12_hasSight_2 ?_
  refine s_nw ?_
  refine s_aload_n X rfl dG12_hasSight_5 ?_
  refine s_iconst X ⟨by decide, by decide⟩ dG12_hasSight_6 ?_
  refine s_iload_n X rfl dG12_hasSight_7 ?_
  refine s_callVr X (m_X12_is l) tw_1061 tw_1062 tw_1590 tw_134 tw_1063 rfl (by decide +kernel) ⟨by decide, by decide⟩ dG12_hasSight_8 ?_
  exact s_zret X dG12_hasSight_11

def sp_G12_hasSight : qS := fun av w Q => ∃ (mco : Int) (mre : Int) (mle : Int) (mbe : Int) (mso : Int) (mva : Int) (mwo : Int) (mwr : Int) (mlf : Int) (mlp : Int) (mfp : Int) (mfd : Int) (mgo : Int) (mbo : Int) (mpe : Int) (mye : Int) (mpr : Int) (mld : Int) (msi : Int) (mse : Int) (mn : Nat → Int) (a : Int), av = [q2 0, q1 a] ∧ w = [.inr (12, [q1 mco, q2 2, q2 3, q2 4, q2 5, q2 1, q2 6, q2 7, q2 8, q2 9, q1 mre, q1 mle, q1 mbe, q1 mso, q1 mva, q3 mwo, q1 mwr, q1 mlf, q1 mlp, q2 10, q2 11, q1 mfp, q1 mfd, q1 mgo, q1 mbo, q1 mpe, q1 mye, q2 12, q1 mpr, q2 13, q2 14, q2 15, q2 16, q1 mld, q2 17, q1 msi, q2 18, q2 19, q2 20, q2 21, q2 22, q1 mse, q2 23, q2 24, q2 25]), .inl (0, 16, .inl mn)] ∧ (q_rg 0 2 mn) ∧ (∀ (r : Int) (x_msi : Int), (r = 1 ∧ (x_msi = a ∧ (0 ≤ a ∧ a < mn (3 : Int).toNat) ∧ a ≤ 1) ∨ r = 0 ∧ ¬ (0 ≤ a ∧ a < mn (3 : Int).toNat)) → Q (some (q1 r)) ([.inr (12, [q1 mco, q2 2, q2 3, q2 4, q2 5, q2 1, q2 6, q2 7, q2 8, q2 9, q1 mre, q1 mle, q1 mbe, q1 mso, q1 mva, q3 mwo, q1 mwr, q1 mlf, q1 mlp, q2 10, q2 11, q1 mfp, q1 mfd, q1 mgo, q1 mbo, q1 mpe, q1 mye, q2 12, q1 mpr, q2 13, q2 14, q2 15, q2 16, q1 mld, q2 17, q1 x_msi, q2 18, q2 19, q2 20, q2 21, q2 22, q1 mse, q2 23, q2 24, q2 25]), .inl (0, 16, .inl mn)]))
set_option maxHeartbeats 4000000 in
set_option maxRecDepth 100000 in
theorem m_G12_hasSight (l : Launch) : q_M l yX12_hasSight cX12_hasSight 2 (some .boolean) 2 44 sp_G12_hasSight := by
  refine q_meth (by decide) (fun av w Q h => by obtain ⟨mco, mre, mle, mbe, mso, mva, mwo, mwr, mlf, mlp, mfp, mfd, mgo, mbo, mpe, mye, mpr, mld, msi, mse, mn, a, rfl, rfl, hmn, hQ⟩ := h; exact Nat.le_of_ble_eq_true rfl) ?_
  intro p e R s m args below meth c dC dI k g A av w Q hsp oka okw X
  obtain ⟨mco, mre, mle, mbe, mso, mva, mwo, mwr, mlf, mlp, mfp, mfd, mgo, mbo, mpe, mye, mpr, mld, msi, mse, mn, a, rfl, rfl, hmn, hQ⟩ := hsp
  have o_a : -2147483648 ≤ a ∧ a ≤ 2147483647 := oka _ (List.mem_of_getElem? (i := 1) rfl)
  refine s_mono (s_G12_hasSight_0 X (J := fun _ _ _ _ => False) (fun d => s_cutF)) ?_
  rintro lv st w' ⟨rfl, rfl, rfl⟩
  apply And.intro
  · exact trivial
  refine Exists.intro [0, 1, 2, 3, 4, 5, 6, 7, 8, 9, 10, 11, 12, 13, 14, 15, 16, 17, 18, 19, 20, 21, 22, 23, 24, 25] (Exists.intro [q2 0, q1 _, q1 _] (Exists.intro ([.inr (12, [q1 _, q2 2, q2 3, q2 4, q2 5, q2 1, q2 6, q2 7, q2 8, q2 9, q1 _, q1 _, q1 _, q1 _, q1 _, q3 _, q1 _, q1 _, q1 _, q2 10, q2 11, q1 _, q1 _, q1 _, q1 _, q1 _, q1 _, q2 12, q1 _, q2 13, q2 14, q2 15, q2 16, q1 _, q2 17, q1 _, q2 18, q2 19, q2 20, q2 21, q2 22, q1 _, q2 23, q2 24, q2 25]), .inl (0, 16, .inl _)]) (And.intro rfl (And.intro rfl (And.intro rfl (And.intro ⟨⟨_, rfl⟩, rfl⟩ ?_))))))
  refine Exists.intro _ (Exists.intro _ (Exists.intro _ (Exists.intro _ (Exists.intro _ (Exists.intro _ (Exists.intro _ (Exists.intro _ (Exists.intro _ (Exists.intro _ (Exists.intro _ (Exists.intro _ (Exists.intro _ (Exists.intro _ (Exists.intro _ (Exists.intro _ (Exists.intro _ (Exists.intro _ (Exists.intro _ (Exists.intro _ (Exists.intro _ (Exists.intro _ (Exists.intro _ (And.intro rfl (And.intro rfl (And.intro (by first | omega | assumption | exact q_rg_up (by assumption) (by omega) | exact q_rg_up (q_rg_up (by assumption) (by omega)) (by omega) | exact q_rg_cpy (by assumption) (by assumption)) (And.intro (by first | omega | assumption | exact q_rg_up (by assumption) (by omega) | exact q_rg_up (q_rg_up (by assumption) (by omega)) (by omega) | exact q_rg_cpy (by assumption) (by assumption)) (?_)))))))))))))))))))))))))))
  intro z8 h8
  apply And.intro
  · first | exact Or.inl rfl | exact Or.inr rfl | omega
  exact hQ _ _ (by first | omega | assumption | exact q_rg_up (by assumption) (by omega) | exact q_rg_up (q_rg_up (by assumption) (by omega)) (by omega) | exact q_rg_cpy (by assumption) (by assumption))

theorem dG12_deeds_0 : decode cX12_deeds 0 = .ok (.aload_n 0, 1) := by decide +kernel
theorem dG12_deeds_1 : decode cX12_deeds 1 = .ok (.getfield 29, 3) := by decide +kernel
theorem dG12_deeds_4 : decode cX12_deeds 4 = .ok (.sipush 161, 3) := by decide +kernel
theorem dG12_deeds_7 : decode cX12_deeds 7 = .ok (.aload_n 0, 1) := by decide +kernel
theorem dG12_deeds_8 : decode cX12_deeds 8 = .ok (.getfield 312, 3) := by decide +kernel
theorem dG12_deeds_11 : decode cX12_deeds 11 = .ok (.imul, 1) := by decide +kernel
theorem dG12_deeds_12 : decode cX12_deeds 12 = .ok (.iaload, 1) := by decide +kernel
theorem dG12_deeds_13 : decode cX12_deeds 13 = .ok (.ireturn, 1) := by decide +kernel
def is_G12_deeds : Nat → List Nat := fun d => []
set_option maxRecDepth 100000 in
def b_G12_deeds_0 (J : Nat → List qV → List qV → qW → Prop) (Q : qR) : qK := x_aload 0 (x_get 12 7 (x_int 161 (x_aload 0 (x_get 12 26 (x_imul (x_iald (x_iret Q)))))))
set_option maxRecDepth 100000 in
theorem s_G12_deeds_0 {p : Program} {l : Launch} {e : Env} {R : Room} {s : State} {m : MethodId} {args : Array Value} {below : List Frame} {meth : Method} {c : Code} {nW : Nat} {dC : Nat → ClassId} {dI : Nat → Nat → Nat} {k : Nat → ClassId} {g : Nat → Nat} {A : Nat → Prop} {J : Nat → List qV → List qV → qW → Prop} {Q : qR} (X : q_X p R s m args meth c cX12_deeds 1 nW 0 0 RX12 (some .int) dC dI k g A) (hJ : ∀ d : Nat, q_Sd p l e R s m args below meth c 1 nW dC dI k g A (MQ below (q_post (dC, dI) k g nW Q A) args s 0 0 A) d (x_cut (is_G12_deeds d) (J d))) : q_Sd p l e R s m args below meth c 1 nW dC dI k g A (MQ below (q_post (dC, dI) k g nW Q A) args s 0 0 A) 0 (b_G12_deeds_0 J Q) := by
  unfold b_G12_deeds_0
  refine s_aload_n X rfl dG12_deeds_0 ?_
  refine s_get X (T := TX12) (C := RX12) (N := 45) tu_X12 rfl (by decide) tw_1004 dG12_deeds_1 ?_
  refine s_sipush X ⟨by decide, by decide⟩ (by decide) dG12_deeds_4 ?_
  refine s_aload_n X rfl dG12_deeds_7 ?_
  refine s_get X (T := TX12) (C := RX12) (N := 45) tu_X12 rfl (by decide) tw_1023 dG12_deeds_8 ?_
  refine s_imul X dG12_deeds_11 ?_
  refine s_iald X dG12_deeds_12 ?_
  exact s_iret X dG12_deeds_13

def spr_G12_deeds : List qV → qW → (Option qV → Prop) → Prop := fun av w Q => ∃ (mco : Int) (mre : Int) (mle : Int) (mbe : Int) (mso : Int) (mva : Int) (mwo : Int) (mwr : Int) (mlf : Int) (mlp : Int) (mfp : Int) (mfd : Int) (mgo : Int) (mbo : Int) (mpe : Int) (mye : Int) (mpr : Int) (mld : Int) (msi : Int) (mse : Int) (ys : Nat → Int), av = [q2 0] ∧ w = [.inr (12, [q1 mco, q2 2, q2 3, q2 4, q2 5, q2 6, q2 7, q2 1, q2 8, q2 9, q1 mre, q1 mle, q1 mbe, q1 mso, q1 mva, q3 mwo, q1 mwr, q1 mlf, q1 mlp, q2 10, q2 11, q1 mfp, q1 mfd, q1 mgo, q1 mbo, q1 mpe, q1 mye, q2 12, q1 mpr, q2 13, q2 14, q2 15, q2 16, q1 mld, q2 17, q1 msi, q2 18, q2 19, q2 20, q2 21, q2 22, q1 mse, q2 23, q2 24, q2 25]), .inl (0, 1288, .inl ys)] ∧ (YI ys) ∧ (0 ≤ mye ∧ mye ≤ 1) ∧ (∀ (r : Int) , (r = ys (161 * mye).toNat ∧ 0 ≤ r ∧ r ≤ 40) → Q (some (q1 r)))
def sp_G12_deeds : qS := fun av w Q => spr_G12_deeds av w (fun r => Q r w)
set_option maxHeartbeats 4000000 in
set_option maxRecDepth 100000 in
theorem m_G12_deeds (l : Launch) : q_M l yX12_deeds cX12_deeds 1 (some .int) 0 0 sp_G12_deeds := by
  refine q_meth (by decide) (fun av w Q h => by obtain ⟨mco, mre, mle, mbe, mso, mva, mwo, mwr, mlf, mlp, mfp, mfd, mgo, mbo, mpe, mye, mpr, mld, msi, mse, ys, rfl, rfl, hyi, hye, hQ⟩ := h; exact Nat.le_of_ble_eq_true rfl) ?_
  intro p e R s m args below meth c dC dI k g A av w Q hsp oka okw X
  obtain ⟨mco, mre, mle, mbe, mso, mva, mwo, mwr, mlf, mlp, mfp, mfd, mgo, mbo, mpe, mye, mpr, mld, msi, mse, ys, rfl, rfl, hyi, hye, hQ⟩ := hsp
  refine s_mono (s_G12_deeds_0 X (J := fun _ _ _ _ => False) (fun d => s_cutF)) ?_
  rintro lv st w' ⟨rfl, rfl, rfl⟩
  intro z11 h11
  first | replace h11 := e_mul h11 (by omega) | replace h11 := e_rng h11
  apply And.intro
  · exact ⟨by omega, by omega⟩
  intro z12 h12
  exact hQ _ ⟨by rw [h12, h11], YI_0 hyi hye h12 (by omega)⟩

theorem dG12_facts_0 : decode cX12_facts 0 = .ok (.aload_n 0, 1) := by decide +kernel
theorem dG12_facts_1 : decode cX12_facts 1 = .ok (.getfield 35, 3) := by decide +kernel
theorem dG12_facts_4 : decode cX12_facts 4 = .ok (.bipush 21, 2) := by decide +kernel
theorem dG12_facts_6 : decode cX12_facts 6 = .ok (.aload_n 0, 1) := by decide +kernel
theorem dG12_facts_7 : decode cX12_facts 7 = .ok (.getfield 456, 3) := by decide +kernel
theorem dG12_facts_10 : decode cX12_facts 10 = .ok (.imul, 1) := by decide +kernel
theorem dG12_facts_11 : decode cX12_facts 11 = .ok (.iaload, 1) := by decide +kernel
theorem dG12_facts_12 : decode cX12_facts 12 = .ok (.ireturn, 1) := by decide +kernel
def is_G12_facts : Nat → List Nat := fun d => []
set_option maxRecDepth 100000 in
def b_G12_facts_0 (J : Nat → List qV → List qV → qW → Prop) (Q : qR) : qK := x_aload 0 (x_get 12 9 (x_int 21 (x_aload 0 (x_get 12 35 (x_imul (x_iald (x_iret Q)))))))
set_option maxRecDepth 100000 in
theorem s_G12_facts_0 {p : Program} {l : Launch} {e : Env} {R : Room} {s : State} {m : MethodId} {args : Array Value} {below : List Frame} {meth : Method} {c : Code} {nW : Nat} {dC : Nat → ClassId} {dI : Nat → Nat → Nat} {k : Nat → ClassId} {g : Nat → Nat} {A : Nat → Prop} {J : Nat → List qV → List qV → qW → Prop} {Q : qR} (X : q_X p R s m args meth c cX12_facts 1 nW 0 0 RX12 (some .int) dC dI k g A) (hJ : ∀ d : Nat, q_Sd p l e R s m args below meth c 1 nW dC dI k g A (MQ below (q_post (dC, dI) k g nW Q A) args s 0 0 A) d (x_cut (is_G12_facts d) (J d))) : q_Sd p l e R s m args below meth c 1 nW dC dI k g A (MQ below (q_post (dC, dI) k g nW Q A) args s 0 0 A) 0 (b_G12_facts_0 J Q) := by
  unfold b_G12_facts_0
  refine s_aload_n X rfl dG12_facts_0 ?_
  refine s_get X (T := TX12) (C := RX12) (N := 45) tu_X12 rfl (by decide) tw_1006 dG12_facts_1 ?_
  refine s_bipush X ⟨by decide, by decide⟩ (by decide) dG12_facts_4 ?_
  refine s_aload_n X rfl dG12_facts_6 ?_
  refine s_get X (T := TX12) (C := RX12) (N := 45) tu_X12 rfl (by decide) tw_1032 dG12_facts_7 ?_
  refine s_imul X dG12_facts_10 ?_
  refine s_iald X dG12_facts_11 ?_
  exact s_iret X dG12_facts_12

def spr_G12_facts : List qV → qW → (Option qV → Prop) → Prop := fun av w Q => ∃ (mco : Int) (mre : Int) (mle : Int) (mbe : Int) (mso : Int) (mva : Int) (mwo : Int) (mwr : Int) (mlf : Int) (mlp : Int) (mfp : Int) (mfd : Int) (mgo : Int) (mbo : Int) (mpe : Int) (mye : Int) (mpr : Int) (mld : Int) (msi : Int) (mse : Int) (ss : Nat → Int), av = [q2 0] ∧ w = [.inr (12, [q1 mco, q2 2, q2 3, q2 4, q2 5, q2 6, q2 7, q2 8, q2 9, q2 1, q1 mre, q1 mle, q1 mbe, q1 mso, q1 mva, q3 mwo, q1 mwr, q1 mlf, q1 mlp, q2 10, q2 11, q1 mfp, q1 mfd, q1 mgo, q1 mbo, q1 mpe, q1 mye, q2 12, q1 mpr, q2 13, q2 14, q2 15, q2 16, q1 mld, q2 17, q1 msi, q2 18, q2 19, q2 20, q2 21, q2 22, q1 mse, q2 23, q2 24, q2 25]), .inl (0, 168, .inl ss)] ∧ (SI ss) ∧ (0 ≤ msi ∧ msi ≤ 1) ∧ (∀ (r : Int) , (r = ss (21 * msi).toNat ∧ 0 ≤ r ∧ r ≤ 10) → Q (some (q1 r)))
def sp_G12_facts : qS := fun av w Q => spr_G12_facts av w (fun r => Q r w)
set_option maxHeartbeats 4000000 in
set_option maxRecDepth 100000 in
theorem m_G12_facts (l : Launch) : q_M l yX12_facts cX12_facts 1 (some .int) 0 0 sp_G12_facts := by
  refine q_meth (by decide) (fun av w Q h => by obtain ⟨mco, mre, mle, mbe, mso, mva, mwo, mwr, mlf, mlp, mfp, mfd, mgo, mbo, mpe, mye, mpr, mld, msi, mse, ss, rfl, rfl, hsi, hsg, hQ⟩ := h; exact Nat.le_of_ble_eq_true rfl) ?_
  intro p e R s m args below meth c dC dI k g A av w Q hsp oka okw X
  obtain ⟨mco, mre, mle, mbe, mso, mva, mwo, mwr, mlf, mlp, mfp, mfd, mgo, mbo, mpe, mye, mpr, mld, msi, mse, ss, rfl, rfl, hsi, hsg, hQ⟩ := hsp
  refine s_mono (s_G12_facts_0 X (J := fun _ _ _ _ => False) (fun d => s_cutF)) ?_
  rintro lv st w' ⟨rfl, rfl, rfl⟩
  intro z10 h10
  first | replace h10 := e_mul h10 (by omega) | replace h10 := e_rng h10
  apply And.intro
  · exact ⟨by omega, by omega⟩
  intro z11 h11
  exact hQ _ ⟨by rw [h11, h10], SI_0 hsi hsg h11 (by omega)⟩

theorem dG12_factOf_0 : decode cX12_factOf 0 = .ok (.aload_n 0, 1) := by decide +kernel
theorem dG12_factOf_1 : decode cX12_factOf 1 = .ok (.getfield 35, 3) := by decide +kernel
theorem dG12_factOf_4 : decode cX12_factOf 4 = .ok (.bipush 21, 2) := by decide +kernel
theorem dG12_factOf_6 : decode cX12_factOf 6 = .ok (.aload_n 0, 1) := by decide +kernel
theorem dG12_factOf_7 : decode cX12_factOf 7 = .ok (.getfield 456, 3) := by decide +kernel
theorem dG12_factOf_10 : decode cX12_factOf 10 = .ok (.imul, 1) := by decide +kernel
theorem dG12_factOf_11 : decode cX12_factOf 11 = .ok (.iconst 1, 1) := by decide +kernel
theorem dG12_factOf_12 : decode cX12_factOf 12 = .ok (.iadd, 1) := by decide +kernel
theorem dG12_factOf_13 : decode cX12_factOf 13 = .ok (.iconst 2, 1) := by decide +kernel
theorem dG12_factOf_14 : decode cX12_factOf 14 = .ok (.iload_n 1, 1) := by decide +kernel
theorem dG12_factOf_15 : decode cX12_factOf 15 = .ok (.imul, 1) := by decide +kernel
theorem dG12_factOf_16 : decode cX12_factOf 16 = .ok (.iadd, 1) := by decide +kernel
theorem dG12_factOf_17 : decode cX12_factOf 17 = .ok (.iload_n 2, 1) := by decide +kernel
theorem dG12_factOf_18 : decode cX12_factOf 18 = .ok (.iadd, 1) := by decide +kernel
theorem dG12_factOf_19 : decode cX12_factOf 19 = .ok (.iaload, 1) := by decide +kernel
theorem dG12_factOf_20 : decode cX12_factOf 20 = .ok (.ireturn, 1) := by decide +kernel
def is_G12_factOf : Nat → List Nat := fun d => []
set_option maxRecDepth 100000 in
def b_G12_factOf_0 (J : Nat → List qV → List qV → qW → Prop) (Q : qR) : qK := x_aload 0 (x_get 12 9 (x_int 21 (x_aload 0 (x_get 12 35 (x_imul (x_int 1 (x_iadd (x_int 2 (x_iload 1 (x_imul (x_iadd (x_iload 2 (x_iadd (x_iald (x_iret Q)))))))))))))))
set_option maxRecDepth 100000 in
theorem s_G12_factOf_0 {p : Program} {l : Launch} {e : Env} {R : Room} {s : State} {m : MethodId} {args : Array Value} {below : List Frame} {meth : Method} {c : Code} {nW : Nat} {dC : Nat → ClassId} {dI : Nat → Nat → Nat} {k : Nat → ClassId} {g : Nat → Nat} {A : Nat → Prop} {J : Nat → List qV → List qV → qW → Prop} {Q : qR} (X : q_X p R s m args meth c cX12_factOf 3 nW 0 0 RX12 (some .int) dC dI k g A) (hJ : ∀ d : Nat, q_Sd p l e R s m args below meth c 3 nW dC dI k g A (MQ below (q_post (dC, dI) k g nW Q A) args s 0 0 A) d (x_cut (is_G12_factOf d) (J d))) : q_Sd p l e R s m args below meth c 3 nW dC dI k g A (MQ below (q_post (dC, dI) k g nW Q A) args s 0 0 A) 0 (b_G12_factOf_0 J Q) := by
  unfold b_G12_factOf_0
  refine s_aload_n X rfl dG12_factOf_0 ?_
  refine s_get X (T := TX12) (C := RX12) (N := 45) tu_X12 rfl (by decide) tw_1006 dG12_factOf_1 ?_
  refine s_bipush X ⟨by decide, by decide⟩ (by decide) dG12_factOf_4 ?_
  refine s_aload_n X rfl dG12_factOf_6 ?_
  refine s_get X (T := TX12) (C := RX12) (N := 45) tu_X12 rfl (by decide) tw_1032 dG12_factOf_7 ?_
  refine s_imul X dG12_factOf_10 ?_
  refine s_iconst X ⟨by decide, by decide⟩ dG12_factOf_11 ?_
  refine s_iadd X dG12_factOf_12 ?_
  refine s_iconst X ⟨by decide, by decide⟩ dG12_factOf_13 ?_
  refine s_iload_n X rfl dG12_factOf_14 ?_
  refine s_imul X dG12_factOf_15 ?_
  refine s_iadd X dG12_factOf_16 ?_
  refine s_iload_n X rfl dG12_factOf_17 ?_
  refine s_iadd X dG12_factOf_18 ?_
  refine s_iald X dG12_factOf_19 ?_
  exact s_iret X dG12_factOf_20

def spr_G12_factOf : List qV → qW → (Option qV → Prop) → Prop := fun av w Q => ∃ (mco : Int) (mre : Int) (mle : Int) (mbe : Int) (mso : Int) (mva : Int) (mwo : Int) (mwr : Int) (mlf : Int) (mlp : Int) (mfp : Int) (mfd : Int) (mgo : Int) (mbo : Int) (mpe : Int) (mye : Int) (mpr : Int) (mld : Int) (msi : Int) (mse : Int) (ss : Nat → Int) (a : Int) (b : Int), av = [q2 0, q1 a, q1 b] ∧ w = [.inr (12, [q1 mco, q2 2, q2 3, q2 4, q2 5, q2 6, q2 7, q2 8, q2 9, q2 1, q1 mre, q1 mle, q1 mbe, q1 mso, q1 mva, q3 mwo, q1 mwr, q1 mlf, q1 mlp, q2 10, q2 11, q1 mfp, q1 mfd, q1 mgo, q1 mbo, q1 mpe, q1 mye, q2 12, q1 mpr, q2 13, q2 14, q2 15, q2 16, q1 mld, q2 17, q1 msi, q2 18, q2 19, q2 20, q2 21, q2 22, q1 mse, q2 23, q2 24, q2 25]), .inl (0, 168, .inl ss)] ∧ (0 ≤ msi ∧ msi ≤ 1) ∧ (0 ≤ a ∧ a ≤ 9 ∧ 0 ≤ b ∧ b ≤ 1) ∧ (∀ (r : Int) , r = ss (21 * msi + 1 + 2 * a + b).toNat → Q (some (q1 r)))
def sp_G12_factOf : qS := fun av w Q => spr_G12_factOf av w (fun r => Q r w)
set_option maxHeartbeats 4000000 in
set_option maxRecDepth 100000 in
theorem m_G12_factOf (l : Launch) : q_M l yX12_factOf cX12_factOf 3 (some .int) 0 0 sp_G12_factOf := by
  refine q_meth (by decide) (fun av w Q h => by obtain ⟨mco, mre, mle, mbe, mso, mva, mwo, mwr, mlf, mlp, mfp, mfd, mgo, mbo, mpe, mye, mpr, mld, msi, mse, ss, a, b, rfl, rfl, hsg, ha, hQ⟩ := h; exact Nat.le_of_ble_eq_true rfl) ?_
  intro p e R s m args below meth c dC dI k g A av w Q hsp oka okw X
  obtain ⟨mco, mre, mle, mbe, mso, mva, mwo, mwr, mlf, mlp, mfp, mfd, mgo, mbo, mpe, mye, mpr, mld, msi, mse, ss, a, b, rfl, rfl, hsg, ha, hQ⟩ := hsp
  have o_a : -2147483648 ≤ a ∧ a ≤ 2147483647 := oka _ (List.mem_of_getElem? (i := 1) rfl)
  have o_b : -2147483648 ≤ b ∧ b ≤ 2147483647 := oka _ (List.mem_of_getElem? (i := 2) rfl)
  refine s_mono (s_G12_factOf_0 X (J := fun _ _ _ _ => False) (fun d => s_cutF)) ?_
  rintro lv st w' ⟨rfl, rfl, rfl⟩
  intro z10 h10
  first | replace h10 := e_mul h10 (by omega) | replace h10 := e_rng h10
  intro z12 h12
  first | replace h12 := e_add h12 (by omega) | replace h12 := e_rng h12
  intro z15 h15
  first | replace h15 := e_mul h15 (by omega) | replace h15 := e_rng h15
  intro z16 h16
  first | replace h16 := e_add h16 (by omega) | replace h16 := e_rng h16
  intro z18 h18
  first | replace h18 := e_add h18 (by omega) | replace h18 := e_rng h18
  apply And.intro
  · exact ⟨by omega, by omega⟩
  intro z19 h19
  exact hQ _ (by first | assumption | (rw [h19]; congr 2; omega) | (rw [h20]; congr 2; omega) | (rw [h18]; congr 2; omega))

theorem dG12_fact_0 : decode cX12_fact 0 = .ok (.aload_n 0, 1) := by decide +kernel
theorem dG12_fact_1 : decode cX12_fact 1 = .ok (.iconst 0, 1) := by decide +kernel
theorem dG12_fact_2 : decode cX12_fact 2 = .ok (.putfield 88, 3) := by decide +kernel
theorem dG12_fact_5 : decode cX12_fact 5 = .ok (.aload_n 0, 1) := by decide +kernel
theorem dG12_fact_6 : decode cX12_fact 6 = .ok (.iload_n 1, 1) := by decide +kernel
theorem dG12_fact_7 : decode cX12_fact 7 = .ok (.invokevirtual 459, 3) := by decide +kernel
theorem dG12_fact_10 : decode cX12_fact 10 = .ok (.ifCond .ne 6, 3) := by decide +kernel
theorem dG12_fact_13 : decode cX12_fact 13 = .ok (.bipush (-2), 2) := by decide +kernel
theorem dG12_fact_15 : decode cX12_fact 15 = .ok (.ireturn, 1) := by decide +kernel
theorem dG12_fact_16 : decode cX12_fact 16 = .ok (.iload_n 2, 1) := by decide +kernel
theorem dG12_fact_17 : decode cX12_fact 17 = .ok (.iconst (-1), 1) := by decide +kernel
theorem dG12_fact_18 : decode cX12_fact 18 = .ok (.if_icmp .ne 17, 3) := by decide +kernel
theorem dG12_fact_21 : decode cX12_fact 21 = .ok (.iload_n 3, 1) := by decide +kernel
theorem dG12_fact_22 : decode cX12_fact 22 = .ok (.ifCond .ne 10, 3) := by decide +kernel
theorem dG12_fact_25 : decode cX12_fact 25 = .ok (.aload_n 0, 1) := by decide +kernel
theorem dG12_fact_26 : decode cX12_fact 26 = .ok (.invokevirtual 462, 3) := by decide +kernel
theorem dG12_fact_29 : decode cX12_fact 29 = .ok (.goto 5, 3) := by decide +kernel
theorem dG12_fact_32 : decode cX12_fact 32 = .ok (.bipush (-2), 2) := by decide +kernel
theorem dG12_fact_34 : decode cX12_fact 34 = .ok (.ireturn, 1) := by decide +kernel
theorem dG12_fact_35 : decode cX12_fact 35 = .ok (.iload_n 2, 1) := by decide +kernel
theorem dG12_fact_36 : decode cX12_fact 36 = .ok (.iconst 0, 1) := by decide +kernel
theorem dG12_fact_37 : decode cX12_fact 37 = .ok (.aload_n 0, 1) := by decide +kernel
theorem dG12_fact_38 : decode cX12_fact 38 = .ok (.invokevirtual 462, 3) := by decide +kernel
theorem dG12_fact_41 : decode cX12_fact 41 = .ok (.iconst 1, 1) := by decide +kernel
theorem dG12_fact_42 : decode cX12_fact 42 = .ok (.isub, 1) := by decide +kernel
theorem dG12_fact_43 : decode cX12_fact 43 = .ok (.invokestatic 100, 3) := by decide +kernel
theorem dG12_fact_46 : decode cX12_fact 46 = .ok (.ifCond .eq 21, 3) := by decide +kernel
theorem dG12_fact_49 : decode cX12_fact 49 = .ok (.iload_n 3, 1) := by decide +kernel
theorem dG12_fact_50 : decode cX12_fact 50 = .ok (.iconst 0, 1) := by decide +kernel
theorem dG12_fact_51 : decode cX12_fact 51 = .ok (.iconst 1, 1) := by decide +kernel
theorem dG12_fact_52 : decode cX12_fact 52 = .ok (.invokestatic 100, 3) := by decide +kernel
theorem dG12_fact_55 : decode cX12_fact 55 = .ok (.ifCond .eq 12, 3) := by decide +kernel
theorem dG12_fact_58 : decode cX12_fact 58 = .ok (.aload_n 0, 1) := by decide +kernel
theorem dG12_fact_59 : decode cX12_fact 59 = .ok (.iload_n 2, 1) := by decide +kernel
theorem dG12_fact_60 : decode cX12_fact 60 = .ok (.iload_n 3, 1) := by decide +kernel
theorem dG12_fact_61 : decode cX12_fact 61 = .ok (.invokevirtual 465, 3) := by decide +kernel
theorem dG12_fact_64 : decode cX12_fact 64 = .ok (.goto 5, 3) := by decide +kernel
theorem dG12_fact_67 : decode cX12_fact 67 = .ok (.bipush (-2), 2) := by decide +kernel
theorem dG12_fact_69 : decode cX12_fact 69 = .ok (.ireturn, 1) := by decide +kernel
def is_G12_fact : Nat → List Nat := fun d => []
set_option maxRecDepth 100000 in
def b_G12_fact_69 (J : Nat → List qV → List qV → qW → Prop) (Q : qR) : qK := x_iret Q
set_option maxRecDepth 100000 in
theorem s_G12_fact_69 {p : Program} {l : Launch} {e : Env} {R : Room} {s : State} {m : MethodId} {args : Array Value} {below : List Frame} {meth : Method} {c : Code} {nW : Nat} {dC : Nat → ClassId} {dI : Nat → Nat → Nat} {k : Nat → ClassId} {g : Nat → Nat} {A : Nat → Prop} {J : Nat → List qV → List qV → qW → Prop} {Q : qR} (X : q_X p R s m args meth c cX12_fact 4 nW 3 65 RX12 (some .int) dC dI k g A) (hJ : ∀ d : Nat, q_Sd p l e R s m args below meth c 4 nW dC dI k g A (MQ below (q_post (dC, dI) k g nW Q A) args s 0 0 A) d (x_cut (is_G12_fact d) (J d))) : q_Sd p l e R s m args below meth c 4 nW dC dI k g A (MQ below (q_post (dC, dI) k g nW Q A) args s 0 0 A) 69 (b_G12_fact_69 J Q) := by
  unfold b_G12_fact_69
  exact s_iret X dG12_fact_69
set_option maxRecDepth 100000 in
def b_G12_fact_67 (J : Nat → List qV → List qV → qW → Prop) (Q : qR) : qK := x_int (-2) (b_G12_fact_69 J Q)
set_option maxRecDepth 100000 in
theorem s_G12_fact_67 {p : Program} {l : Launch} {e : Env} {R : Room} {s : State} {m : MethodId} {args : Array Value} {below : List Frame} {meth : Method} {c : Code} {nW : Nat} {dC : Nat → ClassId} {dI : Nat → Nat → Nat} {k : Nat → ClassId} {g : Nat → Nat} {A : Nat → Prop} {J : Nat → List qV → List qV → qW → Prop} {Q : qR} (X : q_X p R s m args meth c cX12_fact 4 nW 3 65 RX12 (some .int) dC dI k g A) (hJ : ∀ d : Nat, q_Sd p l e R s m args below meth c 4 nW dC dI k g A (MQ below (q_post (dC, dI) k g nW Q A) args s 0 0 A) d (x_cut (is_G12_fact d) (J d))) : q_Sd p l e R s m args below meth c 4 nW dC dI k g A (MQ below (q_post (dC, dI) k g nW Q A) args s 0 0 A) 67 (b_G12_fact_67 J Q) := by
  unfold b_G12_fact_67
  refine s_bipush X ⟨by decide, by decide⟩ (by decide) dG12_fact_67 ?_
  exact s_G12_fact_69 X hJ
set_option maxRecDepth 100000 in
def b_G12_fact_34 (J : Nat → List qV → List qV → qW → Prop) (Q : qR) : qK := x_iret Q
set_option maxRecDepth 100000 in
theorem s_G12_fact_34 {p : Program} {l : Launch} {e : Env} {R : Room} {s : State} {m : MethodId} {args : Array Value} {below : List Frame} {meth : Method} {c : Code} {nW : Nat} {dC : Nat → ClassId} {dI : Nat → Nat → Nat} {k : Nat → ClassId} {g : Nat → Nat} {A : Nat → Prop} {J : Nat → List qV → List qV → qW → Prop} {Q : qR} (X : q_X p R s m args meth c cX12_fact 4 nW 3 65 RX12 (some .int) dC dI k g A) (hJ : ∀ d : Nat, q_Sd p l e R s m args below meth c 4 nW dC dI k g A (MQ below (q_post (dC, dI) k g nW Q A) args s 0 0 A) d (x_cut (is_G12_fact d) (J d))) : q_Sd p l e R s m args below meth c 4 nW dC dI k g A (MQ below (q_post (dC, dI) k g nW Q A) args s 0 0 A) 34 (b_G12_fact_34 J Q) := by
  unfold b_G12_fact_34
  exact s_iret X dG12_fact_34
set_option maxRecDepth 100000 in
def b_G12_fact_0 (J : Nat → List qV → List qV → qW → Prop) (Q : qR) : qK := x_aload 0 (x_int 0 (x_put 12 0 q_oki (x_nw (x_aload 0 (x_iload 1 (x_call (some 12) 2 sp_G12_hasSight (x_nw (x_if_ne (x_iload 2 (x_int (-1) (x_icmp_ne (x_iload 2 (x_int 0 (x_aload 0 (x_callr (some 12) 1 spr_G12_facts (x_int 1 (x_isub (x_callr none 3 spr_X12_in (x_if_eq (b_G12_fact_67 J Q) (x_iload 3 (x_int 0 (x_int 1 (x_callr none 3 spr_X12_in (x_if_eq (b_G12_fact_67 J Q) (x_aload 0 (x_iload 2 (x_iload 3 (x_callr (some 12) 3 spr_G12_factOf (b_G12_fact_69 J Q)))))))))))))))))) (x_iload 3 (x_if_ne (x_int (-2) (b_G12_fact_34 J Q)) (x_aload 0 (x_callr (some 12) 1 spr_G12_facts (b_G12_fact_34 J Q)))))))) (x_int (-2) (x_iret Q))))))))))
set_option maxRecDepth 100000 in
theorem s_G12_fact_0 {p : Program} {l : Launch} {e : Env} {R : Room} {s : State} {m : MethodId} {args : Array Value} {below : List Frame} {meth : Method} {c : Code} {nW : Nat} {dC : Nat → ClassId} {dI : Nat → Nat → Nat} {k : Nat → ClassId} {g : Nat → Nat} {A : Nat → Prop} {J : Nat → List qV → List qV → qW → Prop} {Q : qR} (X : q_X p R s m args meth c cX12_fact 4 nW 3 65 RX12 (some .int) dC dI k g A) (hJ : ∀ d : Nat, q_Sd p l e R s m args below meth c 4 nW dC dI k g A (MQ below (q_post (dC, dI) k g nW Q A) args s 0 0 A) d (x_cut (is_G12_fact d) (J d))) : q_Sd p l e R s m args below meth c 4 nW dC dI k g A (MQ below (q_post (dC, dI) k g nW Q A) args s 0 0 A) 0 (b_G12_fact_0 J Q) := by
  unfold b_G12_fact_0
  refine s_aload_n X rfl dG12_fact_0 ?_
  refine s_iconst X ⟨by decide, by decide⟩ dG12_fact_1 ?_
  refine s_put X (T := TX12) (C := RX12) (N := 45) tu_X12 tyX12_ok nmX12 rfl (by decide) tw_997 rfl (by decide +kernel) q_oki_t dG12_fact_2 ?_
  refine s_nw ?_
  refine s_aload_n X rfl dG12_fact_5 ?_
  refine s_iload_n X rfl dG12_fact_6 ?_
  refine s_callV X (m_G12_hasSight l) tw_1375 tw_1376 tw_1588 tw_134 tw_1377 rfl (by decide +kernel) ⟨by decide, by decide⟩ dG12_fact_7 ?_
  refine s_nw ?_
  refine s_if_ne X (tgt := 16) dG12_fact_10 (by decide) ?_ ?_
  · refine s_iload_n X rfl dG12_fact_16 ?_
    refine s_iconst X ⟨by decide, by decide⟩ dG12_fact_17 ?_
    refine s_icmp_ne X (tgt := 35) dG12_fact_18 (by decide) ?_ ?_
    · refine s_iload_n X rfl dG12_fact_35 ?_
      refine s_iconst X ⟨by decide, by decide⟩ dG12_fact_36 ?_
      refine s_aload_n X rfl dG12_fact_37 ?_
      refine s_callVr X (m_G12_facts l) tw_1378 tw_1379 tw_1567 tw_134 tw_1380 rfl (by decide +kernel) ⟨by decide, by decide⟩ dG12_fact_38 ?_
      refine s_iconst X ⟨by decide, by decide⟩ dG12_fact_41 ?_
      refine s_isub X dG12_fact_42 ?_
      refine s_callSr X (m_X12_in l) tw_1054 tw_1055 tw_134 tw_1056 (by decide +kernel) ⟨by decide, by decide⟩ dG12_fact_43 ?_
      refine s_if_eq X (tgt := 67) dG12_fact_46 (by decide) ?_ ?_
      · exact s_G12_fact_67 X hJ
      · refine s_iload_n X rfl dG12_fact_49 ?_
        refine s_iconst X ⟨by decide, by decide⟩ dG12_fact_50 ?_
        refine s_iconst X ⟨by decide, by decide⟩ dG12_fact_51 ?_
        refine s_callSr X (m_X12_in l) tw_1054 tw_1055 tw_134 tw_1056 (by decide +kernel) ⟨by decide, by decide⟩ dG12_fact_52 ?_
        refine s_if_eq X (tgt := 67) dG12_fact_55 (by decide) ?_ ?_
        · exact s_G12_fact_67 X hJ
        · refine s_aload_n X rfl dG12_fact_58 ?_
          refine s_iload_n X rfl dG12_fact_59 ?_
          refine s_iload_n X rfl dG12_fact_60 ?_
          refine s_callVr X (m_G12_factOf l) tw_1381 tw_1382 tw_1566 tw_134 tw_1383 rfl (by decide +kernel) ⟨by decide, by decide⟩ dG12_fact_61 ?_
          refine s_goto X (tgt := 69) dG12_fact_64 (by decide) ?_
          exact s_G12_fact_69 X hJ
    · refine s_iload_n X rfl dG12_fact_21 ?_
      refine s_if_ne X (tgt := 32) dG12_fact_22 (by decide) ?_ ?_
      · refine s_bipush X ⟨by decide, by decide⟩ (by decide) dG12_fact_32 ?_
        exact s_G12_fact_34 X hJ
      · refine s_aload_n X rfl dG12_fact_25 ?_
        refine s_callVr X (m_G12_facts l) tw_1378 tw_1379 tw_1567 tw_134 tw_1380 rfl (by decide +kernel) ⟨by decide, by decide⟩ dG12_fact_26 ?_
        refine s_goto X (tgt := 34) dG12_fact_29 (by decide) ?_
        exact s_G12_fact_34 X hJ
  · refine s_bipush X ⟨by decide, by decide⟩ (by decide) dG12_fact_13 ?_
    exact s_iret X dG12_fact_15

def sp_G12_fact : qS := fun av w Q => ∃ (mco : Int) (mre : Int) (mle : Int) (mbe : Int) (mso : Int) (mva : Int) (mwo : Int) (mwr : Int) (mlf : Int) (mlp : Int) (mfp : Int) (mfd : Int) (mgo : Int) (mbo : Int) (mpe : Int) (mye : Int) (mpr : Int) (mld : Int) (msi : Int) (mse : Int) (mn : Nat → Int) (ss : Nat → Int) (a : Int) (b : Int) (cc : Int), av = [q2 0, q1 a, q1 b, q1 cc] ∧ w = [.inr (12, [q1 mco, q2 3, q2 4, q2 5, q2 6, q2 1, q2 7, q2 8, q2 9, q2 2, q1 mre, q1 mle, q1 mbe, q1 mso, q1 mva, q3 mwo, q1 mwr, q1 mlf, q1 mlp, q2 10, q2 11, q1 mfp, q1 mfd, q1 mgo, q1 mbo, q1 mpe, q1 mye, q2 12, q1 mpr, q2 13, q2 14, q2 15, q2 16, q1 mld, q2 17, q1 msi, q2 18, q2 19, q2 20, q2 21, q2 22, q1 mse, q2 23, q2 24, q2 25]), .inl (0, 16, .inl mn), .inl (0, 168, .inl ss)] ∧ (q_rg 0 2 mn) ∧ (SI ss) ∧ (∀ (r : Int) (x_mco : Int) (x_msi : Int), ((0 ≤ a ∧ a < mn (3 : Int).toNat) ∧ FtD (rwD ss (21 * a).toNat) b cc r ∨ (¬ (0 ≤ a ∧ a < mn (3 : Int).toNat)) ∧ r = -2) → Q (some (q1 r)) ([.inr (12, [q1 x_mco, q2 3, q2 4, q2 5, q2 6, q2 1, q2 7, q2 8, q2 9, q2 2, q1 mre, q1 mle, q1 mbe, q1 mso, q1 mva, q3 mwo, q1 mwr, q1 mlf, q1 mlp, q2 10, q2 11, q1 mfp, q1 mfd, q1 mgo, q1 mbo, q1 mpe, q1 mye, q2 12, q1 mpr, q2 13, q2 14, q2 15, q2 16, q1 mld, q2 17, q1 x_msi, q2 18, q2 19, q2 20, q2 21, q2 22, q1 mse, q2 23, q2 24, q2 25]), .inl (0, 16, .inl mn), .inl (0, 168, .inl ss)]))
set_option maxHeartbeats 4000000 in
set_option maxRecDepth 100000 in
theorem m_G12_fact (l : Launch) : q_M l yX12_fact cX12_fact 4 (some .int) 3 65 sp_G12_fact := by
  refine q_meth (by decide) (fun av w Q h => by obtain ⟨mco, mre, mle, mbe, mso, mva, mwo, mwr, mlf, mlp, mfp, mfd, mgo, mbo, mpe, mye, mpr, mld, msi, mse, mn, ss, a, b, cc, rfl, rfl, hmn, hsi, hQ⟩ := h; exact Nat.le_of_ble_eq_true rfl) ?_
  intro p e R s m args below meth c dC dI k g A av w Q hsp oka okw X
  obtain ⟨mco, mre, mle, mbe, mso, mva, mwo, mwr, mlf, mlp, mfp, mfd, mgo, mbo, mpe, mye, mpr, mld, msi, mse, mn, ss, a, b, cc, rfl, rfl, hmn, hsi, hQ⟩ := hsp
  have o_a : -2147483648 ≤ a ∧ a ≤ 2147483647 := oka _ (List.mem_of_getElem? (i := 1) rfl)
  have o_b : -2147483648 ≤ b ∧ b ≤ 2147483647 := oka _ (List.mem_of_getElem? (i := 2) rfl)
  have o_cc : -2147483648 ≤ cc ∧ cc ≤ 2147483647 := oka _ (List.mem_of_getElem? (i := 3) rfl)
  refine s_mono (s_G12_fact_0 X (J := fun _ _ _ _ => False) (fun d => s_cutF)) ?_
  rintro lv st w' ⟨rfl, rfl, rfl⟩
  apply And.intro
  · exact trivial
  refine Exists.intro [0, 1, 3, 4, 5, 6, 7, 8, 9, 2, 10, 11, 12, 13, 14, 15, 16, 17, 18, 19, 20, 21, 22, 23, 24, 25] (Exists.intro [q2 0, q1 _] (Exists.intro ([.inr (12, [q1 _, q2 2, q2 3, q2 4, q2 5, q2 1, q2 6, q2 7, q2 8, q2 9, q1 _, q1 _, q1 _, q1 _, q1 _, q3 _, q1 _, q1 _, q1 _, q2 10, q2 11, q1 _, q1 _, q1 _, q1 _, q1 _, q1 _, q2 12, q1 _, q2 13, q2 14, q2 15, q2 16, q1 _, q2 17, q1 _, q2 18, q2 19, q2 20, q2 21, q2 22, q1 _, q2 23, q2 24, q2 25]), .inl (0, 16, .inl _)]) (And.intro rfl (And.intro rfl (And.intro rfl (And.intro ⟨⟨_, rfl⟩, rfl⟩ ?_))))))
  refine Exists.intro _ (Exists.intro _ (Exists.intro _ (Exists.intro _ (Exists.intro _ (Exists.intro _ (Exists.intro _ (Exists.intro _ (Exists.intro _ (Exists.intro _ (Exists.intro _ (Exists.intro _ (Exists.intro _ (Exists.intro _ (Exists.intro _ (Exists.intro _ (Exists.intro _ (Exists.intro _ (Exists.intro _ (Exists.intro _ (Exists.intro _ (Exists.intro _ (And.intro rfl (And.intro rfl (And.intro (by first | omega | assumption | exact q_rg_up (by assumption) (by omega) | exact q_rg_up (q_rg_up (by assumption) (by omega)) (by omega) | exact q_rg_cpy (by assumption) (by assumption)) (?_)))))))))))))))))))))))))
  intro z7 x_msi_7 h7
  apply And.intro
  · intro h10
    first | replace h7 := dj1 h7 h10 | replace h7 := dj0 h7 h10
    apply And.intro
    · intro h18
      refine Exists.intro [0, 2, 3, 4, 5, 6, 1, 7, 8, 9, 10, 11, 12, 13, 14, 15, 16, 17, 18, 19, 20, 21, 22, 23, 24, 25] (Exists.intro [q2 0] (Exists.intro ([.inr (12, [q1 _, q2 2, q2 3, q2 4, q2 5, q2 6, q2 7, q2 8, q2 9, q2 1, q1 _, q1 _, q1 _, q1 _, q1 _, q3 _, q1 _, q1 _, q1 _, q2 10, q2 11, q1 _, q1 _, q1 _, q1 _, q1 _, q1 _, q2 12, q1 _, q2 13, q2 14, q2 15, q2 16, q1 _, q2 17, q1 _, q2 18, q2 19, q2 20, q2 21, q2 22, q1 _, q2 23, q2 24, q2 25]), .inl (0, 168, .inl _)]) (And.intro rfl (And.intro rfl (And.intro rfl (And.intro ⟨⟨_, rfl⟩, rfl⟩ ?_))))))
      refine Exists.intro _ (Exists.intro _ (Exists.intro _ (Exists.intro _ (Exists.intro _ (Exists.intro _ (Exists.intro _ (Exists.intro _ (Exists.intro _ (Exists.intro _ (Exists.intro _ (Exists.intro _ (Exists.intro _ (Exists.intro _ (Exists.intro _ (Exists.intro _ (Exists.intro _ (Exists.intro _ (Exists.intro _ (Exists.intro _ (Exists.intro _ (And.intro rfl (And.intro rfl (And.intro (by first | omega | assumption | exact q_rg_up (by assumption) (by omega) | exact q_rg_up (q_rg_up (by assumption) (by omega)) (by omega) | exact q_rg_cpy (by assumption) (by assumption)) (And.intro (by first | omega | assumption | exact q_rg_up (by assumption) (by omega) | exact q_rg_up (q_rg_up (by assumption) (by omega)) (by omega) | exact q_rg_cpy (by assumption) (by assumption)) (?_)))))))))))))))))))))))))
      intro z38 h38
      intro z42 h42
      first | replace h42 := e_sub h42 (by omega) | replace h42 := e_rng h42
      refine Exists.intro [] (Exists.intro [q1 _, q1 _, q1 _] (Exists.intro [] (And.intro rfl (And.intro rfl (And.intro rfl (And.intro trivial ?_))))))
      refine Exists.intro _ (Exists.intro _ (Exists.intro _ (And.intro rfl (And.intro rfl (?_)))))
      intro z43 h43
      apply And.intro
      · intro h46
        first | replace h43 := dj1 h43 h46 | replace h43 := dj0 h43 h46
        exact hQ _ _ _ (by first | exact Or.inr ⟨h7, rfl⟩ | exact Or.inl ⟨⟨h7.2.1.1, h7.2.1.2⟩, Ft_0 (Rw_1 h26.1 h7.1 (by omega)) (by omega) (by omega)⟩ | exact Or.inl ⟨⟨h7.2.1.1, h7.2.1.2⟩, Ft_1 (by omega) (by omega)⟩ | exact Or.inl ⟨⟨h7.2.1.1, h7.2.1.2⟩, Ft_2 h61 h7.1 (by omega) (Rw_1 h38.1 h7.1 (by omega)) (by omega) (by omega)⟩ | exact Or.inl ⟨⟨h7.2.1.1, h7.2.1.2⟩, Ft_3 (Rw_1 h38.1 h7.1 (by omega)) (by omega) (by omega)⟩)
      · intro h46
        first | replace h43 := dj1 h43 h46 | replace h43 := dj0 h43 h46
        refine Exists.intro [] (Exists.intro [q1 _, q1 _, q1 _] (Exists.intro [] (And.intro rfl (And.intro rfl (And.intro rfl (And.intro trivial ?_))))))
        refine Exists.intro _ (Exists.intro _ (Exists.intro _ (And.intro rfl (And.intro rfl (?_)))))
        intro z52 h52
        apply And.intro
        · intro h55
          first | replace h52 := dj1 h52 h55 | replace h52 := dj0 h52 h55
          exact hQ _ _ _ (by first | exact Or.inr ⟨h7, rfl⟩ | exact Or.inl ⟨⟨h7.2.1.1, h7.2.1.2⟩, Ft_0 (Rw_1 h26.1 h7.1 (by omega)) (by omega) (by omega)⟩ | exact Or.inl ⟨⟨h7.2.1.1, h7.2.1.2⟩, Ft_1 (by omega) (by omega)⟩ | exact Or.inl ⟨⟨h7.2.1.1, h7.2.1.2⟩, Ft_2 h61 h7.1 (by omega) (Rw_1 h38.1 h7.1 (by omega)) (by omega) (by omega)⟩ | exact Or.inl ⟨⟨h7.2.1.1, h7.2.1.2⟩, Ft_3 (Rw_1 h38.1 h7.1 (by omega)) (by omega) (by omega)⟩)
        · intro h55
          first | replace h52 := dj1 h52 h55 | replace h52 := dj0 h52 h55
          refine Exists.intro [0, 2, 3, 4, 5, 6, 1, 7, 8, 9, 10, 11, 12, 13, 14, 15, 16, 17, 18, 19, 20, 21, 22, 23, 24, 25] (Exists.intro [q2 0, q1 _, q1 _] (Exists.intro ([.inr (12, [q1 _, q2 2, q2 3, q2 4, q2 5, q2 6, q2 7, q2 8, q2 9, q2 1, q1 _, q1 _, q1 _, q1 _, q1 _, q3 _, q1 _, q1 _, q1 _, q2 10, q2 11, q1 _, q1 _, q1 _, q1 _, q1 _, q1 _, q2 12, q1 _, q2 13, q2 14, q2 15, q2 16, q1 _, q2 17, q1 _, q2 18, q2 19, q2 20, q2 21, q2 22, q1 _, q2 23, q2 24, q2 25]), .inl (0, 168, .inl _)]) (And.intro rfl (And.intro rfl (And.intro rfl (And.intro ⟨⟨_, rfl⟩, rfl⟩ ?_))))))
          refine Exists.intro _ (Exists.intro _ (Exists.intro _ (Exists.intro _ (Exists.intro _ (Exists.intro _ (Exists.intro _ (Exists.intro _ (Exists.intro _ (Exists.intro _ (Exists.intro _ (Exists.intro _ (Exists.intro _ (Exists.intro _ (Exists.intro _ (Exists.intro _ (Exists.intro _ (Exists.intro _ (Exists.intro _ (Exists.intro _ (Exists.intro _ (Exists.intro _ (Exists.intro _ (And.intro rfl (And.intro rfl (And.intro (by first | omega | assumption | exact q_rg_up (by assumption) (by omega) | exact q_rg_up (q_rg_up (by assumption) (by omega)) (by omega) | exact q_rg_cpy (by assumption) (by assumption)) (And.intro (by first | omega | assumption | exact q_rg_up (by assumption) (by omega) | exact q_rg_up (q_rg_up (by assumption) (by omega)) (by omega) | exact q_rg_cpy (by assumption) (by assumption)) (?_)))))))))))))))))))))))))))
          intro z61 h61
          exact hQ _ _ _ (by first | exact Or.inr ⟨h7, rfl⟩ | exact Or.inl ⟨⟨h7.2.1.1, h7.2.1.2⟩, Ft_0 (Rw_1 h26.1 h7.1 (by omega)) (by omega) (by omega)⟩ | exact Or.inl ⟨⟨h7.2.1.1, h7.2.1.2⟩, Ft_1 (by omega) (by omega)⟩ | exact Or.inl ⟨⟨h7.2.1.1, h7.2.1.2⟩, Ft_2 h61 h7.1 (by omega) (Rw_1 h38.1 h7.1 (by omega)) (by omega) (by omega)⟩ | exact Or.inl ⟨⟨h7.2.1.1, h7.2.1.2⟩, Ft_3 (Rw_1 h38.1 h7.1 (by omega)) (by omega) (by omega)⟩)
    · intro h18
      apply And.intro
      · intro h22
        exact hQ _ _ _ (by first | exact Or.inr ⟨h7, rfl⟩ | exact Or.inl ⟨⟨h7.2.1.1, h7.2.1.2⟩, Ft_0 (Rw_1 h26.1 h7.1 (by omega)) (by omega) (by omega)⟩ | exact Or.inl ⟨⟨h7.2.1.1, h7.2.1.2⟩, Ft_1 (by omega) (by omega)⟩ | exact Or.inl ⟨⟨h7.2.1.1, h7.2.1.2⟩, Ft_2 h61 h7.1 (by omega) (Rw_1 h38.1 h7.1 (by omega)) (by omega) (by omega)⟩ | exact Or.inl ⟨⟨h7.2.1.1, h7.2.1.2⟩, Ft_3 (Rw_1 h38.1 h7.1 (by omega)) (by omega) (by omega)⟩)
      · intro h22
        refine Exists.intro [0, 2, 3, 4, 5, 6, 1, 7, 8, 9, 10, 11, 12, 13, 14, 15, 16, 17, 18, 19, 20, 21, 22, 23, 24, 25] (Exists.intro [q2 0] (Exists.intro ([.inr (12, [q1 _, q2 2, q2 3, q2 4, q2 5, q2 6, q2 7, q2 8, q2 9, q2 1, q1 _, q1 _, q1 _, q1 _, q1 _, q3 _, q1 _, q1 _, q1 _, q2 10, q2 11, q1 _, q1 _, q1 _, q1 _, q1 _, q1 _, q2 12, q1 _, q2 13, q2 14, q2 15, q2 16, q1 _, q2 17, q1 _, q2 18, q2 19, q2 20, q2 21, q2 22, q1 _, q2 23, q2 24, q2 25]), .inl (0, 168, .inl _)]) (And.intro rfl (And.intro rfl (And.intro rfl (And.intro ⟨⟨_, rfl⟩, rfl⟩ ?_))))))
        refine Exists.intro _ (Exists.intro _ (Exists.intro _ (Exists.intro _ (Exists.intro _ (Exists.intro _ (Exists.intro _ (Exists.intro _ (Exists.intro _ (Exists.intro _ (Exists.intro _ (Exists.intro _ (Exists.intro _ (Exists.intro _ (Exists.intro _ (Exists.intro _ (Exists.intro _ (Exists.intro _ (Exists.intro _ (Exists.intro _ (Exists.intro _ (And.intro rfl (And.intro rfl (And.intro (by first | omega | assumption | exact q_rg_up (by assumption) (by omega) | exact q_rg_up (q_rg_up (by assumption) (by omega)) (by omega) | exact q_rg_cpy (by assumption) (by assumption)) (And.intro (by first | omega | assumption | exact q_rg_up (by assumption) (by omega) | exact q_rg_up (q_rg_up (by assumption) (by omega)) (by omega) | exact q_rg_cpy (by assumption) (by assumption)) (?_)))))))))))))))))))))))))
        intro z26 h26
        exact hQ _ _ _ (by first | exact Or.inr ⟨h7, rfl⟩ | exact Or.inl ⟨⟨h7.2.1.1, h7.2.1.2⟩, Ft_0 (Rw_1 h26.1 h7.1 (by omega)) (by omega) (by omega)⟩ | exact Or.inl ⟨⟨h7.2.1.1, h7.2.1.2⟩, Ft_1 (by omega) (by omega)⟩ | exact Or.inl ⟨⟨h7.2.1.1, h7.2.1.2⟩, Ft_2 h61 h7.1 (by omega) (Rw_1 h38.1 h7.1 (by omega)) (by omega) (by omega)⟩ | exact Or.inl ⟨⟨h7.2.1.1, h7.2.1.2⟩, Ft_3 (Rw_1 h38.1 h7.1 (by omega)) (by omega) (by omega)⟩)
  · intro h10
    first | replace h7 := dj1 h7 h10 | replace h7 := dj0 h7 h10
    exact hQ _ _ _ (by first | exact Or.inr ⟨h7, rfl⟩ | exact Or.inl ⟨⟨h7.2.1.1, h7.2.1.2⟩, Ft_0 (Rw_1 h26.1 h7.1 (by omega)) (by omega) (by omega)⟩ | exact Or.inl ⟨⟨h7.2.1.1, h7.2.1.2⟩, Ft_1 (by omega) (by omega)⟩ | exact Or.inl ⟨⟨h7.2.1.1, h7.2.1.2⟩, Ft_2 h61 h7.1 (by omega) (Rw_1 h38.1 h7.1 (by omega)) (by omega) (by omega)⟩ | exact Or.inl ⟨⟨h7.2.1.1, h7.2.1.2⟩, Ft_3 (Rw_1 h38.1 h7.1 (by omega)) (by omega) (by omega)⟩)

theorem dG12_deed_0 : decode cX12_deed 0 = .ok (.aload_n 0, 1) := by decide +kernel
theorem dG12_deed_1 : decode cX12_deed 1 = .ok (.iconst 0, 1) := by decide +kernel
theorem dG12_deed_2 : decode cX12_deed 2 = .ok (.putfield 88, 3) := by decide +kernel
theorem dG12_deed_5 : decode cX12_deed 5 = .ok (.aload_n 0, 1) := by decide +kernel
theorem dG12_deed_6 : decode cX12_deed 6 = .ok (.iload_n 1, 1) := by decide +kernel
theorem dG12_deed_7 : decode cX12_deed 7 = .ok (.invokevirtual 315, 3) := by decide +kernel
theorem dG12_deed_10 : decode cX12_deed 10 = .ok (.ifCond .ne 6, 3) := by decide +kernel
theorem dG12_deed_13 : decode cX12_deed 13 = .ok (.bipush (-2), 2) := by decide +kernel
theorem dG12_deed_15 : decode cX12_deed 15 = .ok (.ireturn, 1) := by decide +kernel
theorem dG12_deed_16 : decode cX12_deed 16 = .ok (.iload_n 2, 1) := by decide +kernel
theorem dG12_deed_17 : decode cX12_deed 17 = .ok (.iconst (-1), 1) := by decide +kernel
theorem dG12_deed_18 : decode cX12_deed 18 = .ok (.if_icmp .ne 17, 3) := by decide +kernel
theorem dG12_deed_21 : decode cX12_deed 21 = .ok (.iload_n 3, 1) := by decide +kernel
theorem dG12_deed_22 : decode cX12_deed 22 = .ok (.ifCond .ne 10, 3) := by decide +kernel
theorem dG12_deed_25 : decode cX12_deed 25 = .ok (.aload_n 0, 1) := by decide +kernel
theorem dG12_deed_26 : decode cX12_deed 26 = .ok (.invokevirtual 318, 3) := by decide +kernel
theorem dG12_deed_29 : decode cX12_deed 29 = .ok (.goto 5, 3) := by decide +kernel
theorem dG12_deed_32 : decode cX12_deed 32 = .ok (.bipush (-2), 2) := by decide +kernel
theorem dG12_deed_34 : decode cX12_deed 34 = .ok (.ireturn, 1) := by decide +kernel
theorem dG12_deed_35 : decode cX12_deed 35 = .ok (.iload_n 2, 1) := by decide +kernel
theorem dG12_deed_36 : decode cX12_deed 36 = .ok (.iconst 0, 1) := by decide +kernel
theorem dG12_deed_37 : decode cX12_deed 37 = .ok (.aload_n 0, 1) := by decide +kernel
theorem dG12_deed_38 : decode cX12_deed 38 = .ok (.invokevirtual 318, 3) := by decide +kernel
theorem dG12_deed_41 : decode cX12_deed 41 = .ok (.iconst 1, 1) := by decide +kernel
theorem dG12_deed_42 : decode cX12_deed 42 = .ok (.isub, 1) := by decide +kernel
theorem dG12_deed_43 : decode cX12_deed 43 = .ok (.invokestatic 100, 3) := by decide +kernel
theorem dG12_deed_46 : decode cX12_deed 46 = .ok (.ifCond .eq 21, 3) := by decide +kernel
theorem dG12_deed_49 : decode cX12_deed 49 = .ok (.iload_n 3, 1) := by decide +kernel
theorem dG12_deed_50 : decode cX12_deed 50 = .ok (.iconst 0, 1) := by decide +kernel
theorem dG12_deed_51 : decode cX12_deed 51 = .ok (.iconst 3, 1) := by decide +kernel
theorem dG12_deed_52 : decode cX12_deed 52 = .ok (.invokestatic 100, 3) := by decide +kernel
theorem dG12_deed_55 : decode cX12_deed 55 = .ok (.ifCond .eq 12, 3) := by decide +kernel
theorem dG12_deed_58 : decode cX12_deed 58 = .ok (.aload_n 0, 1) := by decide +kernel
theorem dG12_deed_59 : decode cX12_deed 59 = .ok (.iload_n 2, 1) := by decide +kernel
theorem dG12_deed_60 : decode cX12_deed 60 = .ok (.iload_n 3, 1) := by decide +kernel
theorem dG12_deed_61 : decode cX12_deed 61 = .ok (.invokevirtual 321, 3) := by decide +kernel
theorem dG12_deed_64 : decode cX12_deed 64 = .ok (.goto 5, 3) := by decide +kernel
theorem dG12_deed_67 : decode cX12_deed 67 = .ok (.bipush (-2), 2) := by decide +kernel
theorem dG12_deed_69 : decode cX12_deed 69 = .ok (.ireturn, 1) := by decide +kernel
def is_G12_deed : Nat → List Nat := fun d => []
set_option maxRecDepth 100000 in
def b_G12_deed_69 (J : Nat → List qV → List qV → qW → Prop) (Q : qR) : qK := x_iret Q
set_option maxRecDepth 100000 in
theorem s_G12_deed_69 {p : Program} {l : Launch} {e : Env} {R : Room} {s : State} {m : MethodId} {args : Array Value} {below : List Frame} {meth : Method} {c : Code} {nW : Nat} {dC : Nat → ClassId} {dI : Nat → Nat → Nat} {k : Nat → ClassId} {g : Nat → Nat} {A : Nat → Prop} {J : Nat → List qV → List qV → qW → Prop} {Q : qR} (X : q_X p R s m args meth c cX12_deed 4 nW 3 65 RX12 (some .int) dC dI k g A) (hJ : ∀ d : Nat, q_Sd p l e R s m args below meth c 4 nW dC dI k g A (MQ below (q_post (dC, dI) k g nW Q A) args s 0 0 A) d (x_cut (is_G12_deed d) (J d))) : q_Sd p l e R s m args below meth c 4 nW dC dI k g A (MQ below (q_post (dC, dI) k g nW Q A) args s 0 0 A) 69 (b_G12_deed_69 J Q) := by
  unfold b_G12_deed_69
  exact s_iret X dG12_deed_69
set_option maxRecDepth 100000 in
def b_G12_deed_67 (J : Nat → List qV → List qV → qW → Prop) (Q : qR) : qK := x_int (-2) (b_G12_deed_69 J Q)
set_option maxRecDepth 100000 in
theorem s_G12_deed_67 {p : Program} {l : Launch} {e : Env} {R : Room} {s : State} {m : MethodId} {args : Array Value} {below : List Frame} {meth : Method} {c : Code} {nW : Nat} {dC : Nat → ClassId} {dI : Nat → Nat → Nat} {k : Nat → ClassId} {g : Nat → Nat} {A : Nat → Prop} {J : Nat → List qV → List qV → qW → Prop} {Q : qR} (X : q_X p R s m args meth c cX12_deed 4 nW 3 65 RX12 (some .int) dC dI k g A) (hJ : ∀ d : Nat, q_Sd p l e R s m args below meth c 4 nW dC dI k g A (MQ below (q_post (dC, dI) k g nW Q A) args s 0 0 A) d (x_cut (is_G12_deed d) (J d))) : q_Sd p l e R s m args below meth c 4 nW dC dI k g A (MQ below (q_post (dC, dI) k g nW Q A) args s 0 0 A) 67 (b_G12_deed_67 J Q) := by
  unfold b_G12_deed_67
  refine s_bipush X ⟨by decide, by decide⟩ (by decide) dG12_deed_67 ?_
  exact s_G12_deed_69 X hJ
set_option maxRecDepth 100000 in
def b_G12_deed_34 (J : Nat → List qV → List qV → qW → Prop) (Q : qR) : qK := x_iret Q
set_option maxRecDepth 100000 in
theorem s_G12_deed_34 {p : Program} {l : Launch} {e : Env} {R : Room} {s : State} {m : MethodId} {args : Array Value} {below : List Frame} {meth : Method} {c : Code} {nW : Nat} {dC : Nat → ClassId} {dI : Nat → Nat → Nat} {k : Nat → ClassId} {g : Nat → Nat} {A : Nat → Prop} {J : Nat → List qV → List qV → qW → Prop} {Q : qR} (X : q_X p R s m args meth c cX12_deed 4 nW 3 65 RX12 (some .int) dC dI k g A) (hJ : ∀ d : Nat, q_Sd p l e R s m args below meth c 4 nW dC dI k g A (MQ below (q_post (dC, dI) k g nW Q A) args s 0 0 A) d (x_cut (is_G12_deed d) (J d))) : q_Sd p l e R s m args below meth c 4 nW dC dI k g A (MQ below (q_post (dC, dI) k g nW Q A) args s 0 0 A) 34 (b_G12_deed_34 J Q) := by
  unfold b_G12_deed_34
  exact s_iret X dG12_deed_34
set_option maxRecDepth 100000 in
def b_G12_deed_0 (J : Nat → List qV → List qV → qW → Prop) (Q : qR) : qK := x_aload 0 (x_int 0 (x_put 12 0 q_oki (x_nw (x_aload 0 (x_iload 1 (x_call (some 12) 2 sp_G12_hasYear (x_nw (x_if_ne (x_iload 2 (x_int (-1) (x_icmp_ne (x_iload 2 (x_int 0 (x_aload 0 (x_callr (some 12) 1 spr_G12_deeds (x_int 1 (x_isub (x_callr none 3 spr_X12_in (x_if_eq (b_G12_deed_67 J Q) (x_iload 3 (x_int 0 (x_int 3 (x_callr none 3 spr_X12_in (x_if_eq (b_G12_deed_67 J Q) (x_aload 0 (x_iload 2 (x_iload 3 (x_callr (some 12) 3 spr_X12_deedOf (b_G12_deed_69 J Q)))))))))))))))))) (x_iload 3 (x_if_ne (x_int (-2) (b_G12_deed_34 J Q)) (x_aload 0 (x_callr (some 12) 1 spr_G12_deeds (b_G12_deed_34 J Q)))))))) (x_int (-2) (x_iret Q))))))))))
set_option maxRecDepth 100000 in
theorem s_G12_deed_0 {p : Program} {l : Launch} {e : Env} {R : Room} {s : State} {m : MethodId} {args : Array Value} {below : List Frame} {meth : Method} {c : Code} {nW : Nat} {dC : Nat → ClassId} {dI : Nat → Nat → Nat} {k : Nat → ClassId} {g : Nat → Nat} {A : Nat → Prop} {J : Nat → List qV → List qV → qW → Prop} {Q : qR} (X : q_X p R s m args meth c cX12_deed 4 nW 3 65 RX12 (some .int) dC dI k g A) (hJ : ∀ d : Nat, q_Sd p l e R s m args below meth c 4 nW dC dI k g A (MQ below (q_post (dC, dI) k g nW Q A) args s 0 0 A) d (x_cut (is_G12_deed d) (J d))) : q_Sd p l e R s m args below meth c 4 nW dC dI k g A (MQ below (q_post (dC, dI) k g nW Q A) args s 0 0 A) 0 (b_G12_deed_0 J Q) := by
  unfold b_G12_deed_0
  refine s_aload_n X rfl dG12_deed_0 ?_
  refine s_iconst X ⟨by decide, by decide⟩ dG12_deed_1 ?_
  refine s_put X (T := TX12) (C := RX12) (N := 45) tu_X12 tyX12_ok nmX12 rfl (by decide) tw_997 rfl (by decide +kernel) q_oki_t dG12_deed_2 ?_
  refine s_nw ?_
  refine s_aload_n X rfl dG12_deed_5 ?_
  refine s_iload_n X rfl dG12_deed_6 ?_
  refine s_callV X (m_G12_hasYear l) tw_1199 tw_1200 tw_1589 tw_134 tw_1201 rfl (by decide +kernel) ⟨by decide, by decide⟩ dG12_deed_7 ?_
  refine s_nw ?_
  refine s_if_ne X (tgt := 16) dG12_deed_10 (by decide) ?_ ?_
  · refine s_iload_n X rfl dG12_deed_16 ?_
    refine s_iconst X ⟨by decide, by decide⟩ dG12_deed_17 ?_
    refine s_icmp_ne X (tgt := 35) dG12_deed_18 (by decide) ?_ ?_
    · refine s_iload_n X rfl dG12_deed_35 ?_
      refine s_iconst X ⟨by decide, by decide⟩ dG12_deed_36 ?_
      refine s_aload_n X rfl dG12_deed_37 ?_
      refine s_callVr X (m_G12_deeds l) tw_1202 tw_1203 tw_1559 tw_134 tw_1204 rfl (by decide +kernel) ⟨by decide, by decide⟩ dG12_deed_38 ?_
      refine s_iconst X ⟨by decide, by decide⟩ dG12_deed_41 ?_
      refine s_isub X dG12_deed_42 ?_
      refine s_callSr X (m_X12_in l) tw_1054 tw_1055 tw_134 tw_1056 (by decide +kernel) ⟨by decide, by decide⟩ dG12_deed_43 ?_
      refine s_if_eq X (tgt := 67) dG12_deed_46 (by decide) ?_ ?_
      · exact s_G12_deed_67 X hJ
      · refine s_iload_n X rfl dG12_deed_49 ?_
        refine s_iconst X ⟨by decide, by decide⟩ dG12_deed_50 ?_
        refine s_iconst X ⟨by decide, by decide⟩ dG12_deed_51 ?_
        refine s_callSr X (m_X12_in l) tw_1054 tw_1055 tw_134 tw_1056 (by decide +kernel) ⟨by decide, by decide⟩ dG12_deed_52 ?_
        refine s_if_eq X (tgt := 67) dG12_deed_55 (by decide) ?_ ?_
        · exact s_G12_deed_67 X hJ
        · refine s_aload_n X rfl dG12_deed_58 ?_
          refine s_iload_n X rfl dG12_deed_59 ?_
          refine s_iload_n X rfl dG12_deed_60 ?_
          refine s_callVr X (m_X12_deedOf l) tw_1205 tw_1206 tw_1558 tw_134 tw_1207 rfl (by decide +kernel) ⟨by decide, by decide⟩ dG12_deed_61 ?_
          refine s_goto X (tgt := 69) dG12_deed_64 (by decide) ?_
          exact s_G12_deed_69 X hJ
    · refine s_iload_n X rfl dG12_deed_21 ?_
      refine s_if_ne X (tgt := 32) dG12_deed_22 (by decide) ?_ ?_
      · refine s_bipush X ⟨by decide, by decide⟩ (by decide) dG12_deed_32 ?_
        exact s_G12_deed_34 X hJ
      · refine s_aload_n X rfl dG12_deed_25 ?_
        refine s_callVr X (m_G12_deeds l) tw_1202 tw_1203 tw_1559 tw_134 tw_1204 rfl (by decide +kernel) ⟨by decide, by decide⟩ dG12_deed_26 ?_
        refine s_goto X (tgt := 34) dG12_deed_29 (by decide) ?_
        exact s_G12_deed_34 X hJ
  · refine s_bipush X ⟨by decide, by decide⟩ (by decide) dG12_deed_13 ?_
    exact s_iret X dG12_deed_15

def sp_G12_deed : qS := fun av w Q => ∃ (mco : Int) (mre : Int) (mle : Int) (mbe : Int) (mso : Int) (mva : Int) (mwo : Int) (mwr : Int) (mlf : Int) (mlp : Int) (mfp : Int) (mfd : Int) (mgo : Int) (mbo : Int) (mpe : Int) (mye : Int) (mpr : Int) (mld : Int) (msi : Int) (mse : Int) (mn : Nat → Int) (ys : Nat → Int) (a : Int) (b : Int) (cc : Int), av = [q2 0, q1 a, q1 b, q1 cc] ∧ w = [.inr (12, [q1 mco, q2 3, q2 4, q2 5, q2 6, q2 1, q2 7, q2 2, q2 8, q2 9, q1 mre, q1 mle, q1 mbe, q1 mso, q1 mva, q3 mwo, q1 mwr, q1 mlf, q1 mlp, q2 10, q2 11, q1 mfp, q1 mfd, q1 mgo, q1 mbo, q1 mpe, q1 mye, q2 12, q1 mpr, q2 13, q2 14, q2 15, q2 16, q1 mld, q2 17, q1 msi, q2 18, q2 19, q2 20, q2 21, q2 22, q1 mse, q2 23, q2 24, q2 25]), .inl (0, 16, .inl mn), .inl (0, 1288, .inl ys)] ∧ (q_rg 0 2 mn) ∧ (YI ys) ∧ (∀ (r : Int) (x_mco : Int) (x_mye : Int), ((0 ≤ a ∧ a < mn (1 : Int).toNat) ∧ DeD (rwD ys (161 * a).toNat) b cc r ∨ (¬ (0 ≤ a ∧ a < mn (1 : Int).toNat)) ∧ r = -2) → Q (some (q1 r)) ([.inr (12, [q1 x_mco, q2 3, q2 4, q2 5, q2 6, q2 1, q2 7, q2 2, q2 8, q2 9, q1 mre, q1 mle, q1 mbe, q1 mso, q1 mva, q3 mwo, q1 mwr, q1 mlf, q1 mlp, q2 10, q2 11, q1 mfp, q1 mfd, q1 mgo, q1 mbo, q1 mpe, q1 x_mye, q2 12, q1 mpr, q2 13, q2 14, q2 15, q2 16, q1 mld, q2 17, q1 msi, q2 18, q2 19, q2 20, q2 21, q2 22, q1 mse, q2 23, q2 24, q2 25]), .inl (0, 16, .inl mn), .inl (0, 1288, .inl ys)]))
set_option maxHeartbeats 4000000 in
set_option maxRecDepth 100000 in
theorem m_G12_deed (l : Launch) : q_M l yX12_deed cX12_deed 4 (some .int) 3 65 sp_G12_deed := by
  refine q_meth (by decide) (fun av w Q h => by obtain ⟨mco, mre, mle, mbe, mso, mva, mwo, mwr, mlf, mlp, mfp, mfd, mgo, mbo, mpe, mye, mpr, mld, msi, mse, mn, ys, a, b, cc, rfl, rfl, hmn, hyi, hQ⟩ := h; exact Nat.le_of_ble_eq_true rfl) ?_
  intro p e R s m args below meth c dC dI k g A av w Q hsp oka okw X
  obtain ⟨mco, mre, mle, mbe, mso, mva, mwo, mwr, mlf, mlp, mfp, mfd, mgo, mbo, mpe, mye, mpr, mld, msi, mse, mn, ys, a, b, cc, rfl, rfl, hmn, hyi, hQ⟩ := hsp
  have o_a : -2147483648 ≤ a ∧ a ≤ 2147483647 := oka _ (List.mem_of_getElem? (i := 1) rfl)
  have o_b : -2147483648 ≤ b ∧ b ≤ 2147483647 := oka _ (List.mem_of_getElem? (i := 2) rfl)
  have o_cc : -2147483648 ≤ cc ∧ cc ≤ 2147483647 := oka _ (List.mem_of_getElem? (i := 3) rfl)
  refine s_mono (s_G12_deed_0 X (J := fun _ _ _ _ => False) (fun d => s_cutF)) ?_
  rintro lv st w' ⟨rfl, rfl, rfl⟩
  apply And.intro
  · exact trivial
  refine Exists.intro [0, 1, 3, 4, 5, 6, 7, 2, 8, 9, 10, 11, 12, 13, 14, 15, 16, 17, 18, 19, 20, 21, 22, 23, 24, 25] (Exists.intro [q2 0, q1 _] (Exists.intro ([.inr (12, [q1 _, q2 2, q2 3, q2 4, q2 5, q2 1, q2 6, q2 7, q2 8, q2 9, q1 _, q1 _, q1 _, q1 _, q1 _, q3 _, q1 _, q1 _, q1 _, q2 10, q2 11, q1 _, q1 _, q1 _, q1 _, q1 _, q1 _, q2 12, q1 _, q2 13, q2 14, q2 15, q2 16, q1 _, q2 17, q1 _, q2 18, q2 19, q2 20, q2 21, q2 22, q1 _, q2 23, q2 24, q2 25]), .inl (0, 16, .inl _)]) (And.intro rfl (And.intro rfl (And.intro rfl (And.intro ⟨⟨_, rfl⟩, rfl⟩ ?_))))))
  refine Exists.intro _ (Exists.intro _ (Exists.intro _ (Exists.intro _ (Exists.intro _ (Exists.intro _ (Exists.intro _ (Exists.intro _ (Exists.intro _ (Exists.intro _ (Exists.intro _ (Exists.intro _ (Exists.intro _ (Exists.intro _ (Exists.intro _ (Exists.intro _ (Exists.intro _ (Exists.intro _ (Exists.intro _ (Exists.intro _ (Exists.intro _ (Exists.intro _ (And.intro rfl (And.intro rfl (And.intro (by first | omega | assumption | exact q_rg_up (by assumption) (by omega) | exact q_rg_up (q_rg_up (by assumption) (by omega)) (by omega) | exact q_rg_cpy (by assumption) (by assumption)) (?_)))))))))))))))))))))))))
  intro z7 x_mye_7 h7
  apply And.intro
  · intro h10
    first | replace h7 := dj1 h7 h10 | replace h7 := dj0 h7 h10
    apply And.intro
    · intro h18
      refine Exists.intro [0, 2, 3, 4, 5, 6, 1, 7, 8, 9, 10, 11, 12, 13, 14, 15, 16, 17, 18, 19, 20, 21, 22, 23, 24, 25] (Exists.intro [q2 0] (Exists.intro ([.inr (12, [q1 _, q2 2, q2 3, q2 4, q2 5, q2 6, q2 7, q2 1, q2 8, q2 9, q1 _, q1 _, q1 _, q1 _, q1 _, q3 _, q1 _, q1 _, q1 _, q2 10, q2 11, q1 _, q1 _, q1 _, q1 _, q1 _, q1 _, q2 12, q1 _, q2 13, q2 14, q2 15, q2 16, q1 _, q2 17, q1 _, q2 18, q2 19, q2 20, q2 21, q2 22, q1 _, q2 23, q2 24, q2 25]), .inl (0, 1288, .inl _)]) (And.intro rfl (And.intro rfl (And.intro rfl (And.intro ⟨⟨_, rfl⟩, rfl⟩ ?_))))))
      refine Exists.intro _ (Exists.intro _ (Exists.intro _ (Exists.intro _ (Exists.intro _ (Exists.intro _ (Exists.intro _ (Exists.intro _ (Exists.intro _ (Exists.intro _ (Exists.intro _ (Exists.intro _ (Exists.intro _ (Exists.intro _ (Exists.intro _ (Exists.intro _ (Exists.intro _ (Exists.intro _ (Exists.intro _ (Exists.intro _ (Exists.intro _ (And.intro rfl (And.intro rfl (And.intro (by first | omega | assumption | exact q_rg_up (by assumption) (by omega) | exact q_rg_up (q_rg_up (by assumption) (by omega)) (by omega) | exact q_rg_cpy (by assumption) (by assumption)) (And.intro (by first | omega | assumption | exact q_rg_up (by assumption) (by omega) | exact q_rg_up (q_rg_up (by assumption) (by omega)) (by omega) | exact q_rg_cpy (by assumption) (by assumption)) (?_)))))))))))))))))))))))))
      intro z38 h38
      intro z42 h42
      first | replace h42 := e_sub h42 (by omega) | replace h42 := e_rng h42
      refine Exists.intro [] (Exists.intro [q1 _, q1 _, q1 _] (Exists.intro [] (And.intro rfl (And.intro rfl (And.intro rfl (And.intro trivial ?_))))))
      refine Exists.intro _ (Exists.intro _ (Exists.intro _ (And.intro rfl (And.intro rfl (?_)))))
      intro z43 h43
      apply And.intro
      · intro h46
        first | replace h43 := dj1 h43 h46 | replace h43 := dj0 h43 h46
        exact hQ _ _ _ (by first | exact Or.inr ⟨h7, rfl⟩ | exact Or.inl ⟨⟨h7.2.1.1, h7.2.1.2⟩, De_0 (Rw_1 h26.1 h7.1 (by omega)) (by omega) (by omega)⟩ | exact Or.inl ⟨⟨h7.2.1.1, h7.2.1.2⟩, De_1 (by omega) (by omega)⟩ | exact Or.inl ⟨⟨h7.2.1.1, h7.2.1.2⟩, De_2 h61 h7.1 (by omega) (Rw_1 h38.1 h7.1 (by omega)) (by omega) (by omega)⟩ | exact Or.inl ⟨⟨h7.2.1.1, h7.2.1.2⟩, De_3 (Rw_1 h38.1 h7.1 (by omega)) (by omega) (by omega)⟩)
      · intro h46
        first | replace h43 := dj1 h43 h46 | replace h43 := dj0 h43 h46
        refine Exists.intro [] (Exists.intro [q1 _, q1 _, q1 _] (Exists.intro [] (And.intro rfl (And.intro rfl (And.intro rfl (And.intro trivial ?_))))))
        refine Exists.intro _ (Exists.intro _ (Exists.intro _ (And.intro rfl (And.intro rfl (?_)))))
        intro z52 h52
        apply And.intro
        · intro h55
          first | replace h52 := dj1 h52 h55 | replace h52 := dj0 h52 h55
          exact hQ _ _ _ (by first | exact Or.inr ⟨h7, rfl⟩ | exact Or.inl ⟨⟨h7.2.1.1, h7.2.1.2⟩, De_0 (Rw_1 h26.1 h7.1 (by omega)) (by omega) (by omega)⟩ | exact Or.inl ⟨⟨h7.2.1.1, h7.2.1.2⟩, De_1 (by omega) (by omega)⟩ | exact Or.inl ⟨⟨h7.2.1.1, h7.2.1.2⟩, De_2 h61 h7.1 (by omega) (Rw_1 h38.1 h7.1 (by omega)) (by omega) (by omega)⟩ | exact Or.inl ⟨⟨h7.2.1.1, h7.2.1.2⟩, De_3 (Rw_1 h38.1 h7.1 (by omega)) (by omega) (by omega)⟩)
        · intro h55
          first | replace h52 := dj1 h52 h55 | replace h52 := dj0 h52 h55
          refine Exists.intro [0, 2, 3, 4, 5, 6, 1, 7, 8, 9, 10, 11, 12, 13, 14, 15, 16, 17, 18, 19, 20, 21, 22, 23, 24, 25] (Exists.intro [q2 0, q1 _, q1 _] (Exists.intro ([.inr (12, [q1 _, q2 2, q2 3, q2 4, q2 5, q2 6, q2 7, q2 1, q2 8, q2 9, q1 _, q1 _, q1 _, q1 _, q1 _, q3 _, q1 _, q1 _, q1 _, q2 10, q2 11, q1 _, q1 _, q1 _, q1 _, q1 _, q1 _, q2 12, q1 _, q2 13, q2 14, q2 15, q2 16, q1 _, q2 17, q1 _, q2 18, q2 19, q2 20, q2 21, q2 22, q1 _, q2 23, q2 24, q2 25]), .inl (0, 1288, .inl _)]) (And.intro rfl (And.intro rfl (And.intro rfl (And.intro ⟨⟨_, rfl⟩, rfl⟩ ?_))))))
          refine Exists.intro _ (Exists.intro _ (Exists.intro _ (Exists.intro _ (Exists.intro _ (Exists.intro _ (Exists.intro _ (Exists.intro _ (Exists.intro _ (Exists.intro _ (Exists.intro _ (Exists.intro _ (Exists.intro _ (Exists.intro _ (Exists.intro _ (Exists.intro _ (Exists.intro _ (Exists.intro _ (Exists.intro _ (Exists.intro _ (Exists.intro _ (Exists.intro _ (Exists.intro _ (And.intro rfl (And.intro rfl (And.intro (by first | omega | assumption | exact q_rg_up (by assumption) (by omega) | exact q_rg_up (q_rg_up (by assumption) (by omega)) (by omega) | exact q_rg_cpy (by assumption) (by assumption)) (And.intro (by first | omega | assumption | exact q_rg_up (by assumption) (by omega) | exact q_rg_up (q_rg_up (by assumption) (by omega)) (by omega) | exact q_rg_cpy (by assumption) (by assumption)) (?_)))))))))))))))))))))))))))
          intro z61 h61
          exact hQ _ _ _ (by first | exact Or.inr ⟨h7, rfl⟩ | exact Or.inl ⟨⟨h7.2.1.1, h7.2.1.2⟩, De_0 (Rw_1 h26.1 h7.1 (by omega)) (by omega) (by omega)⟩ | exact Or.inl ⟨⟨h7.2.1.1, h7.2.1.2⟩, De_1 (by omega) (by omega)⟩ | exact Or.inl ⟨⟨h7.2.1.1, h7.2.1.2⟩, De_2 h61 h7.1 (by omega) (Rw_1 h38.1 h7.1 (by omega)) (by omega) (by omega)⟩ | exact Or.inl ⟨⟨h7.2.1.1, h7.2.1.2⟩, De_3 (Rw_1 h38.1 h7.1 (by omega)) (by omega) (by omega)⟩)
    · intro h18
      apply And.intro
      · intro h22
        exact hQ _ _ _ (by first | exact Or.inr ⟨h7, rfl⟩ | exact Or.inl ⟨⟨h7.2.1.1, h7.2.1.2⟩, De_0 (Rw_1 h26.1 h7.1 (by omega)) (by omega) (by omega)⟩ | exact Or.inl ⟨⟨h7.2.1.1, h7.2.1.2⟩, De_1 (by omega) (by omega)⟩ | exact Or.inl ⟨⟨h7.2.1.1, h7.2.1.2⟩, De_2 h61 h7.1 (by omega) (Rw_1 h38.1 h7.1 (by omega)) (by omega) (by omega)⟩ | exact Or.inl ⟨⟨h7.2.1.1, h7.2.1.2⟩, De_3 (Rw_1 h38.1 h7.1 (by omega)) (by omega) (by omega)⟩)
      · intro h22
        refine Exists.intro [0, 2, 3, 4, 5, 6, 1, 7, 8, 9, 10, 11, 12, 13, 14, 15, 16, 17, 18, 19, 20, 21, 22, 23, 24, 25] (Exists.intro [q2 0] (Exists.intro ([.inr (12, [q1 _, q2 2, q2 3, q2 4, q2 5, q2 6, q2 7, q2 1, q2 8, q2 9, q1 _, q1 _, q1 _, q1 _, q1 _, q3 _, q1 _, q1 _, q1 _, q2 10, q2 11, q1 _, q1 _, q1 _, q1 _, q1 _, q1 _, q2 12, q1 _, q2 13, q2 14, q2 15, q2 16, q1 _, q2 17, q1 _, q2 18, q2 19, q2 20, q2 21, q2 22, q1 _, q2 23, q2 24, q2 25]), .inl (0, 1288, .inl _)]) (And.intro rfl (And.intro rfl (And.intro rfl (And.intro ⟨⟨_, rfl⟩, rfl⟩ ?_))))))
        refine Exists.intro _ (Exists.intro _ (Exists.intro _ (Exists.intro _ (Exists.intro _ (Exists.intro _ (Exists.intro _ (Exists.intro _ (Exists.intro _ (Exists.intro _ (Exists.intro _ (Exists.intro _ (Exists.intro _ (Exists.intro _ (Exists.intro _ (Exists.intro _ (Exists.intro _ (Exists.intro _ (Exists.intro _ (Exists.intro _ (Exists.intro _ (And.intro rfl (And.intro rfl (And.intro (by first | omega | assumption | exact q_rg_up (by assumption) (by omega) | exact q_rg_up (q_rg_up (by assumption) (by omega)) (by omega) | exact q_rg_cpy (by assumption) (by assumption)) (And.intro (by first | omega | assumption | exact q_rg_up (by assumption) (by omega) | exact q_rg_up (q_rg_up (by assumption) (by omega)) (by omega) | exact q_rg_cpy (by assumption) (by assumption)) (?_)))))))))))))))))))))))))
        intro z26 h26
        exact hQ _ _ _ (by first | exact Or.inr ⟨h7, rfl⟩ | exact Or.inl ⟨⟨h7.2.1.1, h7.2.1.2⟩, De_0 (Rw_1 h26.1 h7.1 (by omega)) (by omega) (by omega)⟩ | exact Or.inl ⟨⟨h7.2.1.1, h7.2.1.2⟩, De_1 (by omega) (by omega)⟩ | exact Or.inl ⟨⟨h7.2.1.1, h7.2.1.2⟩, De_2 h61 h7.1 (by omega) (Rw_1 h38.1 h7.1 (by omega)) (by omega) (by omega)⟩ | exact Or.inl ⟨⟨h7.2.1.1, h7.2.1.2⟩, De_3 (Rw_1 h38.1 h7.1 (by omega)) (by omega) (by omega)⟩)
  · intro h10
    first | replace h7 := dj1 h7 h10 | replace h7 := dj0 h7 h10
    exact hQ _ _ _ (by first | exact Or.inr ⟨h7, rfl⟩ | exact Or.inl ⟨⟨h7.2.1.1, h7.2.1.2⟩, De_0 (Rw_1 h26.1 h7.1 (by omega)) (by omega) (by omega)⟩ | exact Or.inl ⟨⟨h7.2.1.1, h7.2.1.2⟩, De_1 (by omega) (by omega)⟩ | exact Or.inl ⟨⟨h7.2.1.1, h7.2.1.2⟩, De_2 h61 h7.1 (by omega) (Rw_1 h38.1 h7.1 (by omega)) (by omega) (by omega)⟩ | exact Or.inl ⟨⟨h7.2.1.1, h7.2.1.2⟩, De_3 (Rw_1 h38.1 h7.1 (by omega)) (by omega) (by omega)⟩)

theorem dG12_borough_0 : decode cX12_borough 0 = .ok (.aload_n 0, 1) := by decide +kernel
theorem dG12_borough_1 : decode cX12_borough 1 = .ok (.iconst 0, 1) := by decide +kernel
theorem dG12_borough_2 : decode cX12_borough 2 = .ok (.putfield 88, 3) := by decide +kernel
theorem dG12_borough_5 : decode cX12_borough 5 = .ok (.aload_n 0, 1) := by decide +kernel
theorem dG12_borough_6 : decode cX12_borough 6 = .ok (.iload_n 1, 1) := by decide +kernel
theorem dG12_borough_7 : decode cX12_borough 7 = .ok (.invokevirtual 306, 3) := by decide +kernel
theorem dG12_borough_10 : decode cX12_borough 10 = .ok (.ifCond .ne 6, 3) := by decide +kernel
theorem dG12_borough_13 : decode cX12_borough 13 = .ok (.bipush (-2), 2) := by decide +kernel
theorem dG12_borough_15 : decode cX12_borough 15 = .ok (.ireturn, 1) := by decide +kernel
theorem dG12_borough_16 : decode cX12_borough 16 = .ok (.iload_n 2, 1) := by decide +kernel
theorem dG12_borough_17 : decode cX12_borough 17 = .ok (.bipush 70, 2) := by decide +kernel
theorem dG12_borough_19 : decode cX12_borough 19 = .ok (.bipush 101, 2) := by decide +kernel
theorem dG12_borough_21 : decode cX12_borough 21 = .ok (.invokestatic 100, 3) := by decide +kernel
theorem dG12_borough_24 : decode cX12_borough 24 = .ok (.ifCond .eq 33, 3) := by decide +kernel
theorem dG12_borough_27 : decode cX12_borough 27 = .ok (.aload_n 0, 1) := by decide +kernel
theorem dG12_borough_28 : decode cX12_borough 28 = .ok (.iload_n 2, 1) := by decide +kernel
theorem dG12_borough_29 : decode cX12_borough 29 = .ok (.bipush 70, 2) := by decide +kernel
theorem dG12_borough_31 : decode cX12_borough 31 = .ok (.isub, 1) := by decide +kernel
theorem dG12_borough_32 : decode cX12_borough 32 = .ok (.iconst 4, 1) := by decide +kernel
theorem dG12_borough_33 : decode cX12_borough 33 = .ok (.idiv, 1) := by decide +kernel
theorem dG12_borough_34 : decode cX12_borough 34 = .ok (.invokevirtual 309, 3) := by decide +kernel
theorem dG12_borough_37 : decode cX12_borough 37 = .ok (.ifCond .eq 17, 3) := by decide +kernel
theorem dG12_borough_40 : decode cX12_borough 40 = .ok (.aload_n 0, 1) := by decide +kernel
theorem dG12_borough_41 : decode cX12_borough 41 = .ok (.bipush 43, 2) := by decide +kernel
theorem dG12_borough_43 : decode cX12_borough 43 = .ok (.iload_n 2, 1) := by decide +kernel
theorem dG12_borough_44 : decode cX12_borough 44 = .ok (.iadd, 1) := by decide +kernel
theorem dG12_borough_45 : decode cX12_borough 45 = .ok (.bipush 70, 2) := by decide +kernel
theorem dG12_borough_47 : decode cX12_borough 47 = .ok (.isub, 1) := by decide +kernel
theorem dG12_borough_48 : decode cX12_borough 48 = .ok (.invokevirtual 299, 3) := by decide +kernel
theorem dG12_borough_51 : decode cX12_borough 51 = .ok (.goto 5, 3) := by decide +kernel
theorem dG12_borough_54 : decode cX12_borough 54 = .ok (.bipush (-2), 2) := by decide +kernel
theorem dG12_borough_56 : decode cX12_borough 56 = .ok (.ireturn, 1) := by decide +kernel
theorem dG12_borough_57 : decode cX12_borough 57 = .ok (.iload_n 2, 1) := by decide +kernel
theorem dG12_borough_58 : decode cX12_borough 58 = .ok (.bipush 10, 2) := by decide +kernel
theorem dG12_borough_60 : decode cX12_borough 60 = .ok (.irem, 1) := by decide +kernel
theorem dG12_borough_61 : decode cX12_borough 61 = .ok (.istore_n 3, 1) := by decide +kernel
theorem dG12_borough_62 : decode cX12_borough 62 = .ok (.iload_n 2, 1) := by decide +kernel
theorem dG12_borough_63 : decode cX12_borough 63 = .ok (.bipush 10, 2) := by decide +kernel
theorem dG12_borough_65 : decode cX12_borough 65 = .ok (.idiv, 1) := by decide +kernel
theorem dG12_borough_66 : decode cX12_borough 66 = .ok (.tableswitch 191 1 6 #[38, 59, 81, 104, 133, 162], 38) := by decide +kernel
theorem dG12_borough_104 : decode cX12_borough 104 = .ok (.aload_n 0, 1) := by decide +kernel
theorem dG12_borough_105 : decode cX12_borough 105 = .ok (.iload_n 3, 1) := by decide +kernel
theorem dG12_borough_106 : decode cX12_borough 106 = .ok (.invokevirtual 309, 3) := by decide +kernel
theorem dG12_borough_109 : decode cX12_borough 109 = .ok (.ifCond .eq 13, 3) := by decide +kernel
theorem dG12_borough_112 : decode cX12_borough 112 = .ok (.aload_n 0, 1) := by decide +kernel
theorem dG12_borough_113 : decode cX12_borough 113 = .ok (.iconst 5, 1) := by decide +kernel
theorem dG12_borough_114 : decode cX12_borough 114 = .ok (.iload_n 3, 1) := by decide +kernel
theorem dG12_borough_115 : decode cX12_borough 115 = .ok (.iadd, 1) := by decide +kernel
theorem dG12_borough_116 : decode cX12_borough 116 = .ok (.invokevirtual 299, 3) := by decide +kernel
theorem dG12_borough_119 : decode cX12_borough 119 = .ok (.goto 5, 3) := by decide +kernel
theorem dG12_borough_122 : decode cX12_borough 122 = .ok (.bipush (-2), 2) := by decide +kernel
theorem dG12_borough_124 : decode cX12_borough 124 = .ok (.ireturn, 1) := by decide +kernel
theorem dG12_borough_125 : decode cX12_borough 125 = .ok (.aload_n 0, 1) := by decide +kernel
theorem dG12_borough_126 : decode cX12_borough 126 = .ok (.iload_n 3, 1) := by decide +kernel
theorem dG12_borough_127 : decode cX12_borough 127 = .ok (.invokevirtual 309, 3) := by decide +kernel
theorem dG12_borough_130 : decode cX12_borough 130 = .ok (.ifCond .eq 14, 3) := by decide +kernel
theorem dG12_borough_133 : decode cX12_borough 133 = .ok (.aload_n 0, 1) := by decide +kernel
theorem dG12_borough_134 : decode cX12_borough 134 = .ok (.bipush 13, 2) := by decide +kernel
theorem dG12_borough_136 : decode cX12_borough 136 = .ok (.iload_n 3, 1) := by decide +kernel
theorem dG12_borough_137 : decode cX12_borough 137 = .ok (.iadd, 1) := by decide +kernel
theorem dG12_borough_138 : decode cX12_borough 138 = .ok (.invokevirtual 299, 3) := by decide +kernel
theorem dG12_borough_141 : decode cX12_borough 141 = .ok (.goto 5, 3) := by decide +kernel
theorem dG12_borough_144 : decode cX12_borough 144 = .ok (.bipush (-2), 2) := by decide +kernel
theorem dG12_borough_146 : decode cX12_borough 146 = .ok (.ireturn, 1) := by decide +kernel
theorem dG12_borough_147 : decode cX12_borough 147 = .ok (.iload_n 3, 1) := by decide +kernel
theorem dG12_borough_148 : decode cX12_borough 148 = .ok (.iconst 0, 1) := by decide +kernel
theorem dG12_borough_149 : decode cX12_borough 149 = .ok (.iconst 3, 1) := by decide +kernel
theorem dG12_borough_150 : decode cX12_borough 150 = .ok (.invokestatic 100, 3) := by decide +kernel
theorem dG12_borough_153 : decode cX12_borough 153 = .ok (.ifCond .eq 14, 3) := by decide +kernel
theorem dG12_borough_156 : decode cX12_borough 156 = .ok (.aload_n 0, 1) := by decide +kernel
theorem dG12_borough_157 : decode cX12_borough 157 = .ok (.bipush 21, 2) := by decide +kernel
theorem dG12_borough_159 : decode cX12_borough 159 = .ok (.iload_n 3, 1) := by decide +kernel
theorem dG12_borough_160 : decode cX12_borough 160 = .ok (.iadd, 1) := by decide +kernel
theorem dG12_borough_161 : decode cX12_borough 161 = .ok (.invokevirtual 299, 3) := by decide +kernel
theorem dG12_borough_164 : decode cX12_borough 164 = .ok (.goto 5, 3) := by decide +kernel
theorem dG12_borough_167 : decode cX12_borough 167 = .ok (.bipush (-2), 2) := by decide +kernel
theorem dG12_borough_169 : decode cX12_borough 169 = .ok (.ireturn, 1) := by decide +kernel
theorem dG12_borough_170 : decode cX12_borough 170 = .ok (.iload_n 3, 1) := by decide +kernel
theorem dG12_borough_171 : decode cX12_borough 171 = .ok (.iconst 0, 1) := by decide +kernel
theorem dG12_borough_172 : decode cX12_borough 172 = .ok (.aload_n 0, 1) := by decide +kernel
theorem dG12_borough_173 : decode cX12_borough 173 = .ok (.iconst 3, 1) := by decide +kernel
theorem dG12_borough_174 : decode cX12_borough 174 = .ok (.invokevirtual 299, 3) := by decide +kernel
theorem dG12_borough_177 : decode cX12_borough 177 = .ok (.iconst 1, 1) := by decide +kernel
theorem dG12_borough_178 : decode cX12_borough 178 = .ok (.isub, 1) := by decide +kernel
theorem dG12_borough_179 : decode cX12_borough 179 = .ok (.invokestatic 100, 3) := by decide +kernel
theorem dG12_borough_182 : decode cX12_borough 182 = .ok (.ifCond .eq 14, 3) := by decide +kernel
theorem dG12_borough_185 : decode cX12_borough 185 = .ok (.aload_n 0, 1) := by decide +kernel
theorem dG12_borough_186 : decode cX12_borough 186 = .ok (.bipush 25, 2) := by decide +kernel
theorem dG12_borough_188 : decode cX12_borough 188 = .ok (.iload_n 3, 1) := by decide +kernel
theorem dG12_borough_189 : decode cX12_borough 189 = .ok (.iadd, 1) := by decide +kernel
theorem dG12_borough_190 : decode cX12_borough 190 = .ok (.invokevirtual 299, 3) := by decide +kernel
theorem dG12_borough_193 : decode cX12_borough 193 = .ok (.goto 5, 3) := by decide +kernel
theorem dG12_borough_196 : decode cX12_borough 196 = .ok (.bipush (-2), 2) := by decide +kernel
theorem dG12_borough_198 : decode cX12_borough 198 = .ok (.ireturn, 1) := by decide +kernel
theorem dG12_borough_199 : decode cX12_borough 199 = .ok (.iload_n 3, 1) := by decide +kernel
theorem dG12_borough_200 : decode cX12_borough 200 = .ok (.iconst 0, 1) := by decide +kernel
theorem dG12_borough_201 : decode cX12_borough 201 = .ok (.aload_n 0, 1) := by decide +kernel
theorem dG12_borough_202 : decode cX12_borough 202 = .ok (.iconst 3, 1) := by decide +kernel
theorem dG12_borough_203 : decode cX12_borough 203 = .ok (.invokevirtual 299, 3) := by decide +kernel
theorem dG12_borough_206 : decode cX12_borough 206 = .ok (.iconst 1, 1) := by decide +kernel
theorem dG12_borough_207 : decode cX12_borough 207 = .ok (.isub, 1) := by decide +kernel
theorem dG12_borough_208 : decode cX12_borough 208 = .ok (.invokestatic 100, 3) := by decide +kernel
theorem dG12_borough_211 : decode cX12_borough 211 = .ok (.ifCond .eq 14, 3) := by decide +kernel
theorem dG12_borough_214 : decode cX12_borough 214 = .ok (.aload_n 0, 1) := by decide +kernel
theorem dG12_borough_215 : decode cX12_borough 215 = .ok (.bipush 31, 2) := by decide +kernel
theorem dG12_borough_217 : decode cX12_borough 217 = .ok (.iload_n 3, 1) := by decide +kernel
theorem dG12_borough_218 : decode cX12_borough 218 = .ok (.iadd, 1) := by decide +kernel
theorem dG12_borough_219 : decode cX12_borough 219 = .ok (.invokevirtual 299, 3) := by decide +kernel
theorem dG12_borough_222 : decode cX12_borough 222 = .ok (.goto 5, 3) := by decide +kernel
theorem dG12_borough_225 : decode cX12_borough 225 = .ok (.bipush (-2), 2) := by decide +kernel
theorem dG12_borough_227 : decode cX12_borough 227 = .ok (.ireturn, 1) := by decide +kernel
theorem dG12_borough_228 : decode cX12_borough 228 = .ok (.iload_n 3, 1) := by decide +kernel
theorem dG12_borough_229 : decode cX12_borough 229 = .ok (.iconst 0, 1) := by decide +kernel
theorem dG12_borough_230 : decode cX12_borough 230 = .ok (.aload_n 0, 1) := by decide +kernel
theorem dG12_borough_231 : decode cX12_borough 231 = .ok (.iconst 4, 1) := by decide +kernel
theorem dG12_borough_232 : decode cX12_borough 232 = .ok (.invokevirtual 299, 3) := by decide +kernel
theorem dG12_borough_235 : decode cX12_borough 235 = .ok (.iconst 1, 1) := by decide +kernel
theorem dG12_borough_236 : decode cX12_borough 236 = .ok (.isub, 1) := by decide +kernel
theorem dG12_borough_237 : decode cX12_borough 237 = .ok (.invokestatic 100, 3) := by decide +kernel
theorem dG12_borough_240 : decode cX12_borough 240 = .ok (.ifCond .eq 14, 3) := by decide +kernel
theorem dG12_borough_243 : decode cX12_borough 243 = .ok (.aload_n 0, 1) := by decide +kernel
theorem dG12_borough_244 : decode cX12_borough 244 = .ok (.bipush 37, 2) := by decide +kernel
theorem dG12_borough_246 : decode cX12_borough 246 = .ok (.iload_n 3, 1) := by decide +kernel
theorem dG12_borough_247 : decode cX12_borough 247 = .ok (.iadd, 1) := by decide +kernel
theorem dG12_borough_248 : decode cX12_borough 248 = .ok (.invokevirtual 299, 3) := by decide +kernel
theorem dG12_borough_251 : decode cX12_borough 251 = .ok (.goto 5, 3) := by decide +kernel
theorem dG12_borough_254 : decode cX12_borough 254 = .ok (.bipush (-2), 2) := by decide +kernel
theorem dG12_borough_256 : decode cX12_borough 256 = .ok (.ireturn, 1) := by decide +kernel
theorem dG12_borough_257 : decode cX12_borough 257 = .ok (.iload_n 2, 1) := by decide +kernel
theorem dG12_borough_258 : decode cX12_borough 258 = .ok (.iconst 0, 1) := by decide +kernel
theorem dG12_borough_259 : decode cX12_borough 259 = .ok (.iconst 4, 1) := by decide +kernel
theorem dG12_borough_260 : decode cX12_borough 260 = .ok (.invokestatic 100, 3) := by decide +kernel
theorem dG12_borough_263 : decode cX12_borough 263 = .ok (.ifCond .eq 11, 3) := by decide +kernel
theorem dG12_borough_266 : decode cX12_borough 266 = .ok (.aload_n 0, 1) := by decide +kernel
theorem dG12_borough_267 : decode cX12_borough 267 = .ok (.iload_n 2, 1) := by decide +kernel
theorem dG12_borough_268 : decode cX12_borough 268 = .ok (.invokevirtual 299, 3) := by decide +kernel
theorem dG12_borough_271 : decode cX12_borough 271 = .ok (.goto 5, 3) := by decide +kernel
theorem dG12_borough_274 : decode cX12_borough 274 = .ok (.bipush (-2), 2) := by decide +kernel
theorem dG12_borough_276 : decode cX12_borough 276 = .ok (.ireturn, 1) := by decide +kernel
def is_G12_borough : Nat → List Nat := fun d => []
set_option maxRecDepth 100000 in
def b_G12_borough_276 (J : Nat → List qV → List qV → qW → Prop) (Q : qR) : qK := x_iret Q
set_option maxRecDepth 100000 in
theorem s_G12_borough_276 {p : Program} {l : Launch} {e : Env} {R : Room} {s : State} {m : MethodId} {args : Array Value} {below : List Frame} {meth : Method} {c : Code} {nW : Nat} {dC : Nat → ClassId} {dI : Nat → Nat → Nat} {k : Nat → ClassId} {g : Nat → Nat} {A : Nat → Prop} {J : Nat → List qV → List qV → qW → Prop} {Q : qR} (X : q_X p R s m args meth c cX12_borough 4 nW 3 65 RX12 (some .int) dC dI k g A) (hJ : ∀ d : Nat, q_Sd p l e R s m args below meth c 4 nW dC dI k g A (MQ below (q_post (dC, dI) k g nW Q A) args s 0 0 A) d (x_cut (is_G12_borough d) (J d))) : q_Sd p l e R s m args below meth c 4 nW dC dI k g A (MQ below (q_post (dC, dI) k g nW Q A) args s 0 0 A) 276 (b_G12_borough_276 J Q) := by
  unfold b_G12_borough_276
  exact s_iret X dG12_borough_276
set_option maxRecDepth 100000 in
def b_G12_borough_256 (J : Nat → List qV → List qV → qW → Prop) (Q : qR) : qK := x_iret Q
set_option maxRecDepth 100000 in
theorem s_G12_borough_256 {p : Program} {l : Launch} {e : Env} {R : Room} {s : State} {m : MethodId} {args : Array Value} {below : List Frame} {meth : Method} {c : Code} {nW : Nat} {dC : Nat → ClassId} {dI : Nat → Nat → Nat} {k : Nat → ClassId} {g : Nat → Nat} {A : Nat → Prop} {J : Nat → List qV → List qV → qW → Prop} {Q : qR} (X : q_X p R s m args meth c cX12_borough 4 nW 3 65 RX12 (some .int) dC dI k g A) (hJ : ∀ d : Nat, q_Sd p l e R s m args below meth c 4 nW dC dI k g A (MQ below (q_post (dC, dI) k g nW Q A) args s 0 0 A) d (x_cut (is_G12_borough d) (J d))) : q_Sd p l e R s m args below meth c 4 nW dC dI k g A (MQ below (q_post (dC, dI) k g nW Q A) args s 0 0 A) 256 (b_G12_borough_256 J Q) := by
  unfold b_G12_borough_256
  exact s_iret X dG12_borough_256
set_option maxRecDepth 100000 in
def b_G12_borough_227 (J : Nat → List qV → List qV → qW → Prop) (Q : qR) : qK := x_iret Q
set_option maxRecDepth 100000 in
theorem s_G12_borough_227 {p : Program} {l : Launch} {e : Env} {R : Room} {s : State} {m : MethodId} {args : Array Value} {below : List Frame} {meth : Method} {c : Code} {nW : Nat} {dC : Nat → ClassId} {dI : Nat → Nat → Nat} {k : Nat → ClassId} {g : Nat → Nat} {A : Nat → Prop} {J : Nat → List qV → List qV → qW → Prop} {Q : qR} (X : q_X p R s m args meth c cX12_borough 4 nW 3 65 RX12 (some .int) dC dI k g A) (hJ : ∀ d : Nat, q_Sd p l e R s m args below meth c 4 nW dC dI k g A (MQ below (q_post (dC, dI) k g nW Q A) args s 0 0 A) d (x_cut (is_G12_borough d) (J d))) : q_Sd p l e R s m args below meth c 4 nW dC dI k g A (MQ below (q_post (dC, dI) k g nW Q A) args s 0 0 A) 227 (b_G12_borough_227 J Q) := by
  unfold b_G12_borough_227
  exact s_iret X dG12_borough_227
set_option maxRecDepth 100000 in
def b_G12_borough_198 (J : Nat → List qV → List qV → qW → Prop) (Q : qR) : qK := x_iret Q
set_option maxRecDepth 100000 in
theorem s_G12_borough_198 {p : Program} {l : Launch} {e : Env} {R : Room} {s : State} {m : MethodId} {args : Array Value} {below : List Frame} {meth : Method} {c : Code} {nW : Nat} {dC : Nat → ClassId} {dI : Nat → Nat → Nat} {k : Nat → ClassId} {g : Nat → Nat} {A : Nat → Prop} {J : Nat → List qV → List qV → qW → Prop} {Q : qR} (X : q_X p R s m args meth c cX12_borough 4 nW 3 65 RX12 (some .int) dC dI k g A) (hJ : ∀ d : Nat, q_Sd p l e R s m args below meth c 4 nW dC dI k g A (MQ below (q_post (dC, dI) k g nW Q A) args s 0 0 A) d (x_cut (is_G12_borough d) (J d))) : q_Sd p l e R s m args below meth c 4 nW dC dI k g A (MQ below (q_post (dC, dI) k g nW Q A) args s 0 0 A) 198 (b_G12_borough_198 J Q) := by
  unfold b_G12_borough_198
  exact s_iret X dG12_borough_198
set_option maxRecDepth 100000 in
def b_G12_borough_169 (J : Nat → List qV → List qV → qW → Prop) (Q : qR) : qK := x_iret Q
set_option maxRecDepth 100000 in
theorem s_G12_borough_169 {p : Program} {l : Launch} {e : Env} {R : Room} {s : State} {m : MethodId} {args : Array Value} {below : List Frame} {meth : Method} {c : Code} {nW : Nat} {dC : Nat → ClassId} {dI : Nat → Nat → Nat} {k : Nat → ClassId} {g : Nat → Nat} {A : Nat → Prop} {J : Nat → List qV → List qV → qW → Prop} {Q : qR} (X : q_X p R s m args meth c cX12_borough 4 nW 3 65 RX12 (some .int) dC dI k g A) (hJ : ∀ d : Nat, q_Sd p l e R s m args below meth c 4 nW dC dI k g A (MQ below (q_post (dC, dI) k g nW Q A) args s 0 0 A) d (x_cut (is_G12_borough d) (J d))) : q_Sd p l e R s m args below meth c 4 nW dC dI k g A (MQ below (q_post (dC, dI) k g nW Q A) args s 0 0 A) 169 (b_G12_borough_169 J Q) := by
  unfold b_G12_borough_169
  exact s_iret X dG12_borough_169
set_option maxRecDepth 100000 in
def b_G12_borough_146 (J : Nat → List qV → List qV → qW → Prop) (Q : qR) : qK := x_iret Q
set_option maxRecDepth 100000 in
theorem s_G12_borough_146 {p : Program} {l : Launch} {e : Env} {R : Room} {s : State} {m : MethodId} {args : Array Value} {below : List Frame} {meth : Method} {c : Code} {nW : Nat} {dC : Nat → ClassId} {dI : Nat → Nat → Nat} {k : Nat → ClassId} {g : Nat → Nat} {A : Nat → Prop} {J : Nat → List qV → List qV → qW → Prop} {Q : qR} (X : q_X p R s m args meth c cX12_borough 4 nW 3 65 RX12 (some .int) dC dI k g A) (hJ : ∀ d : Nat, q_Sd p l e R s m args below meth c 4 nW dC dI k g A (MQ below (q_post (dC, dI) k g nW Q A) args s 0 0 A) d (x_cut (is_G12_borough d) (J d))) : q_Sd p l e R s m args below meth c 4 nW dC dI k g A (MQ below (q_post (dC, dI) k g nW Q A) args s 0 0 A) 146 (b_G12_borough_146 J Q) := by
  unfold b_G12_borough_146
  exact s_iret X dG12_borough_146
set_option maxRecDepth 100000 in
def b_G12_borough_124 (J : Nat → List qV → List qV → qW → Prop) (Q : qR) : qK := x_iret Q
set_option maxRecDepth 100000 in
theorem s_G12_borough_124 {p : Program} {l : Launch} {e : Env} {R : Room} {s : State} {m : MethodId} {args : Array Value} {below : List Frame} {meth : Method} {c : Code} {nW : Nat} {dC : Nat → ClassId} {dI : Nat → Nat → Nat} {k : Nat → ClassId} {g : Nat → Nat} {A : Nat → Prop} {J : Nat → List qV → List qV → qW → Prop} {Q : qR} (X : q_X p R s m args meth c cX12_borough 4 nW 3 65 RX12 (some .int) dC dI k g A) (hJ : ∀ d : Nat, q_Sd p l e R s m args below meth c 4 nW dC dI k g A (MQ below (q_post (dC, dI) k g nW Q A) args s 0 0 A) d (x_cut (is_G12_borough d) (J d))) : q_Sd p l e R s m args below meth c 4 nW dC dI k g A (MQ below (q_post (dC, dI) k g nW Q A) args s 0 0 A) 124 (b_G12_borough_124 J Q) := by
  unfold b_G12_borough_124
  exact s_iret X dG12_borough_124
set_option maxRecDepth 100000 in
def b_G12_borough_56 (J : Nat → List qV → List qV → qW → Prop) (Q : qR) : qK := x_iret Q
set_option maxRecDepth 100000 in
theorem s_G12_borough_56 {p : Program} {l : Launch} {e : Env} {R : Room} {s : State} {m : MethodId} {args : Array Value} {below : List Frame} {meth : Method} {c : Code} {nW : Nat} {dC : Nat → ClassId} {dI : Nat → Nat → Nat} {k : Nat → ClassId} {g : Nat → Nat} {A : Nat → Prop} {J : Nat → List qV → List qV → qW → Prop} {Q : qR} (X : q_X p R s m args meth c cX12_borough 4 nW 3 65 RX12 (some .int) dC dI k g A) (hJ : ∀ d : Nat, q_Sd p l e R s m args below meth c 4 nW dC dI k g A (MQ below (q_post (dC, dI) k g nW Q A) args s 0 0 A) d (x_cut (is_G12_borough d) (J d))) : q_Sd p l e R s m args below meth c 4 nW dC dI k g A (MQ below (q_post (dC, dI) k g nW Q A) args s 0 0 A) 56 (b_G12_borough_56 J Q) := by
  unfold b_G12_borough_56
  exact s_iret X dG12_borough_56
set_option maxRecDepth 100000 in
def b_G12_borough_43 (J : Nat → List qV → List qV → qW → Prop) (Q : qR) : qK := x_iload 2 (x_iadd (x_int 70 (x_isub (x_callr (some 12) 2 spr_X12_of (b_G12_borough_56 J Q)))))
set_option maxRecDepth 100000 in
theorem s_G12_borough_43 {p : Program} {l : Launch} {e : Env} {R : Room} {s : State} {m : MethodId} {args : Array Value} {below : List Frame} {meth : Method} {c : Code} {nW : Nat} {dC : Nat → ClassId} {dI : Nat → Nat → Nat} {k : Nat → ClassId} {g : Nat → Nat} {A : Nat → Prop} {J : Nat → List qV → List qV → qW → Prop} {Q : qR} (X : q_X p R s m args meth c cX12_borough 4 nW 3 65 RX12 (some .int) dC dI k g A) (hJ : ∀ d : Nat, q_Sd p l e R s m args below meth c 4 nW dC dI k g A (MQ below (q_post (dC, dI) k g nW Q A) args s 0 0 A) d (x_cut (is_G12_borough d) (J d))) : q_Sd p l e R s m args below meth c 4 nW dC dI k g A (MQ below (q_post (dC, dI) k g nW Q A) args s 0 0 A) 43 (b_G12_borough_43 J Q) := by
  unfold b_G12_borough_43
  refine s_iload_n X rfl dG12_borough_43 ?_
  refine s_iadd X dG12_borough_44 ?_
  refine s_bipush X ⟨by decide, by decide⟩ (by decide) dG12_borough_45 ?_
  refine s_isub X dG12_borough_47 ?_
  refine s_callVr X (m_X12_of l) tw_1189 tw_1190 tw_1603 tw_134 tw_1191 rfl (by decide +kernel) ⟨by decide, by decide⟩ dG12_borough_48 ?_
  refine s_goto X (tgt := 56) dG12_borough_51 (by decide) ?_
  exact s_G12_borough_56 X hJ
set_option maxRecDepth 100000 in
def b_G12_borough_0 (J : Nat → List qV → List qV → qW → Prop) (Q : qR) : qK := x_aload 0 (x_int 0 (x_put 12 0 q_oki (x_nw (x_aload 0 (x_iload 1 (x_call (some 12) 2 sp_G12_hand (x_nw (x_if_ne (x_iload 2 (x_int 70 (x_int 101 (x_callr none 3 spr_X12_in (x_if_eq (x_iload 2 (x_int 10 (x_irem (x_istore 3 (x_iload 2 (x_int 10 (x_idiv (x_sw 1 6 [x_aload 0 (x_iload 3 (x_callr (some 12) 2 spr_X12_isPerson (x_if_eq (x_int (-2) (b_G12_borough_124 J Q)) (x_aload 0 (x_int 5 (x_iload 3 (x_iadd (x_callr (some 12) 2 spr_X12_of (b_G12_borough_124 J Q))))))))), x_aload 0 (x_iload 3 (x_callr (some 12) 2 spr_X12_isPerson (x_if_eq (x_int (-2) (b_G12_borough_146 J Q)) (x_aload 0 (x_int 13 (x_iload 3 (x_iadd (x_callr (some 12) 2 spr_X12_of (b_G12_borough_146 J Q))))))))), x_iload 3 (x_int 0 (x_int 3 (x_callr none 3 spr_X12_in (x_if_eq (x_int (-2) (b_G12_borough_169 J Q)) (x_aload 0 (x_int 21 (x_iload 3 (x_iadd (x_callr (some 12) 2 spr_X12_of (b_G12_borough_169 J Q)))))))))), x_iload 3 (x_int 0 (x_aload 0 (x_int 3 (x_callr (some 12) 2 spr_X12_of (x_int 1 (x_isub (x_callr none 3 spr_X12_in (x_if_eq (x_int (-2) (b_G12_borough_198 J Q)) (x_aload 0 (x_int 25 (x_iload 3 (x_iadd (x_callr (some 12) 2 spr_X12_of (b_G12_borough_198 J Q)))))))))))))), x_iload 3 (x_int 0 (x_aload 0 (x_int 3 (x_callr (some 12) 2 spr_X12_of (x_int 1 (x_isub (x_callr none 3 spr_X12_in (x_if_eq (x_int (-2) (b_G12_borough_227 J Q)) (x_aload 0 (x_int 31 (x_iload 3 (x_iadd (x_callr (some 12) 2 spr_X12_of (b_G12_borough_227 J Q)))))))))))))), x_iload 3 (x_int 0 (x_aload 0 (x_int 4 (x_callr (some 12) 2 spr_X12_of (x_int 1 (x_isub (x_callr none 3 spr_X12_in (x_if_eq (x_int (-2) (b_G12_borough_256 J Q)) (x_aload 0 (x_int 37 (x_iload 3 (x_iadd (x_callr (some 12) 2 spr_X12_of (b_G12_borough_256 J Q))))))))))))))] (x_iload 2 (x_int 0 (x_int 4 (x_callr none 3 spr_X12_in (x_if_eq (x_int (-2) (b_G12_borough_276 J Q)) (x_aload 0 (x_iload 2 (x_callr (some 12) 2 spr_X12_of (b_G12_borough_276 J Q))))))))))))))))) (x_aload 0 (x_iload 2 (x_int 70 (x_isub (x_int 4 (x_idiv (x_callr (some 12) 2 spr_X12_isPerson (x_if_eq (x_int (-2) (b_G12_borough_56 J Q)) (x_aload 0 (x_int 43 (b_G12_borough_43 J Q)))))))))))))))) (x_int (-2) (x_iret Q))))))))))
set_option maxRecDepth 100000 in
theorem s_G12_borough_0 {p : Program} {l : Launch} {e : Env} {R : Room} {s : State} {m : MethodId} {args : Array Value} {below : List Frame} {meth : Method} {c : Code} {nW : Nat} {dC : Nat → ClassId} {dI : Nat → Nat → Nat} {k : Nat → ClassId} {g : Nat → Nat} {A : Nat → Prop} {J : Nat → List qV → List qV → qW → Prop} {Q : qR} (X : q_X p R s m args meth c cX12_borough 4 nW 3 65 RX12 (some .int) dC dI k g A) (hJ : ∀ d : Nat, q_Sd p l e R s m args below meth c 4 nW dC dI k g A (MQ below (q_post (dC, dI) k g nW Q A) args s 0 0 A) d (x_cut (is_G12_borough d) (J d))) : q_Sd p l e R s m args below meth c 4 nW dC dI k g A (MQ below (q_post (dC, dI) k g nW Q A) args s 0 0 A) 0 (b_G12_borough_0 J Q) := by
  unfold b_G12_borough_0
  refine s_aload_n X rfl dG12_borough_0 ?_
  refine s_iconst X ⟨by decide, by decide⟩ dG12_borough_1 ?_
  refine s_put X (T := TX12) (C := RX12) (N := 45) tu_X12 tyX12_ok nmX12 rfl (by decide) tw_997 rfl (by decide +kernel) q_oki_t dG12_borough_2 ?_
  refine s_nw ?_
  refine s_aload_n X rfl dG12_borough_5 ?_
  refine s_iload_n X rfl dG12_borough_6 ?_
  refine s_callV X (m_G12_hand l) tw_1186 tw_1187 tw_1585 tw_134 tw_1188 rfl (by decide +kernel) ⟨by decide, by decide⟩ dG12_borough_7 ?_
  refine s_nw ?_
  refine s_if_ne X (tgt := 16) dG12_borough_10 (by decide) ?_ ?_
  · refine s_iload_n X rfl dG12_borough_16 ?_
    refine s_bipush X ⟨by decide, by decide⟩ (by decide) dG12_borough_17 ?_
    refine s_bipush X ⟨by decide, by decide⟩ (by decide) dG12_borough_19 ?_
    refine s_callSr X (m_X12_in l) tw_1054 tw_1055 tw_134 tw_1056 (by decide +kernel) ⟨by decide, by decide⟩ dG12_borough_21 ?_
    refine s_if_eq X (tgt := 57) dG12_borough_24 (by decide) ?_ ?_
    · refine s_iload_n X rfl dG12_borough_57 ?_
      refine s_bipush X ⟨by decide, by decide⟩ (by decide) dG12_borough_58 ?_
      refine s_irem X dG12_borough_60 ?_
      refine s_istore_n X rfl (by decide) dG12_borough_61 ?_
      refine s_iload_n X rfl dG12_borough_62 ?_
      refine s_bipush X ⟨by decide, by decide⟩ (by decide) dG12_borough_63 ?_
      refine s_idiv X dG12_borough_65 ?_
      refine s_sw X (ts := [104, 125, 147, 170, 199, 228]) (td := 257) dG12_borough_66 (by decide) (by decide) (by decide) rfl ?_ ?_
      · intro i t K ht hK
        match i, ht, hK with
        | 0, ht, hK =>
          cases ht
          cases hK
          refine s_aload_n X rfl dG12_borough_104 ?_
          refine s_iload_n X rfl dG12_borough_105 ?_
          refine s_callVr X (m_X12_isPerson l) tw_1192 tw_1193 tw_1591 tw_134 tw_1194 rfl (by decide +kernel) ⟨by decide, by decide⟩ dG12_borough_106 ?_
          refine s_if_eq X (tgt := 122) dG12_borough_109 (by decide) ?_ ?_
          · refine s_bipush X ⟨by decide, by decide⟩ (by decide) dG12_borough_122 ?_
            exact s_G12_borough_124 X hJ
          · refine s_aload_n X rfl dG12_borough_112 ?_
            refine s_iconst X ⟨by decide, by decide⟩ dG12_borough_113 ?_
            refine s_iload_n X rfl dG12_borough_114 ?_
            refine s_iadd X dG12_borough_115 ?_
            refine s_callVr X (m_X12_of l) tw_1189 tw_1190 tw_1603 tw_134 tw_1191 rfl (by decide +kernel) ⟨by decide, by decide⟩ dG12_borough_116 ?_
            refine s_goto X (tgt := 124) dG12_borough_119 (by decide) ?_
            exact s_G12_borough_124 X hJ
        | 1, ht, hK =>
          cases ht
          cases hK
          refine s_aload_n X rfl dG12_borough_125 ?_
          refine s_iload_n X rfl dG12_borough_126 ?_
          refine s_callVr X (m_X12_isPerson l) tw_1192 tw_1193 tw_1591 tw_134 tw_1194 rfl (by decide +kernel) ⟨by decide, by decide⟩ dG12_borough_127 ?_
          refine s_if_eq X (tgt := 144) dG12_borough_130 (by decide) ?_ ?_
          · refine s_bipush X ⟨by decide, by decide⟩ (by decide) dG12_borough_144 ?_
            exact s_G12_borough_146 X hJ
          · refine s_aload_n X rfl dG12_borough_133 ?_
            refine s_bipush X ⟨by decide, by decide⟩ (by decide) dG12_borough_134 ?_
            refine s_iload_n X rfl dG12_borough_136 ?_
            refine s_iadd X dG12_borough_137 ?_
            refine s_callVr X (m_X12_of l) tw_1189 tw_1190 tw_1603 tw_134 tw_1191 rfl (by decide +kernel) ⟨by decide, by decide⟩ dG12_borough_138 ?_
            refine s_goto X (tgt := 146) dG12_borough_141 (by decide) ?_
            exact s_G12_borough_146 X hJ
        | 2, ht, hK =>
          cases ht
          cases hK
          refine s_iload_n X rfl dG12_borough_147 ?_
          refine s_iconst X ⟨by decide, by decide⟩ dG12_borough_148 ?_
          refine s_iconst X ⟨by decide, by decide⟩ dG12_borough_149 ?_
          refine s_callSr X (m_X12_in l) tw_1054 tw_1055 tw_134 tw_1056 (by decide +kernel) ⟨by decide, by decide⟩ dG12_borough_150 ?_
          refine s_if_eq X (tgt := 167) dG12_borough_153 (by decide) ?_ ?_
          · refine s_bipush X ⟨by decide, by decide⟩ (by decide) dG12_borough_167 ?_
            exact s_G12_borough_169 X hJ
          · refine s_aload_n X rfl dG12_borough_156 ?_
            refine s_bipush X ⟨by decide, by decide⟩ (by decide) dG12_borough_157 ?_
            refine s_iload_n X rfl dG12_borough_159 ?_
            refine s_iadd X dG12_borough_160 ?_
            refine s_callVr X (m_X12_of l) tw_1189 tw_1190 tw_1603 tw_134 tw_1191 rfl (by decide +kernel) ⟨by decide, by decide⟩ dG12_borough_161 ?_
            refine s_goto X (tgt := 169) dG12_borough_164 (by decide) ?_
            exact s_G12_borough_169 X hJ
        | 3, ht, hK =>
          cases ht
          cases hK
          refine s_iload_n X rfl dG12_borough_170 ?_
          refine s_iconst X ⟨by decide, by decide⟩ dG12_borough_171 ?_
          refine s_aload_n X rfl dG12_borough_172 ?_
          refine s_iconst X ⟨by decide, by decide⟩ dG12_borough_173 ?_
          refine s_callVr X (m_X12_of l) tw_1189 tw_1190 tw_1603 tw_134 tw_1191 rfl (by decide +kernel) ⟨by decide, by decide⟩ dG12_borough_174 ?_
          refine s_iconst X ⟨by decide, by decide⟩ dG12_borough_177 ?_
          refine s_isub X dG12_borough_178 ?_
          refine s_callSr X (m_X12_in l) tw_1054 tw_1055 tw_134 tw_1056 (by decide +kernel) ⟨by decide, by decide⟩ dG12_borough_179 ?_
          refine s_if_eq X (tgt := 196) dG12_borough_182 (by decide) ?_ ?_
          · refine s_bipush X ⟨by decide, by decide⟩ (by decide) dG12_borough_196 ?_
            exact s_G12_borough_198 X hJ
          · refine s_aload_n X rfl dG12_borough_185 ?_
            refine s_bipush X ⟨by decide, by decide⟩ (by decide) dG12_borough_186 ?_
            refine s_iload_n X rfl dG12_borough_188 ?_
            refine s_iadd X dG12_borough_189 ?_
            refine s_callVr X (m_X12_of l) tw_1189 tw_1190 tw_1603 tw_134 tw_1191 rfl (by decide +kernel) ⟨by decide, by decide⟩ dG12_borough_190 ?_
            refine s_goto X (tgt := 198) dG12_borough_193 (by decide) ?_
            exact s_G12_borough_198 X hJ
        | 4, ht, hK =>
          cases ht
          cases hK
          refine s_iload_n X rfl dG12_borough_199 ?_
          refine s_iconst X ⟨by decide, by decide⟩ dG12_borough_200 ?_
          refine s_aload_n X rfl dG12_borough_201 ?_
          refine s_iconst X ⟨by decide, by decide⟩ dG12_borough_202 ?_
          refine s_callVr X (m_X12_of l) tw_1189 tw_1190 tw_1603 tw_134 tw_1191 rfl (by decide +kernel) ⟨by decide, by decide⟩ dG12_borough_203 ?_
          refine s_iconst X ⟨by decide, by decide⟩ dG12_borough_206 ?_
          refine s_isub X dG12_borough_207 ?_
          refine s_callSr X (m_X12_in l) tw_1054 tw_1055 tw_134 tw_1056 (by decide +kernel) ⟨by decide, by decide⟩ dG12_borough_208 ?_
          refine s_if_eq X (tgt := 225) dG12_borough_211 (by decide) ?_ ?_
          · refine s_bipush X ⟨by decide, by decide⟩ (by decide) dG12_borough_225 ?_
            exact s_G12_borough_227 X hJ
          · refine s_aload_n X rfl dG12_borough_214 ?_
            refine s_bipush X ⟨by decide, by decide⟩ (by decide) dG12_borough_215 ?_
            refine s_iload_n X rfl dG12_borough_217 ?_
            refine s_iadd X dG12_borough_218 ?_
            refine s_callVr X (m_X12_of l) tw_1189 tw_1190 tw_1603 tw_134 tw_1191 rfl (by decide +kernel) ⟨by decide, by decide⟩ dG12_borough_219 ?_
            refine s_goto X (tgt := 227) dG12_borough_222 (by decide) ?_
            exact s_G12_borough_227 X hJ
        | 5, ht, hK =>
          cases ht
          cases hK
          refine s_iload_n X rfl dG12_borough_228 ?_
          refine s_iconst X ⟨by decide, by decide⟩ dG12_borough_229 ?_
          refine s_aload_n X rfl dG12_borough_230 ?_
          refine s_iconst X ⟨by decide, by decide⟩ dG12_borough_231 ?_
          refine s_callVr X (m_X12_of l) tw_1189 tw_1190 tw_1603 tw_134 tw_1191 rfl (by decide +kernel) ⟨by decide, by decide⟩ dG12_borough_232 ?_
          refine s_iconst X ⟨by decide, by decide⟩ dG12_borough_235 ?_
          refine s_isub X dG12_borough_236 ?_
          refine s_callSr X (m_X12_in l) tw_1054 tw_1055 tw_134 tw_1056 (by decide +kernel) ⟨by decide, by decide⟩ dG12_borough_237 ?_
          refine s_if_eq X (tgt := 254) dG12_borough_240 (by decide) ?_ ?_
          · refine s_bipush X ⟨by decide, by decide⟩ (by decide) dG12_borough_254 ?_
            exact s_G12_borough_256 X hJ
          · refine s_aload_n X rfl dG12_borough_243 ?_
            refine s_bipush X ⟨by decide, by decide⟩ (by decide) dG12_borough_244 ?_
            refine s_iload_n X rfl dG12_borough_246 ?_
            refine s_iadd X dG12_borough_247 ?_
            refine s_callVr X (m_X12_of l) tw_1189 tw_1190 tw_1603 tw_134 tw_1191 rfl (by decide +kernel) ⟨by decide, by decide⟩ dG12_borough_248 ?_
            refine s_goto X (tgt := 256) dG12_borough_251 (by decide) ?_
            exact s_G12_borough_256 X hJ
        | i + 6, ht, hK => exact absurd ht (by simp)
      · refine s_iload_n X rfl dG12_borough_257 ?_
        refine s_iconst X ⟨by decide, by decide⟩ dG12_borough_258 ?_
        refine s_iconst X ⟨by decide, by decide⟩ dG12_borough_259 ?_
        refine s_callSr X (m_X12_in l) tw_1054 tw_1055 tw_134 tw_1056 (by decide +kernel) ⟨by decide, by decide⟩ dG12_borough_260 ?_
        refine s_if_eq X (tgt := 274) dG12_borough_263 (by decide) ?_ ?_
        · refine s_bipush X ⟨by decide, by decide⟩ (by decide) dG12_borough_274 ?_
          exact s_G12_borough_276 X hJ
        · refine s_aload_n X rfl dG12_borough_266 ?_
          refine s_iload_n X rfl dG12_borough_267 ?_
          refine s_callVr X (m_X12_of l) tw_1189 tw_1190 tw_1603 tw_134 tw_1191 rfl (by decide +kernel) ⟨by decide, by decide⟩ dG12_borough_268 ?_
          refine s_goto X (tgt := 276) dG12_borough_271 (by decide) ?_
          exact s_G12_borough_276 X hJ
    · refine s_aload_n X rfl dG12_borough_27 ?_
      refine s_iload_n X rfl dG12_borough_28 ?_
      refine s_bipush X ⟨by decide, by decide⟩ (by decide) dG12_borough_29 ?_
      refine s_isub X dG12_borough_31 ?_
      refine s_iconst X ⟨by decide, by decide⟩ dG12_borough_32 ?_
      refine s_idiv X dG12_borough_33 ?_
      refine s_callVr X (m_X12_isPerson l) tw_1192 tw_1193 tw_1591 tw_134 tw_1194 rfl (by decide +kernel) ⟨by decide, by decide⟩ dG12_borough_34 ?_
      refine s_if_eq X (tgt := 54) dG12_borough_37 (by decide) ?_ ?_
      · refine s_bipush X ⟨by decide, by decide⟩ (by decide) dG12_borough_54 ?_
        exact s_G12_borough_56 X hJ
      · refine s_aload_n X rfl dG12_borough_40 ?_
        refine s_bipush X ⟨by decide, by decide⟩ (by decide) dG12_borough_41 ?_
        exact s_G12_borough_43 X hJ
  · refine s_bipush X ⟨by decide, by decide⟩ (by decide) dG12_borough_13 ?_
    exact s_iret X dG12_borough_15

def sp_G12_borough : qS := fun av w Q => ∃ (mco : Int) (mre : Int) (mle : Int) (mbe : Int) (mso : Int) (mva : Int) (mwo : Int) (mwr : Int) (mlf : Int) (mlp : Int) (mfp : Int) (mfd : Int) (mgo : Int) (mbo : Int) (mpe : Int) (mye : Int) (mpr : Int) (mld : Int) (msi : Int) (mse : Int) (mn : Nat → Int) (bs : Nat → Int) (a : Int) (b : Int), av = [q2 0, q1 a, q1 b] ∧ w = [.inr (12, [q1 mco, q2 3, q2 4, q2 5, q2 6, q2 1, q2 2, q2 7, q2 8, q2 9, q1 mre, q1 mle, q1 mbe, q1 mso, q1 mva, q3 mwo, q1 mwr, q1 mlf, q1 mlp, q2 10, q2 11, q1 mfp, q1 mfd, q1 mgo, q1 mbo, q1 mpe, q1 mye, q2 12, q1 mpr, q2 13, q2 14, q2 15, q2 16, q1 mld, q2 17, q1 msi, q2 18, q2 19, q2 20, q2 21, q2 22, q1 mse, q2 23, q2 24, q2 25]), .inl (0, 16, .inl mn), .inl (0, 600, .inl bs)] ∧ (q_rg 0 2 mn) ∧ (BI bs) ∧ (∀ (r : Int) (x_mco : Int) (x_mbo : Int) (x_mpe : Int), ((0 ≤ a ∧ a < mn (0 : Int).toNat) ∧ BoD (rwD bs (75 * a).toNat) b r ∨ (¬ (0 ≤ a ∧ a < mn (0 : Int).toNat)) ∧ r = -2) → Q (some (q1 r)) ([.inr (12, [q1 x_mco, q2 3, q2 4, q2 5, q2 6, q2 1, q2 2, q2 7, q2 8, q2 9, q1 mre, q1 mle, q1 mbe, q1 mso, q1 mva, q3 mwo, q1 mwr, q1 mlf, q1 mlp, q2 10, q2 11, q1 mfp, q1 mfd, q1 mgo, q1 x_mbo, q1 x_mpe, q1 mye, q2 12, q1 mpr, q2 13, q2 14, q2 15, q2 16, q1 mld, q2 17, q1 msi, q2 18, q2 19, q2 20, q2 21, q2 22, q1 mse, q2 23, q2 24, q2 25]), .inl (0, 16, .inl mn), .inl (0, 600, .inl bs)]))
set_option maxHeartbeats 4000000 in
set_option maxRecDepth 100000 in
theorem m_G12_borough (l : Launch) : q_M l yX12_borough cX12_borough 4 (some .int) 3 65 sp_G12_borough := by
  refine q_meth (by decide) (fun av w Q h => by obtain ⟨mco, mre, mle, mbe, mso, mva, mwo, mwr, mlf, mlp, mfp, mfd, mgo, mbo, mpe, mye, mpr, mld, msi, mse, mn, bs, a, b, rfl, rfl, hmn, hbi, hQ⟩ := h; exact Nat.le_of_ble_eq_true rfl) ?_
  intro p e R s m args below meth c dC dI k g A av w Q hsp oka okw X
  obtain ⟨mco, mre, mle, mbe, mso, mva, mwo, mwr, mlf, mlp, mfp, mfd, mgo, mbo, mpe, mye, mpr, mld, msi, mse, mn, bs, a, b, rfl, rfl, hmn, hbi, hQ⟩ := hsp
  have o_a : -2147483648 ≤ a ∧ a ≤ 2147483647 := oka _ (List.mem_of_getElem? (i := 1) rfl)
  have o_b : -2147483648 ≤ b ∧ b ≤ 2147483647 := oka _ (List.mem_of_getElem? (i := 2) rfl)
  refine s_mono (s_G12_borough_0 X (J := fun _ _ _ _ => False) (fun d => s_cutF)) ?_
  rintro lv st w' ⟨rfl, rfl, rfl⟩
  apply And.intro
  · exact trivial
  refine Exists.intro [0, 1, 2, 3, 4, 5, 6, 7, 8, 9, 10, 11, 12, 13, 14, 15, 16, 17, 18, 19, 20, 21, 22, 23, 24, 25] (Exists.intro [q2 0, q1 _] (Exists.intro ([.inr (12, [q1 _, q2 3, q2 4, q2 5, q2 6, q2 1, q2 2, q2 7, q2 8, q2 9, q1 _, q1 _, q1 _, q1 _, q1 _, q3 _, q1 _, q1 _, q1 _, q2 10, q2 11, q1 _, q1 _, q1 _, q1 _, q1 _, q1 _, q2 12, q1 _, q2 13, q2 14, q2 15, q2 16, q1 _, q2 17, q1 _, q2 18, q2 19, q2 20, q2 21, q2 22, q1 _, q2 23, q2 24, q2 25]), .inl (0, 16, .inl _), .inl (0, 600, .inl _)]) (And.intro rfl (And.intro rfl (And.intro rfl (And.intro ⟨⟨_, rfl⟩, rfl⟩ ?_))))))
  refine Exists.intro _ (Exists.intro _ (Exists.intro _ (Exists.intro _ (Exists.intro _ (Exists.intro _ (Exists.intro _ (Exists.intro _ (Exists.intro _ (Exists.intro _ (Exists.intro _ (Exists.intro _ (Exists.intro _ (Exists.intro _ (Exists.intro _ (Exists.intro _ (Exists.intro _ (Exists.intro _ (Exists.intro _ (Exists.intro _ (Exists.intro _ (Exists.intro _ (Exists.intro _ (And.intro rfl (And.intro rfl (And.intro (by first | omega | assumption | exact q_rg_up (by assumption) (by omega) | exact q_rg_up (q_rg_up (by assumption) (by omega)) (by omega) | exact q_rg_cpy (by assumption) (by assumption)) (And.intro (by first | omega | assumption | exact q_rg_up (by assumption) (by omega) | exact q_rg_up (q_rg_up (by assumption) (by omega)) (by omega) | exact q_rg_cpy (by assumption) (by assumption)) (?_)))))))))))))))))))))))))))
  intro z7 x_mbo_7 x_mpe_7 h7
  apply And.intro
  · intro h10
    first | replace h7 := dj1 h7 h10 | replace h7 := dj0 h7 h10
    refine Exists.intro [] (Exists.intro [q1 _, q1 _, q1 _] (Exists.intro [] (And.intro rfl (And.intro rfl (And.intro rfl (And.intro trivial ?_))))))
    refine Exists.intro _ (Exists.intro _ (Exists.intro _ (And.intro rfl (And.intro rfl (?_)))))
    intro z21 h21
    apply And.intro
    · intro h24
      first | replace h21 := dj1 h21 h24 | replace h21 := dj0 h21 h24
      apply And.intro
      · first | omega | (intro e9; omega)
      intro z60 h60
      replace h60 := e_rem9 h60 (by omega) (by omega)
      apply And.intro
      · first | omega | (intro e9; omega)
      intro z65 h65
      replace h65 := e_div9 h65 (by omega) (by omega)
      apply And.intro
      · apply And.intro
        · intro h66
          refine Exists.intro [0, 3, 4, 5, 6, 1, 2, 7, 8, 9, 10, 11, 12, 13, 14, 15, 16, 17, 18, 19, 20, 21, 22, 23, 24, 25] (Exists.intro [q2 0, q1 _] (Exists.intro ([.inr (12, [q1 _, q2 1, q2 2, q2 3, q2 4, q2 5, q2 6, q2 7, q2 8, q2 9, q1 _, q1 _, q1 _, q1 _, q1 _, q3 _, q1 _, q1 _, q1 _, q2 10, q2 11, q1 _, q1 _, q1 _, q1 _, q1 _, q1 _, q2 12, q1 _, q2 13, q2 14, q2 15, q2 16, q1 _, q2 17, q1 _, q2 18, q2 19, q2 20, q2 21, q2 22, q1 _, q2 23, q2 24, q2 25])]) (And.intro rfl (And.intro rfl (And.intro rfl (And.intro ⟨⟨_, rfl⟩, rfl⟩ ?_))))))
          refine Exists.intro _ (Exists.intro _ (Exists.intro _ (Exists.intro _ (Exists.intro _ (Exists.intro _ (Exists.intro _ (Exists.intro _ (Exists.intro _ (Exists.intro _ (Exists.intro _ (Exists.intro _ (Exists.intro _ (Exists.intro _ (Exists.intro _ (Exists.intro _ (Exists.intro _ (Exists.intro _ (Exists.intro _ (Exists.intro _ (Exists.intro _ (And.intro rfl (And.intro rfl (And.intro (by first | omega | assumption | exact q_rg_up (by assumption) (by omega) | exact q_rg_up (q_rg_up (by assumption) (by omega)) (by omega) | exact q_rg_cpy (by assumption) (by assumption)) (?_))))))))))))))))))))))))
          intro z106 h106
          apply And.intro
          · intro h109
            first | replace h106 := dj1 h106 h109 | replace h106 := dj0 h106 h109
            exact hQ _ _ _ _ (by first | exact Or.inr ⟨h7, rfl⟩ | exact Or.inl ⟨⟨h7.2.1.1, h7.2.1.2⟩, Bd_1y h116 h7.1 h7.2.1.1 (by omega) (by omega) (by omega) h7.2.2.2.2.2 h7.1 (by omega) (by omega)⟩ | exact Or.inl ⟨⟨h7.2.1.1, h7.2.1.2⟩, Bd_1n h7.2.1.1 (by omega) h7.2.2.2.2.2 h7.1 (by omega)⟩ | exact Or.inl ⟨⟨h7.2.1.1, h7.2.1.2⟩, Bd_2y h138 h7.1 h7.2.1.1 (by omega) (by omega) (by omega) h7.2.2.2.2.2 h7.1 (by omega) (by omega)⟩ | exact Or.inl ⟨⟨h7.2.1.1, h7.2.1.2⟩, Bd_2n h7.2.1.1 (by omega) h7.2.2.2.2.2 h7.1 (by omega)⟩ | exact Or.inl ⟨⟨h7.2.1.1, h7.2.1.2⟩, Bd_3y h190 h7.1 h7.2.1.1 (by omega) (by omega) (by omega) h174 h7.1 (by omega) (by omega)⟩ | exact Or.inl ⟨⟨h7.2.1.1, h7.2.1.2⟩, Bd_3n h7.2.1.1 (by omega) h174 h7.1 (by omega)⟩ | exact Or.inl ⟨⟨h7.2.1.1, h7.2.1.2⟩, Bd_4y h219 h7.1 h7.2.1.1 (by omega) (by omega) (by omega) h203 h7.1 (by omega) (by omega)⟩ | exact Or.inl ⟨⟨h7.2.1.1, h7.2.1.2⟩, Bd_4n h7.2.1.1 (by omega) h203 h7.1 (by omega)⟩ | exact Or.inl ⟨⟨h7.2.1.1, h7.2.1.2⟩, Bd_5y h248 h7.1 h7.2.1.1 (by omega) (by omega) (by omega) h232 h7.1 (by omega) (by omega)⟩ | exact Or.inl ⟨⟨h7.2.1.1, h7.2.1.2⟩, Bd_5n h7.2.1.1 (by omega) h232 h7.1 (by omega)⟩ | exact Or.inl ⟨⟨h7.2.1.1, h7.2.1.2⟩, Bd_8y h161 h7.1 h7.2.1.1 (by omega) (by omega) (by omega)⟩ | exact Or.inl ⟨⟨h7.2.1.1, h7.2.1.2⟩, Bd_8n (by omega)⟩ | exact Or.inl ⟨⟨h7.2.1.1, h7.2.1.2⟩, Bd_9y (q := z33) h48 h7.1 h7.2.1.1 (by omega) (by omega) (by omega) h7.2.2.2.2.2 h7.1 (by omega)⟩ | exact Or.inl ⟨⟨h7.2.1.1, h7.2.1.2⟩, Bd_9n (q := z33) h7.2.1.1 (by omega) (by omega) h7.2.2.2.2.2 h7.1 (by omega)⟩ | exact Or.inl ⟨⟨h7.2.1.1, h7.2.1.2⟩, Bd_0 h268 h7.1 h7.2.1.1 (by omega)⟩ | (refine Or.inl ⟨⟨h7.2.1.1, h7.2.1.2⟩, ?_⟩; rcases (show b < 10 ∨ 102 ≤ b by omega) with c9 | c9; exact Bd_00 c9 (by omega); exact Bd_9z c9))
          · intro h109
            first | replace h106 := dj1 h106 h109 | replace h106 := dj0 h106 h109
            intro z115 h115
            first | replace h115 := e_add h115 (by omega) | replace h115 := e_rng h115
            refine Exists.intro [0, 2, 3, 4, 5, 6, 1, 7, 8, 9, 10, 11, 12, 13, 14, 15, 16, 17, 18, 19, 20, 21, 22, 23, 24, 25] (Exists.intro [q2 0, q1 _] (Exists.intro ([.inr (12, [q1 _, q2 2, q2 3, q2 4, q2 5, q2 6, q2 1, q2 7, q2 8, q2 9, q1 _, q1 _, q1 _, q1 _, q1 _, q3 _, q1 _, q1 _, q1 _, q2 10, q2 11, q1 _, q1 _, q1 _, q1 _, q1 _, q1 _, q2 12, q1 _, q2 13, q2 14, q2 15, q2 16, q1 _, q2 17, q1 _, q2 18, q2 19, q2 20, q2 21, q2 22, q1 _, q2 23, q2 24, q2 25]), .inl (0, 600, .inl _)]) (And.intro rfl (And.intro rfl (And.intro rfl (And.intro ⟨⟨_, rfl⟩, rfl⟩ ?_))))))
            refine Exists.intro _ (Exists.intro _ (Exists.intro _ (Exists.intro _ (Exists.intro _ (Exists.intro _ (Exists.intro _ (Exists.intro _ (Exists.intro _ (Exists.intro _ (Exists.intro _ (Exists.intro _ (Exists.intro _ (Exists.intro _ (Exists.intro _ (Exists.intro _ (Exists.intro _ (Exists.intro _ (Exists.intro _ (Exists.intro _ (Exists.intro _ (Exists.intro _ (And.intro rfl (And.intro rfl (And.intro (by first | omega | assumption | exact q_rg_up (by assumption) (by omega) | exact q_rg_up (q_rg_up (by assumption) (by omega)) (by omega) | exact q_rg_cpy (by assumption) (by assumption)) (And.intro (by first | omega | assumption | exact q_rg_up (by assumption) (by omega) | exact q_rg_up (q_rg_up (by assumption) (by omega)) (by omega) | exact q_rg_cpy (by assumption) (by assumption)) (And.intro (by first | omega | assumption | exact q_rg_up (by assumption) (by omega) | exact q_rg_up (q_rg_up (by assumption) (by omega)) (by omega) | exact q_rg_cpy (by assumption) (by assumption)) (?_)))))))))))))))))))))))))))
            intro z116 h116
            obtain ⟨h116, k116⟩ := h116
            first | replace k116 := OFQ_13 k116 (by omega) | replace k116 := OFQ_21 k116 (by omega) | clear k116
            exact hQ _ _ _ _ (by first | exact Or.inr ⟨h7, rfl⟩ | exact Or.inl ⟨⟨h7.2.1.1, h7.2.1.2⟩, Bd_1y h116 h7.1 h7.2.1.1 (by omega) (by omega) (by omega) h7.2.2.2.2.2 h7.1 (by omega) (by omega)⟩ | exact Or.inl ⟨⟨h7.2.1.1, h7.2.1.2⟩, Bd_1n h7.2.1.1 (by omega) h7.2.2.2.2.2 h7.1 (by omega)⟩ | exact Or.inl ⟨⟨h7.2.1.1, h7.2.1.2⟩, Bd_2y h138 h7.1 h7.2.1.1 (by omega) (by omega) (by omega) h7.2.2.2.2.2 h7.1 (by omega) (by omega)⟩ | exact Or.inl ⟨⟨h7.2.1.1, h7.2.1.2⟩, Bd_2n h7.2.1.1 (by omega) h7.2.2.2.2.2 h7.1 (by omega)⟩ | exact Or.inl ⟨⟨h7.2.1.1, h7.2.1.2⟩, Bd_3y h190 h7.1 h7.2.1.1 (by omega) (by omega) (by omega) h174 h7.1 (by omega) (by omega)⟩ | exact Or.inl ⟨⟨h7.2.1.1, h7.2.1.2⟩, Bd_3n h7.2.1.1 (by omega) h174 h7.1 (by omega)⟩ | exact Or.inl ⟨⟨h7.2.1.1, h7.2.1.2⟩, Bd_4y h219 h7.1 h7.2.1.1 (by omega) (by omega) (by omega) h203 h7.1 (by omega) (by omega)⟩ | exact Or.inl ⟨⟨h7.2.1.1, h7.2.1.2⟩, Bd_4n h7.2.1.1 (by omega) h203 h7.1 (by omega)⟩ | exact Or.inl ⟨⟨h7.2.1.1, h7.2.1.2⟩, Bd_5y h248 h7.1 h7.2.1.1 (by omega) (by omega) (by omega) h232 h7.1 (by omega) (by omega)⟩ | exact Or.inl ⟨⟨h7.2.1.1, h7.2.1.2⟩, Bd_5n h7.2.1.1 (by omega) h232 h7.1 (by omega)⟩ | exact Or.inl ⟨⟨h7.2.1.1, h7.2.1.2⟩, Bd_8y h161 h7.1 h7.2.1.1 (by omega) (by omega) (by omega)⟩ | exact Or.inl ⟨⟨h7.2.1.1, h7.2.1.2⟩, Bd_8n (by omega)⟩ | exact Or.inl ⟨⟨h7.2.1.1, h7.2.1.2⟩, Bd_9y (q := z33) h48 h7.1 h7.2.1.1 (by omega) (by omega) (by omega) h7.2.2.2.2.2 h7.1 (by omega)⟩ | exact Or.inl ⟨⟨h7.2.1.1, h7.2.1.2⟩, Bd_9n (q := z33) h7.2.1.1 (by omega) (by omega) h7.2.2.2.2.2 h7.1 (by omega)⟩ | exact Or.inl ⟨⟨h7.2.1.1, h7.2.1.2⟩, Bd_0 h268 h7.1 h7.2.1.1 (by omega)⟩ | (refine Or.inl ⟨⟨h7.2.1.1, h7.2.1.2⟩, ?_⟩; rcases (show b < 10 ∨ 102 ≤ b by omega) with c9 | c9; exact Bd_00 c9 (by omega); exact Bd_9z c9))
        apply And.intro
        · intro h66
          refine Exists.intro [0, 3, 4, 5, 6, 1, 2, 7, 8, 9, 10, 11, 12, 13, 14, 15, 16, 17, 18, 19, 20, 21, 22, 23, 24, 25] (Exists.intro [q2 0, q1 _] (Exists.intro ([.inr (12, [q1 _, q2 1, q2 2, q2 3, q2 4, q2 5, q2 6, q2 7, q2 8, q2 9, q1 _, q1 _, q1 _, q1 _, q1 _, q3 _, q1 _, q1 _, q1 _, q2 10, q2 11, q1 _, q1 _, q1 _, q1 _, q1 _, q1 _, q2 12, q1 _, q2 13, q2 14, q2 15, q2 16, q1 _, q2 17, q1 _, q2 18, q2 19, q2 20, q2 21, q2 22, q1 _, q2 23, q2 24, q2 25])]) (And.intro rfl (And.intro rfl (And.intro rfl (And.intro ⟨⟨_, rfl⟩, rfl⟩ ?_))))))
          refine Exists.intro _ (Exists.intro _ (Exists.intro _ (Exists.intro _ (Exists.intro _ (Exists.intro _ (Exists.intro _ (Exists.intro _ (Exists.intro _ (Exists.intro _ (Exists.intro _ (Exists.intro _ (Exists.intro _ (Exists.intro _ (Exists.intro _ (Exists.intro _ (Exists.intro _ (Exists.intro _ (Exists.intro _ (Exists.intro _ (Exists.intro _ (And.intro rfl (And.intro rfl (And.intro (by first | omega | assumption | exact q_rg_up (by assumption) (by omega) | exact q_rg_up (q_rg_up (by assumption) (by omega)) (by omega) | exact q_rg_cpy (by assumption) (by assumption)) (?_))))))))))))))))))))))))
          intro z127 h127
          apply And.intro
          · intro h130
            first | replace h127 := dj1 h127 h130 | replace h127 := dj0 h127 h130
            exact hQ _ _ _ _ (by first | exact Or.inr ⟨h7, rfl⟩ | exact Or.inl ⟨⟨h7.2.1.1, h7.2.1.2⟩, Bd_1y h116 h7.1 h7.2.1.1 (by omega) (by omega) (by omega) h7.2.2.2.2.2 h7.1 (by omega) (by omega)⟩ | exact Or.inl ⟨⟨h7.2.1.1, h7.2.1.2⟩, Bd_1n h7.2.1.1 (by omega) h7.2.2.2.2.2 h7.1 (by omega)⟩ | exact Or.inl ⟨⟨h7.2.1.1, h7.2.1.2⟩, Bd_2y h138 h7.1 h7.2.1.1 (by omega) (by omega) (by omega) h7.2.2.2.2.2 h7.1 (by omega) (by omega)⟩ | exact Or.inl ⟨⟨h7.2.1.1, h7.2.1.2⟩, Bd_2n h7.2.1.1 (by omega) h7.2.2.2.2.2 h7.1 (by omega)⟩ | exact Or.inl ⟨⟨h7.2.1.1, h7.2.1.2⟩, Bd_3y h190 h7.1 h7.2.1.1 (by omega) (by omega) (by omega) h174 h7.1 (by omega) (by omega)⟩ | exact Or.inl ⟨⟨h7.2.1.1, h7.2.1.2⟩, Bd_3n h7.2.1.1 (by omega) h174 h7.1 (by omega)⟩ | exact Or.inl ⟨⟨h7.2.1.1, h7.2.1.2⟩, Bd_4y h219 h7.1 h7.2.1.1 (by omega) (by omega) (by omega) h203 h7.1 (by omega) (by omega)⟩ | exact Or.inl ⟨⟨h7.2.1.1, h7.2.1.2⟩, Bd_4n h7.2.1.1 (by omega) h203 h7.1 (by omega)⟩ | exact Or.inl ⟨⟨h7.2.1.1, h7.2.1.2⟩, Bd_5y h248 h7.1 h7.2.1.1 (by omega) (by omega) (by omega) h232 h7.1 (by omega) (by omega)⟩ | exact Or.inl ⟨⟨h7.2.1.1, h7.2.1.2⟩, Bd_5n h7.2.1.1 (by omega) h232 h7.1 (by omega)⟩ | exact Or.inl ⟨⟨h7.2.1.1, h7.2.1.2⟩, Bd_8y h161 h7.1 h7.2.1.1 (by omega) (by omega) (by omega)⟩ | exact Or.inl ⟨⟨h7.2.1.1, h7.2.1.2⟩, Bd_8n (by omega)⟩ | exact Or.inl ⟨⟨h7.2.1.1, h7.2.1.2⟩, Bd_9y (q := z33) h48 h7.1 h7.2.1.1 (by omega) (by omega) (by omega) h7.2.2.2.2.2 h7.1 (by omega)⟩ | exact Or.inl ⟨⟨h7.2.1.1, h7.2.1.2⟩, Bd_9n (q := z33) h7.2.1.1 (by omega) (by omega) h7.2.2.2.2.2 h7.1 (by omega)⟩ | exact Or.inl ⟨⟨h7.2.1.1, h7.2.1.2⟩, Bd_0 h268 h7.1 h7.2.1.1 (by omega)⟩ | (refine Or.inl ⟨⟨h7.2.1.1, h7.2.1.2⟩, ?_⟩; rcases (show b < 10 ∨ 102 ≤ b by omega) with c9 | c9; exact Bd_00 c9 (by omega); exact Bd_9z c9))
          · intro h130
            first | replace h127 := dj1 h127 h130 | replace h127 := dj0 h127 h130
            intro z137 h137
            first | replace h137 := e_add h137 (by omega) | replace h137 := e_rng h137
            refine Exists.intro [0, 2, 3, 4, 5, 6, 1, 7, 8, 9, 10, 11, 12, 13, 14, 15, 16, 17, 18, 19, 20, 21, 22, 23, 24, 25] (Exists.intro [q2 0, q1 _] (Exists.intro ([.inr (12, [q1 _, q2 2, q2 3, q2 4, q2 5, q2 6, q2 1, q2 7, q2 8, q2 9, q1 _, q1 _, q1 _, q1 _, q1 _, q3 _, q1 _, q1 _, q1 _, q2 10, q2 11, q1 _, q1 _, q1 _, q1 _, q1 _, q1 _, q2 12, q1 _, q2 13, q2 14, q2 15, q2 16, q1 _, q2 17, q1 _, q2 18, q2 19, q2 20, q2 21, q2 22, q1 _, q2 23, q2 24, q2 25]), .inl (0, 600, .inl _)]) (And.intro rfl (And.intro rfl (And.intro rfl (And.intro ⟨⟨_, rfl⟩, rfl⟩ ?_))))))
            refine Exists.intro _ (Exists.intro _ (Exists.intro _ (Exists.intro _ (Exists.intro _ (Exists.intro _ (Exists.intro _ (Exists.intro _ (Exists.intro _ (Exists.intro _ (Exists.intro _ (Exists.intro _ (Exists.intro _ (Exists.intro _ (Exists.intro _ (Exists.intro _ (Exists.intro _ (Exists.intro _ (Exists.intro _ (Exists.intro _ (Exists.intro _ (Exists.intro _ (And.intro rfl (And.intro rfl (And.intro (by first | omega | assumption | exact q_rg_up (by assumption) (by omega) | exact q_rg_up (q_rg_up (by assumption) (by omega)) (by omega) | exact q_rg_cpy (by assumption) (by assumption)) (And.intro (by first | omega | assumption | exact q_rg_up (by assumption) (by omega) | exact q_rg_up (q_rg_up (by assumption) (by omega)) (by omega) | exact q_rg_cpy (by assumption) (by assumption)) (And.intro (by first | omega | assumption | exact q_rg_up (by assumption) (by omega) | exact q_rg_up (q_rg_up (by assumption) (by omega)) (by omega) | exact q_rg_cpy (by assumption) (by assumption)) (?_)))))))))))))))))))))))))))
            intro z138 h138
            obtain ⟨h138, k138⟩ := h138
            first | replace k138 := OFQ_13 k138 (by omega) | replace k138 := OFQ_21 k138 (by omega) | clear k138
            exact hQ _ _ _ _ (by first | exact Or.inr ⟨h7, rfl⟩ | exact Or.inl ⟨⟨h7.2.1.1, h7.2.1.2⟩, Bd_1y h116 h7.1 h7.2.1.1 (by omega) (by omega) (by omega) h7.2.2.2.2.2 h7.1 (by omega) (by omega)⟩ | exact Or.inl ⟨⟨h7.2.1.1, h7.2.1.2⟩, Bd_1n h7.2.1.1 (by omega) h7.2.2.2.2.2 h7.1 (by omega)⟩ | exact Or.inl ⟨⟨h7.2.1.1, h7.2.1.2⟩, Bd_2y h138 h7.1 h7.2.1.1 (by omega) (by omega) (by omega) h7.2.2.2.2.2 h7.1 (by omega) (by omega)⟩ | exact Or.inl ⟨⟨h7.2.1.1, h7.2.1.2⟩, Bd_2n h7.2.1.1 (by omega) h7.2.2.2.2.2 h7.1 (by omega)⟩ | exact Or.inl ⟨⟨h7.2.1.1, h7.2.1.2⟩, Bd_3y h190 h7.1 h7.2.1.1 (by omega) (by omega) (by omega) h174 h7.1 (by omega) (by omega)⟩ | exact Or.inl ⟨⟨h7.2.1.1, h7.2.1.2⟩, Bd_3n h7.2.1.1 (by omega) h174 h7.1 (by omega)⟩ | exact Or.inl ⟨⟨h7.2.1.1, h7.2.1.2⟩, Bd_4y h219 h7.1 h7.2.1.1 (by omega) (by omega) (by omega) h203 h7.1 (by omega) (by omega)⟩ | exact Or.inl ⟨⟨h7.2.1.1, h7.2.1.2⟩, Bd_4n h7.2.1.1 (by omega) h203 h7.1 (by omega)⟩ | exact Or.inl ⟨⟨h7.2.1.1, h7.2.1.2⟩, Bd_5y h248 h7.1 h7.2.1.1 (by omega) (by omega) (by omega) h232 h7.1 (by omega) (by omega)⟩ | exact Or.inl ⟨⟨h7.2.1.1, h7.2.1.2⟩, Bd_5n h7.2.1.1 (by omega) h232 h7.1 (by omega)⟩ | exact Or.inl ⟨⟨h7.2.1.1, h7.2.1.2⟩, Bd_8y h161 h7.1 h7.2.1.1 (by omega) (by omega) (by omega)⟩ | exact Or.inl ⟨⟨h7.2.1.1, h7.2.1.2⟩, Bd_8n (by omega)⟩ | exact Or.inl ⟨⟨h7.2.1.1, h7.2.1.2⟩, Bd_9y (q := z33) h48 h7.1 h7.2.1.1 (by omega) (by omega) (by omega) h7.2.2.2.2.2 h7.1 (by omega)⟩ | exact Or.inl ⟨⟨h7.2.1.1, h7.2.1.2⟩, Bd_9n (q := z33) h7.2.1.1 (by omega) (by omega) h7.2.2.2.2.2 h7.1 (by omega)⟩ | exact Or.inl ⟨⟨h7.2.1.1, h7.2.1.2⟩, Bd_0 h268 h7.1 h7.2.1.1 (by omega)⟩ | (refine Or.inl ⟨⟨h7.2.1.1, h7.2.1.2⟩, ?_⟩; rcases (show b < 10 ∨ 102 ≤ b by omega) with c9 | c9; exact Bd_00 c9 (by omega); exact Bd_9z c9))
        apply And.intro
        · intro h66
          refine Exists.intro [] (Exists.intro [q1 _, q1 _, q1 _] (Exists.intro [] (And.intro rfl (And.intro rfl (And.intro rfl (And.intro trivial ?_))))))
          refine Exists.intro _ (Exists.intro _ (Exists.intro _ (And.intro rfl (And.intro rfl (?_)))))
          intro z150 h150
          apply And.intro
          · intro h153
            first | replace h150 := dj1 h150 h153 | replace h150 := dj0 h150 h153
            exact hQ _ _ _ _ (by first | exact Or.inr ⟨h7, rfl⟩ | exact Or.inl ⟨⟨h7.2.1.1, h7.2.1.2⟩, Bd_1y h116 h7.1 h7.2.1.1 (by omega) (by omega) (by omega) h7.2.2.2.2.2 h7.1 (by omega) (by omega)⟩ | exact Or.inl ⟨⟨h7.2.1.1, h7.2.1.2⟩, Bd_1n h7.2.1.1 (by omega) h7.2.2.2.2.2 h7.1 (by omega)⟩ | exact Or.inl ⟨⟨h7.2.1.1, h7.2.1.2⟩, Bd_2y h138 h7.1 h7.2.1.1 (by omega) (by omega) (by omega) h7.2.2.2.2.2 h7.1 (by omega) (by omega)⟩ | exact Or.inl ⟨⟨h7.2.1.1, h7.2.1.2⟩, Bd_2n h7.2.1.1 (by omega) h7.2.2.2.2.2 h7.1 (by omega)⟩ | exact Or.inl ⟨⟨h7.2.1.1, h7.2.1.2⟩, Bd_3y h190 h7.1 h7.2.1.1 (by omega) (by omega) (by omega) h174 h7.1 (by omega) (by omega)⟩ | exact Or.inl ⟨⟨h7.2.1.1, h7.2.1.2⟩, Bd_3n h7.2.1.1 (by omega) h174 h7.1 (by omega)⟩ | exact Or.inl ⟨⟨h7.2.1.1, h7.2.1.2⟩, Bd_4y h219 h7.1 h7.2.1.1 (by omega) (by omega) (by omega) h203 h7.1 (by omega) (by omega)⟩ | exact Or.inl ⟨⟨h7.2.1.1, h7.2.1.2⟩, Bd_4n h7.2.1.1 (by omega) h203 h7.1 (by omega)⟩ | exact Or.inl ⟨⟨h7.2.1.1, h7.2.1.2⟩, Bd_5y h248 h7.1 h7.2.1.1 (by omega) (by omega) (by omega) h232 h7.1 (by omega) (by omega)⟩ | exact Or.inl ⟨⟨h7.2.1.1, h7.2.1.2⟩, Bd_5n h7.2.1.1 (by omega) h232 h7.1 (by omega)⟩ | exact Or.inl ⟨⟨h7.2.1.1, h7.2.1.2⟩, Bd_8y h161 h7.1 h7.2.1.1 (by omega) (by omega) (by omega)⟩ | exact Or.inl ⟨⟨h7.2.1.1, h7.2.1.2⟩, Bd_8n (by omega)⟩ | exact Or.inl ⟨⟨h7.2.1.1, h7.2.1.2⟩, Bd_9y (q := z33) h48 h7.1 h7.2.1.1 (by omega) (by omega) (by omega) h7.2.2.2.2.2 h7.1 (by omega)⟩ | exact Or.inl ⟨⟨h7.2.1.1, h7.2.1.2⟩, Bd_9n (q := z33) h7.2.1.1 (by omega) (by omega) h7.2.2.2.2.2 h7.1 (by omega)⟩ | exact Or.inl ⟨⟨h7.2.1.1, h7.2.1.2⟩, Bd_0 h268 h7.1 h7.2.1.1 (by omega)⟩ | (refine Or.inl ⟨⟨h7.2.1.1, h7.2.1.2⟩, ?_⟩; rcases (show b < 10 ∨ 102 ≤ b by omega) with c9 | c9; exact Bd_00 c9 (by omega); exact Bd_9z c9))
          · intro h153
            first | replace h150 := dj1 h150 h153 | replace h150 := dj0 h150 h153
            intro z160 h160
            first | replace h160 := e_add h160 (by omega) | replace h160 := e_rng h160
            refine Exists.intro [0, 2, 3, 4, 5, 6, 1, 7, 8, 9, 10, 11, 12, 13, 14, 15, 16, 17, 18, 19, 20, 21, 22, 23, 24, 25] (Exists.intro [q2 0, q1 _] (Exists.intro ([.inr (12, [q1 _, q2 2, q2 3, q2 4, q2 5, q2 6, q2 1, q2 7, q2 8, q2 9, q1 _, q1 _, q1 _, q1 _, q1 _, q3 _, q1 _, q1 _, q1 _, q2 10, q2 11, q1 _, q1 _, q1 _, q1 _, q1 _, q1 _, q2 12, q1 _, q2 13, q2 14, q2 15, q2 16, q1 _, q2 17, q1 _, q2 18, q2 19, q2 20, q2 21, q2 22, q1 _, q2 23, q2 24, q2 25]), .inl (0, 600, .inl _)]) (And.intro rfl (And.intro rfl (And.intro rfl (And.intro ⟨⟨_, rfl⟩, rfl⟩ ?_))))))
            refine Exists.intro _ (Exists.intro _ (Exists.intro _ (Exists.intro _ (Exists.intro _ (Exists.intro _ (Exists.intro _ (Exists.intro _ (Exists.intro _ (Exists.intro _ (Exists.intro _ (Exists.intro _ (Exists.intro _ (Exists.intro _ (Exists.intro _ (Exists.intro _ (Exists.intro _ (Exists.intro _ (Exists.intro _ (Exists.intro _ (Exists.intro _ (Exists.intro _ (And.intro rfl (And.intro rfl (And.intro (by first | omega | assumption | exact q_rg_up (by assumption) (by omega) | exact q_rg_up (q_rg_up (by assumption) (by omega)) (by omega) | exact q_rg_cpy (by assumption) (by assumption)) (And.intro (by first | omega | assumption | exact q_rg_up (by assumption) (by omega) | exact q_rg_up (q_rg_up (by assumption) (by omega)) (by omega) | exact q_rg_cpy (by assumption) (by assumption)) (And.intro (by first | omega | assumption | exact q_rg_up (by assumption) (by omega) | exact q_rg_up (q_rg_up (by assumption) (by omega)) (by omega) | exact q_rg_cpy (by assumption) (by assumption)) (?_)))))))))))))))))))))))))))
            intro z161 h161
            obtain ⟨h161, k161⟩ := h161
            first | replace k161 := OFQ_13 k161 (by omega) | replace k161 := OFQ_21 k161 (by omega) | clear k161
            exact hQ _ _ _ _ (by first | exact Or.inr ⟨h7, rfl⟩ | exact Or.inl ⟨⟨h7.2.1.1, h7.2.1.2⟩, Bd_1y h116 h7.1 h7.2.1.1 (by omega) (by omega) (by omega) h7.2.2.2.2.2 h7.1 (by omega) (by omega)⟩ | exact Or.inl ⟨⟨h7.2.1.1, h7.2.1.2⟩, Bd_1n h7.2.1.1 (by omega) h7.2.2.2.2.2 h7.1 (by omega)⟩ | exact Or.inl ⟨⟨h7.2.1.1, h7.2.1.2⟩, Bd_2y h138 h7.1 h7.2.1.1 (by omega) (by omega) (by omega) h7.2.2.2.2.2 h7.1 (by omega) (by omega)⟩ | exact Or.inl ⟨⟨h7.2.1.1, h7.2.1.2⟩, Bd_2n h7.2.1.1 (by omega) h7.2.2.2.2.2 h7.1 (by omega)⟩ | exact Or.inl ⟨⟨h7.2.1.1, h7.2.1.2⟩, Bd_3y h190 h7.1 h7.2.1.1 (by omega) (by omega) (by omega) h174 h7.1 (by omega) (by omega)⟩ | exact Or.inl ⟨⟨h7.2.1.1, h7.2.1.2⟩, Bd_3n h7.2.1.1 (by omega) h174 h7.1 (by omega)⟩ | exact Or.inl ⟨⟨h7.2.1.1, h7.2.1.2⟩, Bd_4y h219 h7.1 h7.2.1.1 (by omega) (by omega) (by omega) h203 h7.1 (by omega) (by omega)⟩ | exact Or.inl ⟨⟨h7.2.1.1, h7.2.1.2⟩, Bd_4n h7.2.1.1 (by omega) h203 h7.1 (by omega)⟩ | exact Or.inl ⟨⟨h7.2.1.1, h7.2.1.2⟩, Bd_5y h248 h7.1 h7.2.1.1 (by omega) (by omega) (by omega) h232 h7.1 (by omega) (by omega)⟩ | exact Or.inl ⟨⟨h7.2.1.1, h7.2.1.2⟩, Bd_5n h7.2.1.1 (by omega) h232 h7.1 (by omega)⟩ | exact Or.inl ⟨⟨h7.2.1.1, h7.2.1.2⟩, Bd_8y h161 h7.1 h7.2.1.1 (by omega) (by omega) (by omega)⟩ | exact Or.inl ⟨⟨h7.2.1.1, h7.2.1.2⟩, Bd_8n (by omega)⟩ | exact Or.inl ⟨⟨h7.2.1.1, h7.2.1.2⟩, Bd_9y (q := z33) h48 h7.1 h7.2.1.1 (by omega) (by omega) (by omega) h7.2.2.2.2.2 h7.1 (by omega)⟩ | exact Or.inl ⟨⟨h7.2.1.1, h7.2.1.2⟩, Bd_9n (q := z33) h7.2.1.1 (by omega) (by omega) h7.2.2.2.2.2 h7.1 (by omega)⟩ | exact Or.inl ⟨⟨h7.2.1.1, h7.2.1.2⟩, Bd_0 h268 h7.1 h7.2.1.1 (by omega)⟩ | (refine Or.inl ⟨⟨h7.2.1.1, h7.2.1.2⟩, ?_⟩; rcases (show b < 10 ∨ 102 ≤ b by omega) with c9 | c9; exact Bd_00 c9 (by omega); exact Bd_9z c9))
        apply And.intro
        · intro h66
          refine Exists.intro [0, 2, 3, 4, 5, 6, 1, 7, 8, 9, 10, 11, 12, 13, 14, 15, 16, 17, 18, 19, 20, 21, 22, 23, 24, 25] (Exists.intro [q2 0, q1 _] (Exists.intro ([.inr (12, [q1 _, q2 2, q2 3, q2 4, q2 5, q2 6, q2 1, q2 7, q2 8, q2 9, q1 _, q1 _, q1 _, q1 _, q1 _, q3 _, q1 _, q1 _, q1 _, q2 10, q2 11, q1 _, q1 _, q1 _, q1 _, q1 _, q1 _, q2 12, q1 _, q2 13, q2 14, q2 15, q2 16, q1 _, q2 17, q1 _, q2 18, q2 19, q2 20, q2 21, q2 22, q1 _, q2 23, q2 24, q2 25]), .inl (0, 600, .inl _)]) (And.intro rfl (And.intro rfl (And.intro rfl (And.intro ⟨⟨_, rfl⟩, rfl⟩ ?_))))))
          refine Exists.intro _ (Exists.intro _ (Exists.intro _ (Exists.intro _ (Exists.intro _ (Exists.intro _ (Exists.intro _ (Exists.intro _ (Exists.intro _ (Exists.intro _ (Exists.intro _ (Exists.intro _ (Exists.intro _ (Exists.intro _ (Exists.intro _ (Exists.intro _ (Exists.intro _ (Exists.intro _ (Exists.intro _ (Exists.intro _ (Exists.intro _ (Exists.intro _ (And.intro rfl (And.intro rfl (And.intro (by first | omega | assumption | exact q_rg_up (by assumption) (by omega) | exact q_rg_up (q_rg_up (by assumption) (by omega)) (by omega) | exact q_rg_cpy (by assumption) (by assumption)) (And.intro (by first | omega | assumption | exact q_rg_up (by assumption) (by omega) | exact q_rg_up (q_rg_up (by assumption) (by omega)) (by omega) | exact q_rg_cpy (by assumption) (by assumption)) (And.intro (by first | omega | assumption | exact q_rg_up (by assumption) (by omega) | exact q_rg_up (q_rg_up (by assumption) (by omega)) (by omega) | exact q_rg_cpy (by assumption) (by assumption)) (?_)))))))))))))))))))))))))))
          intro z174 h174
          obtain ⟨h174, k174⟩ := h174
          replace k174 := OFQ_3 k174 (by omega)
          intro z178 h178
          first | replace h178 := e_sub h178 (by omega) | replace h178 := e_rng h178
          refine Exists.intro [] (Exists.intro [q1 _, q1 _, q1 _] (Exists.intro [] (And.intro rfl (And.intro rfl (And.intro rfl (And.intro trivial ?_))))))
          refine Exists.intro _ (Exists.intro _ (Exists.intro _ (And.intro rfl (And.intro rfl (?_)))))
          intro z179 h179
          apply And.intro
          · intro h182
            first | replace h179 := dj1 h179 h182 | replace h179 := dj0 h179 h182
            exact hQ _ _ _ _ (by first | exact Or.inr ⟨h7, rfl⟩ | exact Or.inl ⟨⟨h7.2.1.1, h7.2.1.2⟩, Bd_1y h116 h7.1 h7.2.1.1 (by omega) (by omega) (by omega) h7.2.2.2.2.2 h7.1 (by omega) (by omega)⟩ | exact Or.inl ⟨⟨h7.2.1.1, h7.2.1.2⟩, Bd_1n h7.2.1.1 (by omega) h7.2.2.2.2.2 h7.1 (by omega)⟩ | exact Or.inl ⟨⟨h7.2.1.1, h7.2.1.2⟩, Bd_2y h138 h7.1 h7.2.1.1 (by omega) (by omega) (by omega) h7.2.2.2.2.2 h7.1 (by omega) (by omega)⟩ | exact Or.inl ⟨⟨h7.2.1.1, h7.2.1.2⟩, Bd_2n h7.2.1.1 (by omega) h7.2.2.2.2.2 h7.1 (by omega)⟩ | exact Or.inl ⟨⟨h7.2.1.1, h7.2.1.2⟩, Bd_3y h190 h7.1 h7.2.1.1 (by omega) (by omega) (by omega) h174 h7.1 (by omega) (by omega)⟩ | exact Or.inl ⟨⟨h7.2.1.1, h7.2.1.2⟩, Bd_3n h7.2.1.1 (by omega) h174 h7.1 (by omega)⟩ | exact Or.inl ⟨⟨h7.2.1.1, h7.2.1.2⟩, Bd_4y h219 h7.1 h7.2.1.1 (by omega) (by omega) (by omega) h203 h7.1 (by omega) (by omega)⟩ | exact Or.inl ⟨⟨h7.2.1.1, h7.2.1.2⟩, Bd_4n h7.2.1.1 (by omega) h203 h7.1 (by omega)⟩ | exact Or.inl ⟨⟨h7.2.1.1, h7.2.1.2⟩, Bd_5y h248 h7.1 h7.2.1.1 (by omega) (by omega) (by omega) h232 h7.1 (by omega) (by omega)⟩ | exact Or.inl ⟨⟨h7.2.1.1, h7.2.1.2⟩, Bd_5n h7.2.1.1 (by omega) h232 h7.1 (by omega)⟩ | exact Or.inl ⟨⟨h7.2.1.1, h7.2.1.2⟩, Bd_8y h161 h7.1 h7.2.1.1 (by omega) (by omega) (by omega)⟩ | exact Or.inl ⟨⟨h7.2.1.1, h7.2.1.2⟩, Bd_8n (by omega)⟩ | exact Or.inl ⟨⟨h7.2.1.1, h7.2.1.2⟩, Bd_9y (q := z33) h48 h7.1 h7.2.1.1 (by omega) (by omega) (by omega) h7.2.2.2.2.2 h7.1 (by omega)⟩ | exact Or.inl ⟨⟨h7.2.1.1, h7.2.1.2⟩, Bd_9n (q := z33) h7.2.1.1 (by omega) (by omega) h7.2.2.2.2.2 h7.1 (by omega)⟩ | exact Or.inl ⟨⟨h7.2.1.1, h7.2.1.2⟩, Bd_0 h268 h7.1 h7.2.1.1 (by omega)⟩ | (refine Or.inl ⟨⟨h7.2.1.1, h7.2.1.2⟩, ?_⟩; rcases (show b < 10 ∨ 102 ≤ b by omega) with c9 | c9; exact Bd_00 c9 (by omega); exact Bd_9z c9))
          · intro h182
            first | replace h179 := dj1 h179 h182 | replace h179 := dj0 h179 h182
            intro z189 h189
            first | replace h189 := e_add h189 (by omega) | replace h189 := e_rng h189
            refine Exists.intro [0, 2, 3, 4, 5, 6, 1, 7, 8, 9, 10, 11, 12, 13, 14, 15, 16, 17, 18, 19, 20, 21, 22, 23, 24, 25] (Exists.intro [q2 0, q1 _] (Exists.intro ([.inr (12, [q1 _, q2 2, q2 3, q2 4, q2 5, q2 6, q2 1, q2 7, q2 8, q2 9, q1 _, q1 _, q1 _, q1 _, q1 _, q3 _, q1 _, q1 _, q1 _, q2 10, q2 11, q1 _, q1 _, q1 _, q1 _, q1 _, q1 _, q2 12, q1 _, q2 13, q2 14, q2 15, q2 16, q1 _, q2 17, q1 _, q2 18, q2 19, q2 20, q2 21, q2 22, q1 _, q2 23, q2 24, q2 25]), .inl (0, 600, .inl _)]) (And.intro rfl (And.intro rfl (And.intro rfl (And.intro ⟨⟨_, rfl⟩, rfl⟩ ?_))))))
            refine Exists.intro _ (Exists.intro _ (Exists.intro _ (Exists.intro _ (Exists.intro _ (Exists.intro _ (Exists.intro _ (Exists.intro _ (Exists.intro _ (Exists.intro _ (Exists.intro _ (Exists.intro _ (Exists.intro _ (Exists.intro _ (Exists.intro _ (Exists.intro _ (Exists.intro _ (Exists.intro _ (Exists.intro _ (Exists.intro _ (Exists.intro _ (Exists.intro _ (And.intro rfl (And.intro rfl (And.intro (by first | omega | assumption | exact q_rg_up (by assumption) (by omega) | exact q_rg_up (q_rg_up (by assumption) (by omega)) (by omega) | exact q_rg_cpy (by assumption) (by assumption)) (And.intro (by first | omega | assumption | exact q_rg_up (by assumption) (by omega) | exact q_rg_up (q_rg_up (by assumption) (by omega)) (by omega) | exact q_rg_cpy (by assumption) (by assumption)) (And.intro (by first | omega | assumption | exact q_rg_up (by assumption) (by omega) | exact q_rg_up (q_rg_up (by assumption) (by omega)) (by omega) | exact q_rg_cpy (by assumption) (by assumption)) (?_)))))))))))))))))))))))))))
            intro z190 h190
            obtain ⟨h190, k190⟩ := h190
            first | replace k190 := OFQ_13 k190 (by omega) | replace k190 := OFQ_21 k190 (by omega) | clear k190
            exact hQ _ _ _ _ (by first | exact Or.inr ⟨h7, rfl⟩ | exact Or.inl ⟨⟨h7.2.1.1, h7.2.1.2⟩, Bd_1y h116 h7.1 h7.2.1.1 (by omega) (by omega) (by omega) h7.2.2.2.2.2 h7.1 (by omega) (by omega)⟩ | exact Or.inl ⟨⟨h7.2.1.1, h7.2.1.2⟩, Bd_1n h7.2.1.1 (by omega) h7.2.2.2.2.2 h7.1 (by omega)⟩ | exact Or.inl ⟨⟨h7.2.1.1, h7.2.1.2⟩, Bd_2y h138 h7.1 h7.2.1.1 (by omega) (by omega) (by omega) h7.2.2.2.2.2 h7.1 (by omega) (by omega)⟩ | exact Or.inl ⟨⟨h7.2.1.1, h7.2.1.2⟩, Bd_2n h7.2.1.1 (by omega) h7.2.2.2.2.2 h7.1 (by omega)⟩ | exact Or.inl ⟨⟨h7.2.1.1, h7.2.1.2⟩, Bd_3y h190 h7.1 h7.2.1.1 (by omega) (by omega) (by omega) h174 h7.1 (by omega) (by omega)⟩ | exact Or.inl ⟨⟨h7.2.1.1, h7.2.1.2⟩, Bd_3n h7.2.1.1 (by omega) h174 h7.1 (by omega)⟩ | exact Or.inl ⟨⟨h7.2.1.1, h7.2.1.2⟩, Bd_4y h219 h7.1 h7.2.1.1 (by omega) (by omega) (by omega) h203 h7.1 (by omega) (by omega)⟩ | exact Or.inl ⟨⟨h7.2.1.1, h7.2.1.2⟩, Bd_4n h7.2.1.1 (by omega) h203 h7.1 (by omega)⟩ | exact Or.inl ⟨⟨h7.2.1.1, h7.2.1.2⟩, Bd_5y h248 h7.1 h7.2.1.1 (by omega) (by omega) (by omega) h232 h7.1 (by omega) (by omega)⟩ | exact Or.inl ⟨⟨h7.2.1.1, h7.2.1.2⟩, Bd_5n h7.2.1.1 (by omega) h232 h7.1 (by omega)⟩ | exact Or.inl ⟨⟨h7.2.1.1, h7.2.1.2⟩, Bd_8y h161 h7.1 h7.2.1.1 (by omega) (by omega) (by omega)⟩ | exact Or.inl ⟨⟨h7.2.1.1, h7.2.1.2⟩, Bd_8n (by omega)⟩ | exact Or.inl ⟨⟨h7.2.1.1, h7.2.1.2⟩, Bd_9y (q := z33) h48 h7.1 h7.2.1.1 (by omega) (by omega) (by omega) h7.2.2.2.2.2 h7.1 (by omega)⟩ | exact Or.inl ⟨⟨h7.2.1.1, h7.2.1.2⟩, Bd_9n (q := z33) h7.2.1.1 (by omega) (by omega) h7.2.2.2.2.2 h7.1 (by omega)⟩ | exact Or.inl ⟨⟨h7.2.1.1, h7.2.1.2⟩, Bd_0 h268 h7.1 h7.2.1.1 (by omega)⟩ | (refine Or.inl ⟨⟨h7.2.1.1, h7.2.1.2⟩, ?_⟩; rcases (show b < 10 ∨ 102 ≤ b by omega) with c9 | c9; exact Bd_00 c9 (by omega); exact Bd_9z c9))
        apply And.intro
        · intro h66
          refine Exists.intro [0, 2, 3, 4, 5, 6, 1, 7, 8, 9, 10, 11, 12, 13, 14, 15, 16, 17, 18, 19, 20, 21, 22, 23, 24, 25] (Exists.intro [q2 0, q1 _] (Exists.intro ([.inr (12, [q1 _, q2 2, q2 3, q2 4, q2 5, q2 6, q2 1, q2 7, q2 8, q2 9, q1 _, q1 _, q1 _, q1 _, q1 _, q3 _, q1 _, q1 _, q1 _, q2 10, q2 11, q1 _, q1 _, q1 _, q1 _, q1 _, q1 _, q2 12, q1 _, q2 13, q2 14, q2 15, q2 16, q1 _, q2 17, q1 _, q2 18, q2 19, q2 20, q2 21, q2 22, q1 _, q2 23, q2 24, q2 25]), .inl (0, 600, .inl _)]) (And.intro rfl (And.intro rfl (And.intro rfl (And.intro ⟨⟨_, rfl⟩, rfl⟩ ?_))))))
          refine Exists.intro _ (Exists.intro _ (Exists.intro _ (Exists.intro _ (Exists.intro _ (Exists.intro _ (Exists.intro _ (Exists.intro _ (Exists.intro _ (Exists.intro _ (Exists.intro _ (Exists.intro _ (Exists.intro _ (Exists.intro _ (Exists.intro _ (Exists.intro _ (Exists.intro _ (Exists.intro _ (Exists.intro _ (Exists.intro _ (Exists.intro _ (Exists.intro _ (And.intro rfl (And.intro rfl (And.intro (by first | omega | assumption | exact q_rg_up (by assumption) (by omega) | exact q_rg_up (q_rg_up (by assumption) (by omega)) (by omega) | exact q_rg_cpy (by assumption) (by assumption)) (And.intro (by first | omega | assumption | exact q_rg_up (by assumption) (by omega) | exact q_rg_up (q_rg_up (by assumption) (by omega)) (by omega) | exact q_rg_cpy (by assumption) (by assumption)) (And.intro (by first | omega | assumption | exact q_rg_up (by assumption) (by omega) | exact q_rg_up (q_rg_up (by assumption) (by omega)) (by omega) | exact q_rg_cpy (by assumption) (by assumption)) (?_)))))))))))))))))))))))))))
          intro z203 h203
          obtain ⟨h203, k203⟩ := h203
          replace k203 := OFQ_3 k203 (by omega)
          intro z207 h207
          first | replace h207 := e_sub h207 (by omega) | replace h207 := e_rng h207
          refine Exists.intro [] (Exists.intro [q1 _, q1 _, q1 _] (Exists.intro [] (And.intro rfl (And.intro rfl (And.intro rfl (And.intro trivial ?_))))))
          refine Exists.intro _ (Exists.intro _ (Exists.intro _ (And.intro rfl (And.intro rfl (?_)))))
          intro z208 h208
          apply And.intro
          · intro h211
            first | replace h208 := dj1 h208 h211 | replace h208 := dj0 h208 h211
            exact hQ _ _ _ _ (by first | exact Or.inr ⟨h7, rfl⟩ | exact Or.inl ⟨⟨h7.2.1.1, h7.2.1.2⟩, Bd_1y h116 h7.1 h7.2.1.1 (by omega) (by omega) (by omega) h7.2.2.2.2.2 h7.1 (by omega) (by omega)⟩ | exact Or.inl ⟨⟨h7.2.1.1, h7.2.1.2⟩, Bd_1n h7.2.1.1 (by omega) h7.2.2.2.2.2 h7.1 (by omega)⟩ | exact Or.inl ⟨⟨h7.2.1.1, h7.2.1.2⟩, Bd_2y h138 h7.1 h7.2.1.1 (by omega) (by omega) (by omega) h7.2.2.2.2.2 h7.1 (by omega) (by omega)⟩ | exact Or.inl ⟨⟨h7.2.1.1, h7.2.1.2⟩, Bd_2n h7.2.1.1 (by omega) h7.2.2.2.2.2 h7.1 (by omega)⟩ | exact Or.inl ⟨⟨h7.2.1.1, h7.2.1.2⟩, Bd_3y h190 h7.1 h7.2.1.1 (by omega) (by omega) (by omega) h174 h7.1 (by omega) (by omega)⟩ | exact Or.inl ⟨⟨h7.2.1.1, h7.2.1.2⟩, Bd_3n h7.2.1.1 (by omega) h174 h7.1 (by omega)⟩ | exact Or.inl ⟨⟨h7.2.1.1, h7.2.1.2⟩, Bd_4y h219 h7.1 h7.2.1.1 (by omega) (by omega) (by omega) h203 h7.1 (by omega) (by omega)⟩ | exact Or.inl ⟨⟨h7.2.1.1, h7.2.1.2⟩, Bd_4n h7.2.1.1 (by omega) h203 h7.1 (by omega)⟩ | exact Or.inl ⟨⟨h7.2.1.1, h7.2.1.2⟩, Bd_5y h248 h7.1 h7.2.1.1 (by omega) (by omega) (by omega) h232 h7.1 (by omega) (by omega)⟩ | exact Or.inl ⟨⟨h7.2.1.1, h7.2.1.2⟩, Bd_5n h7.2.1.1 (by omega) h232 h7.1 (by omega)⟩ | exact Or.inl ⟨⟨h7.2.1.1, h7.2.1.2⟩, Bd_8y h161 h7.1 h7.2.1.1 (by omega) (by omega) (by omega)⟩ | exact Or.inl ⟨⟨h7.2.1.1, h7.2.1.2⟩, Bd_8n (by omega)⟩ | exact Or.inl ⟨⟨h7.2.1.1, h7.2.1.2⟩, Bd_9y (q := z33) h48 h7.1 h7.2.1.1 (by omega) (by omega) (by omega) h7.2.2.2.2.2 h7.1 (by omega)⟩ | exact Or.inl ⟨⟨h7.2.1.1, h7.2.1.2⟩, Bd_9n (q := z33) h7.2.1.1 (by omega) (by omega) h7.2.2.2.2.2 h7.1 (by omega)⟩ | exact Or.inl ⟨⟨h7.2.1.1, h7.2.1.2⟩, Bd_0 h268 h7.1 h7.2.1.1 (by omega)⟩ | (refine Or.inl ⟨⟨h7.2.1.1, h7.2.1.2⟩, ?_⟩; rcases (show b < 10 ∨ 102 ≤ b by omega) with c9 | c9; exact Bd_00 c9 (by omega); exact Bd_9z c9))
          · intro h211
            first | replace h208 := dj1 h208 h211 | replace h208 := dj0 h208 h211
            intro z218 h218
            first | replace h218 := e_add h218 (by omega) | replace h218 := e_rng h218
            refine Exists.intro [0, 2, 3, 4, 5, 6, 1, 7, 8, 9, 10, 11, 12, 13, 14, 15, 16, 17, 18, 19, 20, 21, 22, 23, 24, 25] (Exists.intro [q2 0, q1 _] (Exists.intro ([.inr (12, [q1 _, q2 2, q2 3, q2 4, q2 5, q2 6, q2 1, q2 7, q2 8, q2 9, q1 _, q1 _, q1 _, q1 _, q1 _, q3 _, q1 _, q1 _, q1 _, q2 10, q2 11, q1 _, q1 _, q1 _, q1 _, q1 _, q1 _, q2 12, q1 _, q2 13, q2 14, q2 15, q2 16, q1 _, q2 17, q1 _, q2 18, q2 19, q2 20, q2 21, q2 22, q1 _, q2 23, q2 24, q2 25]), .inl (0, 600, .inl _)]) (And.intro rfl (And.intro rfl (And.intro rfl (And.intro ⟨⟨_, rfl⟩, rfl⟩ ?_))))))
            refine Exists.intro _ (Exists.intro _ (Exists.intro _ (Exists.intro _ (Exists.intro _ (Exists.intro _ (Exists.intro _ (Exists.intro _ (Exists.intro _ (Exists.intro _ (Exists.intro _ (Exists.intro _ (Exists.intro _ (Exists.intro _ (Exists.intro _ (Exists.intro _ (Exists.intro _ (Exists.intro _ (Exists.intro _ (Exists.intro _ (Exists.intro _ (Exists.intro _ (And.intro rfl (And.intro rfl (And.intro (by first | omega | assumption | exact q_rg_up (by assumption) (by omega) | exact q_rg_up (q_rg_up (by assumption) (by omega)) (by omega) | exact q_rg_cpy (by assumption) (by assumption)) (And.intro (by first | omega | assumption | exact q_rg_up (by assumption) (by omega) | exact q_rg_up (q_rg_up (by assumption) (by omega)) (by omega) | exact q_rg_cpy (by assumption) (by assumption)) (And.intro (by first | omega | assumption | exact q_rg_up (by assumption) (by omega) | exact q_rg_up (q_rg_up (by assumption) (by omega)) (by omega) | exact q_rg_cpy (by assumption) (by assumption)) (?_)))))))))))))))))))))))))))
            intro z219 h219
            obtain ⟨h219, k219⟩ := h219
            first | replace k219 := OFQ_13 k219 (by omega) | replace k219 := OFQ_21 k219 (by omega) | clear k219
            exact hQ _ _ _ _ (by first | exact Or.inr ⟨h7, rfl⟩ | exact Or.inl ⟨⟨h7.2.1.1, h7.2.1.2⟩, Bd_1y h116 h7.1 h7.2.1.1 (by omega) (by omega) (by omega) h7.2.2.2.2.2 h7.1 (by omega) (by omega)⟩ | exact Or.inl ⟨⟨h7.2.1.1, h7.2.1.2⟩, Bd_1n h7.2.1.1 (by omega) h7.2.2.2.2.2 h7.1 (by omega)⟩ | exact Or.inl ⟨⟨h7.2.1.1, h7.2.1.2⟩, Bd_2y h138 h7.1 h7.2.1.1 (by omega) (by omega) (by omega) h7.2.2.2.2.2 h7.1 (by omega) (by omega)⟩ | exact Or.inl ⟨⟨h7.2.1.1, h7.2.1.2⟩, Bd_2n h7.2.1.1 (by omega) h7.2.2.2.2.2 h7.1 (by omega)⟩ | exact Or.inl ⟨⟨h7.2.1.1, h7.2.1.2⟩, Bd_3y h190 h7.1 h7.2.1.1 (by omega) (by omega) (by omega) h174 h7.1 (by omega) (by omega)⟩ | exact Or.inl ⟨⟨h7.2.1.1, h7.2.1.2⟩, Bd_3n h7.2.1.1 (by omega) h174 h7.1 (by omega)⟩ | exact Or.inl ⟨⟨h7.2.1.1, h7.2.1.2⟩, Bd_4y h219 h7.1 h7.2.1.1 (by omega) (by omega) (by omega) h203 h7.1 (by omega) (by omega)⟩ | exact Or.inl ⟨⟨h7.2.1.1, h7.2.1.2⟩, Bd_4n h7.2.1.1 (by omega) h203 h7.1 (by omega)⟩ | exact Or.inl ⟨⟨h7.2.1.1, h7.2.1.2⟩, Bd_5y h248 h7.1 h7.2.1.1 (by omega) (by omega) (by omega) h232 h7.1 (by omega) (by omega)⟩ | exact Or.inl ⟨⟨h7.2.1.1, h7.2.1.2⟩, Bd_5n h7.2.1.1 (by omega) h232 h7.1 (by omega)⟩ | exact Or.inl ⟨⟨h7.2.1.1, h7.2.1.2⟩, Bd_8y h161 h7.1 h7.2.1.1 (by omega) (by omega) (by omega)⟩ | exact Or.inl ⟨⟨h7.2.1.1, h7.2.1.2⟩, Bd_8n (by omega)⟩ | exact Or.inl ⟨⟨h7.2.1.1, h7.2.1.2⟩, Bd_9y (q := z33) h48 h7.1 h7.2.1.1 (by omega) (by omega) (by omega) h7.2.2.2.2.2 h7.1 (by omega)⟩ | exact Or.inl ⟨⟨h7.2.1.1, h7.2.1.2⟩, Bd_9n (q := z33) h7.2.1.1 (by omega) (by omega) h7.2.2.2.2.2 h7.1 (by omega)⟩ | exact Or.inl ⟨⟨h7.2.1.1, h7.2.1.2⟩, Bd_0 h268 h7.1 h7.2.1.1 (by omega)⟩ | (refine Or.inl ⟨⟨h7.2.1.1, h7.2.1.2⟩, ?_⟩; rcases (show b < 10 ∨ 102 ≤ b by omega) with c9 | c9; exact Bd_00 c9 (by omega); exact Bd_9z c9))
        apply And.intro
        · intro h66
          refine Exists.intro [0, 2, 3, 4, 5, 6, 1, 7, 8, 9, 10, 11, 12, 13, 14, 15, 16, 17, 18, 19, 20, 21, 22, 23, 24, 25] (Exists.intro [q2 0, q1 _] (Exists.intro ([.inr (12, [q1 _, q2 2, q2 3, q2 4, q2 5, q2 6, q2 1, q2 7, q2 8, q2 9, q1 _, q1 _, q1 _, q1 _, q1 _, q3 _, q1 _, q1 _, q1 _, q2 10, q2 11, q1 _, q1 _, q1 _, q1 _, q1 _, q1 _, q2 12, q1 _, q2 13, q2 14, q2 15, q2 16, q1 _, q2 17, q1 _, q2 18, q2 19, q2 20, q2 21, q2 22, q1 _, q2 23, q2 24, q2 25]), .inl (0, 600, .inl _)]) (And.intro rfl (And.intro rfl (And.intro rfl (And.intro ⟨⟨_, rfl⟩, rfl⟩ ?_))))))
          refine Exists.intro _ (Exists.intro _ (Exists.intro _ (Exists.intro _ (Exists.intro _ (Exists.intro _ (Exists.intro _ (Exists.intro _ (Exists.intro _ (Exists.intro _ (Exists.intro _ (Exists.intro _ (Exists.intro _ (Exists.intro _ (Exists.intro _ (Exists.intro _ (Exists.intro _ (Exists.intro _ (Exists.intro _ (Exists.intro _ (Exists.intro _ (Exists.intro _ (And.intro rfl (And.intro rfl (And.intro (by first | omega | assumption | exact q_rg_up (by assumption) (by omega) | exact q_rg_up (q_rg_up (by assumption) (by omega)) (by omega) | exact q_rg_cpy (by assumption) (by assumption)) (And.intro (by first | omega | assumption | exact q_rg_up (by assumption) (by omega) | exact q_rg_up (q_rg_up (by assumption) (by omega)) (by omega) | exact q_rg_cpy (by assumption) (by assumption)) (And.intro (by first | omega | assumption | exact q_rg_up (by assumption) (by omega) | exact q_rg_up (q_rg_up (by assumption) (by omega)) (by omega) | exact q_rg_cpy (by assumption) (by assumption)) (?_)))))))))))))))))))))))))))
          intro z232 h232
          obtain ⟨h232, k232⟩ := h232
          replace k232 := OFQ_3 k232 (by omega)
          intro z236 h236
          first | replace h236 := e_sub h236 (by omega) | replace h236 := e_rng h236
          refine Exists.intro [] (Exists.intro [q1 _, q1 _, q1 _] (Exists.intro [] (And.intro rfl (And.intro rfl (And.intro rfl (And.intro trivial ?_))))))
          refine Exists.intro _ (Exists.intro _ (Exists.intro _ (And.intro rfl (And.intro rfl (?_)))))
          intro z237 h237
          apply And.intro
          · intro h240
            first | replace h237 := dj1 h237 h240 | replace h237 := dj0 h237 h240
            exact hQ _ _ _ _ (by first | exact Or.inr ⟨h7, rfl⟩ | exact Or.inl ⟨⟨h7.2.1.1, h7.2.1.2⟩, Bd_1y h116 h7.1 h7.2.1.1 (by omega) (by omega) (by omega) h7.2.2.2.2.2 h7.1 (by omega) (by omega)⟩ | exact Or.inl ⟨⟨h7.2.1.1, h7.2.1.2⟩, Bd_1n h7.2.1.1 (by omega) h7.2.2.2.2.2 h7.1 (by omega)⟩ | exact Or.inl ⟨⟨h7.2.1.1, h7.2.1.2⟩, Bd_2y h138 h7.1 h7.2.1.1 (by omega) (by omega) (by omega) h7.2.2.2.2.2 h7.1 (by omega) (by omega)⟩ | exact Or.inl ⟨⟨h7.2.1.1, h7.2.1.2⟩, Bd_2n h7.2.1.1 (by omega) h7.2.2.2.2.2 h7.1 (by omega)⟩ | exact Or.inl ⟨⟨h7.2.1.1, h7.2.1.2⟩, Bd_3y h190 h7.1 h7.2.1.1 (by omega) (by omega) (by omega) h174 h7.1 (by omega) (by omega)⟩ | exact Or.inl ⟨⟨h7.2.1.1, h7.2.1.2⟩, Bd_3n h7.2.1.1 (by omega) h174 h7.1 (by omega)⟩ | exact Or.inl ⟨⟨h7.2.1.1, h7.2.1.2⟩, Bd_4y h219 h7.1 h7.2.1.1 (by omega) (by omega) (by omega) h203 h7.1 (by omega) (by omega)⟩ | exact Or.inl ⟨⟨h7.2.1.1, h7.2.1.2⟩, Bd_4n h7.2.1.1 (by omega) h203 h7.1 (by omega)⟩ | exact Or.inl ⟨⟨h7.2.1.1, h7.2.1.2⟩, Bd_5y h248 h7.1 h7.2.1.1 (by omega) (by omega) (by omega) h232 h7.1 (by omega) (by omega)⟩ | exact Or.inl ⟨⟨h7.2.1.1, h7.2.1.2⟩, Bd_5n h7.2.1.1 (by omega) h232 h7.1 (by omega)⟩ | exact Or.inl ⟨⟨h7.2.1.1, h7.2.1.2⟩, Bd_8y h161 h7.1 h7.2.1.1 (by omega) (by omega) (by omega)⟩ | exact Or.inl ⟨⟨h7.2.1.1, h7.2.1.2⟩, Bd_8n (by omega)⟩ | exact Or.inl ⟨⟨h7.2.1.1, h7.2.1.2⟩, Bd_9y (q := z33) h48 h7.1 h7.2.1.1 (by omega) (by omega) (by omega) h7.2.2.2.2.2 h7.1 (by omega)⟩ | exact Or.inl ⟨⟨h7.2.1.1, h7.2.1.2⟩, Bd_9n (q := z33) h7.2.1.1 (by omega) (by omega) h7.2.2.2.2.2 h7.1 (by omega)⟩ | exact Or.inl ⟨⟨h7.2.1.1, h7.2.1.2⟩, Bd_0 h268 h7.1 h7.2.1.1 (by omega)⟩ | (refine Or.inl ⟨⟨h7.2.1.1, h7.2.1.2⟩, ?_⟩; rcases (show b < 10 ∨ 102 ≤ b by omega) with c9 | c9; exact Bd_00 c9 (by omega); exact Bd_9z c9))
          · intro h240
            first | replace h237 := dj1 h237 h240 | replace h237 := dj0 h237 h240
            intro z247 h247
            first | replace h247 := e_add h247 (by omega) | replace h247 := e_rng h247
            refine Exists.intro [0, 2, 3, 4, 5, 6, 1, 7, 8, 9, 10, 11, 12, 13, 14, 15, 16, 17, 18, 19, 20, 21, 22, 23, 24, 25] (Exists.intro [q2 0, q1 _] (Exists.intro ([.inr (12, [q1 _, q2 2, q2 3, q2 4, q2 5, q2 6, q2 1, q2 7, q2 8, q2 9, q1 _, q1 _, q1 _, q1 _, q1 _, q3 _, q1 _, q1 _, q1 _, q2 10, q2 11, q1 _, q1 _, q1 _, q1 _, q1 _, q1 _, q2 12, q1 _, q2 13, q2 14, q2 15, q2 16, q1 _, q2 17, q1 _, q2 18, q2 19, q2 20, q2 21, q2 22, q1 _, q2 23, q2 24, q2 25]), .inl (0, 600, .inl _)]) (And.intro rfl (And.intro rfl (And.intro rfl (And.intro ⟨⟨_, rfl⟩, rfl⟩ ?_))))))
            refine Exists.intro _ (Exists.intro _ (Exists.intro _ (Exists.intro _ (Exists.intro _ (Exists.intro _ (Exists.intro _ (Exists.intro _ (Exists.intro _ (Exists.intro _ (Exists.intro _ (Exists.intro _ (Exists.intro _ (Exists.intro _ (Exists.intro _ (Exists.intro _ (Exists.intro _ (Exists.intro _ (Exists.intro _ (Exists.intro _ (Exists.intro _ (Exists.intro _ (And.intro rfl (And.intro rfl (And.intro (by first | omega | assumption | exact q_rg_up (by assumption) (by omega) | exact q_rg_up (q_rg_up (by assumption) (by omega)) (by omega) | exact q_rg_cpy (by assumption) (by assumption)) (And.intro (by first | omega | assumption | exact q_rg_up (by assumption) (by omega) | exact q_rg_up (q_rg_up (by assumption) (by omega)) (by omega) | exact q_rg_cpy (by assumption) (by assumption)) (And.intro (by first | omega | assumption | exact q_rg_up (by assumption) (by omega) | exact q_rg_up (q_rg_up (by assumption) (by omega)) (by omega) | exact q_rg_cpy (by assumption) (by assumption)) (?_)))))))))))))))))))))))))))
            intro z248 h248
            obtain ⟨h248, k248⟩ := h248
            first | replace k248 := OFQ_13 k248 (by omega) | replace k248 := OFQ_21 k248 (by omega) | clear k248
            exact hQ _ _ _ _ (by first | exact Or.inr ⟨h7, rfl⟩ | exact Or.inl ⟨⟨h7.2.1.1, h7.2.1.2⟩, Bd_1y h116 h7.1 h7.2.1.1 (by omega) (by omega) (by omega) h7.2.2.2.2.2 h7.1 (by omega) (by omega)⟩ | exact Or.inl ⟨⟨h7.2.1.1, h7.2.1.2⟩, Bd_1n h7.2.1.1 (by omega) h7.2.2.2.2.2 h7.1 (by omega)⟩ | exact Or.inl ⟨⟨h7.2.1.1, h7.2.1.2⟩, Bd_2y h138 h7.1 h7.2.1.1 (by omega) (by omega) (by omega) h7.2.2.2.2.2 h7.1 (by omega) (by omega)⟩ | exact Or.inl ⟨⟨h7.2.1.1, h7.2.1.2⟩, Bd_2n h7.2.1.1 (by omega) h7.2.2.2.2.2 h7.1 (by omega)⟩ | exact Or.inl ⟨⟨h7.2.1.1, h7.2.1.2⟩, Bd_3y h190 h7.1 h7.2.1.1 (by omega) (by omega) (by omega) h174 h7.1 (by omega) (by omega)⟩ | exact Or.inl ⟨⟨h7.2.1.1, h7.2.1.2⟩, Bd_3n h7.2.1.1 (by omega) h174 h7.1 (by omega)⟩ | exact Or.inl ⟨⟨h7.2.1.1, h7.2.1.2⟩, Bd_4y h219 h7.1 h7.2.1.1 (by omega) (by omega) (by omega) h203 h7.1 (by omega) (by omega)⟩ | exact Or.inl ⟨⟨h7.2.1.1, h7.2.1.2⟩, Bd_4n h7.2.1.1 (by omega) h203 h7.1 (by omega)⟩ | exact Or.inl ⟨⟨h7.2.1.1, h7.2.1.2⟩, Bd_5y h248 h7.1 h7.2.1.1 (by omega) (by omega) (by omega) h232 h7.1 (by omega) (by omega)⟩ | exact Or.inl ⟨⟨h7.2.1.1, h7.2.1.2⟩, Bd_5n h7.2.1.1 (by omega) h232 h7.1 (by omega)⟩ | exact Or.inl ⟨⟨h7.2.1.1, h7.2.1.2⟩, Bd_8y h161 h7.1 h7.2.1.1 (by omega) (by omega) (by omega)⟩ | exact Or.inl ⟨⟨h7.2.1.1, h7.2.1.2⟩, Bd_8n (by omega)⟩ | exact Or.inl ⟨⟨h7.2.1.1, h7.2.1.2⟩, Bd_9y (q := z33) h48 h7.1 h7.2.1.1 (by omega) (by omega) (by omega) h7.2.2.2.2.2 h7.1 (by omega)⟩ | exact Or.inl ⟨⟨h7.2.1.1, h7.2.1.2⟩, Bd_9n (q := z33) h7.2.1.1 (by omega) (by omega) h7.2.2.2.2.2 h7.1 (by omega)⟩ | exact Or.inl ⟨⟨h7.2.1.1, h7.2.1.2⟩, Bd_0 h268 h7.1 h7.2.1.1 (by omega)⟩ | (refine Or.inl ⟨⟨h7.2.1.1, h7.2.1.2⟩, ?_⟩; rcases (show b < 10 ∨ 102 ≤ b by omega) with c9 | c9; exact Bd_00 c9 (by omega); exact Bd_9z c9))
        exact trivial
      · intro h66
        refine Exists.intro [] (Exists.intro [q1 _, q1 _, q1 _] (Exists.intro [] (And.intro rfl (And.intro rfl (And.intro rfl (And.intro trivial ?_))))))
        refine Exists.intro _ (Exists.intro _ (Exists.intro _ (And.intro rfl (And.intro rfl (?_)))))
        intro z260 h260
        apply And.intro
        · intro h263
          first | replace h260 := dj1 h260 h263 | replace h260 := dj0 h260 h263
          exact hQ _ _ _ _ (by first | exact Or.inr ⟨h7, rfl⟩ | exact Or.inl ⟨⟨h7.2.1.1, h7.2.1.2⟩, Bd_1y h116 h7.1 h7.2.1.1 (by omega) (by omega) (by omega) h7.2.2.2.2.2 h7.1 (by omega) (by omega)⟩ | exact Or.inl ⟨⟨h7.2.1.1, h7.2.1.2⟩, Bd_1n h7.2.1.1 (by omega) h7.2.2.2.2.2 h7.1 (by omega)⟩ | exact Or.inl ⟨⟨h7.2.1.1, h7.2.1.2⟩, Bd_2y h138 h7.1 h7.2.1.1 (by omega) (by omega) (by omega) h7.2.2.2.2.2 h7.1 (by omega) (by omega)⟩ | exact Or.inl ⟨⟨h7.2.1.1, h7.2.1.2⟩, Bd_2n h7.2.1.1 (by omega) h7.2.2.2.2.2 h7.1 (by omega)⟩ | exact Or.inl ⟨⟨h7.2.1.1, h7.2.1.2⟩, Bd_3y h190 h7.1 h7.2.1.1 (by omega) (by omega) (by omega) h174 h7.1 (by omega) (by omega)⟩ | exact Or.inl ⟨⟨h7.2.1.1, h7.2.1.2⟩, Bd_3n h7.2.1.1 (by omega) h174 h7.1 (by omega)⟩ | exact Or.inl ⟨⟨h7.2.1.1, h7.2.1.2⟩, Bd_4y h219 h7.1 h7.2.1.1 (by omega) (by omega) (by omega) h203 h7.1 (by omega) (by omega)⟩ | exact Or.inl ⟨⟨h7.2.1.1, h7.2.1.2⟩, Bd_4n h7.2.1.1 (by omega) h203 h7.1 (by omega)⟩ | exact Or.inl ⟨⟨h7.2.1.1, h7.2.1.2⟩, Bd_5y h248 h7.1 h7.2.1.1 (by omega) (by omega) (by omega) h232 h7.1 (by omega) (by omega)⟩ | exact Or.inl ⟨⟨h7.2.1.1, h7.2.1.2⟩, Bd_5n h7.2.1.1 (by omega) h232 h7.1 (by omega)⟩ | exact Or.inl ⟨⟨h7.2.1.1, h7.2.1.2⟩, Bd_8y h161 h7.1 h7.2.1.1 (by omega) (by omega) (by omega)⟩ | exact Or.inl ⟨⟨h7.2.1.1, h7.2.1.2⟩, Bd_8n (by omega)⟩ | exact Or.inl ⟨⟨h7.2.1.1, h7.2.1.2⟩, Bd_9y (q := z33) h48 h7.1 h7.2.1.1 (by omega) (by omega) (by omega) h7.2.2.2.2.2 h7.1 (by omega)⟩ | exact Or.inl ⟨⟨h7.2.1.1, h7.2.1.2⟩, Bd_9n (q := z33) h7.2.1.1 (by omega) (by omega) h7.2.2.2.2.2 h7.1 (by omega)⟩ | exact Or.inl ⟨⟨h7.2.1.1, h7.2.1.2⟩, Bd_0 h268 h7.1 h7.2.1.1 (by omega)⟩ | (refine Or.inl ⟨⟨h7.2.1.1, h7.2.1.2⟩, ?_⟩; rcases (show b < 10 ∨ 102 ≤ b by omega) with c9 | c9; exact Bd_00 c9 (by omega); exact Bd_9z c9))
        · intro h263
          first | replace h260 := dj1 h260 h263 | replace h260 := dj0 h260 h263
          refine Exists.intro [0, 2, 3, 4, 5, 6, 1, 7, 8, 9, 10, 11, 12, 13, 14, 15, 16, 17, 18, 19, 20, 21, 22, 23, 24, 25] (Exists.intro [q2 0, q1 _] (Exists.intro ([.inr (12, [q1 _, q2 2, q2 3, q2 4, q2 5, q2 6, q2 1, q2 7, q2 8, q2 9, q1 _, q1 _, q1 _, q1 _, q1 _, q3 _, q1 _, q1 _, q1 _, q2 10, q2 11, q1 _, q1 _, q1 _, q1 _, q1 _, q1 _, q2 12, q1 _, q2 13, q2 14, q2 15, q2 16, q1 _, q2 17, q1 _, q2 18, q2 19, q2 20, q2 21, q2 22, q1 _, q2 23, q2 24, q2 25]), .inl (0, 600, .inl _)]) (And.intro rfl (And.intro rfl (And.intro rfl (And.intro ⟨⟨_, rfl⟩, rfl⟩ ?_))))))
          refine Exists.intro _ (Exists.intro _ (Exists.intro _ (Exists.intro _ (Exists.intro _ (Exists.intro _ (Exists.intro _ (Exists.intro _ (Exists.intro _ (Exists.intro _ (Exists.intro _ (Exists.intro _ (Exists.intro _ (Exists.intro _ (Exists.intro _ (Exists.intro _ (Exists.intro _ (Exists.intro _ (Exists.intro _ (Exists.intro _ (Exists.intro _ (Exists.intro _ (And.intro rfl (And.intro rfl (And.intro (by first | omega | assumption | exact q_rg_up (by assumption) (by omega) | exact q_rg_up (q_rg_up (by assumption) (by omega)) (by omega) | exact q_rg_cpy (by assumption) (by assumption)) (And.intro (by first | omega | assumption | exact q_rg_up (by assumption) (by omega) | exact q_rg_up (q_rg_up (by assumption) (by omega)) (by omega) | exact q_rg_cpy (by assumption) (by assumption)) (And.intro (by first | omega | assumption | exact q_rg_up (by assumption) (by omega) | exact q_rg_up (q_rg_up (by assumption) (by omega)) (by omega) | exact q_rg_cpy (by assumption) (by assumption)) (?_)))))))))))))))))))))))))))
          intro z268 h268
          obtain ⟨h268, k268⟩ := h268
          first | replace k268 := OFQ_13 k268 (by omega) | replace k268 := OFQ_21 k268 (by omega) | clear k268
          exact hQ _ _ _ _ (by first | exact Or.inr ⟨h7, rfl⟩ | exact Or.inl ⟨⟨h7.2.1.1, h7.2.1.2⟩, Bd_1y h116 h7.1 h7.2.1.1 (by omega) (by omega) (by omega) h7.2.2.2.2.2 h7.1 (by omega) (by omega)⟩ | exact Or.inl ⟨⟨h7.2.1.1, h7.2.1.2⟩, Bd_1n h7.2.1.1 (by omega) h7.2.2.2.2.2 h7.1 (by omega)⟩ | exact Or.inl ⟨⟨h7.2.1.1, h7.2.1.2⟩, Bd_2y h138 h7.1 h7.2.1.1 (by omega) (by omega) (by omega) h7.2.2.2.2.2 h7.1 (by omega) (by omega)⟩ | exact Or.inl ⟨⟨h7.2.1.1, h7.2.1.2⟩, Bd_2n h7.2.1.1 (by omega) h7.2.2.2.2.2 h7.1 (by omega)⟩ | exact Or.inl ⟨⟨h7.2.1.1, h7.2.1.2⟩, Bd_3y h190 h7.1 h7.2.1.1 (by omega) (by omega) (by omega) h174 h7.1 (by omega) (by omega)⟩ | exact Or.inl ⟨⟨h7.2.1.1, h7.2.1.2⟩, Bd_3n h7.2.1.1 (by omega) h174 h7.1 (by omega)⟩ | exact Or.inl ⟨⟨h7.2.1.1, h7.2.1.2⟩, Bd_4y h219 h7.1 h7.2.1.1 (by omega) (by omega) (by omega) h203 h7.1 (by omega) (by omega)⟩ | exact Or.inl ⟨⟨h7.2.1.1, h7.2.1.2⟩, Bd_4n h7.2.1.1 (by omega) h203 h7.1 (by omega)⟩ | exact Or.inl ⟨⟨h7.2.1.1, h7.2.1.2⟩, Bd_5y h248 h7.1 h7.2.1.1 (by omega) (by omega) (by omega) h232 h7.1 (by omega) (by omega)⟩ | exact Or.inl ⟨⟨h7.2.1.1, h7.2.1.2⟩, Bd_5n h7.2.1.1 (by omega) h232 h7.1 (by omega)⟩ | exact Or.inl ⟨⟨h7.2.1.1, h7.2.1.2⟩, Bd_8y h161 h7.1 h7.2.1.1 (by omega) (by omega) (by omega)⟩ | exact Or.inl ⟨⟨h7.2.1.1, h7.2.1.2⟩, Bd_8n (by omega)⟩ | exact Or.inl ⟨⟨h7.2.1.1, h7.2.1.2⟩, Bd_9y (q := z33) h48 h7.1 h7.2.1.1 (by omega) (by omega) (by omega) h7.2.2.2.2.2 h7.1 (by omega)⟩ | exact Or.inl ⟨⟨h7.2.1.1, h7.2.1.2⟩, Bd_9n (q := z33) h7.2.1.1 (by omega) (by omega) h7.2.2.2.2.2 h7.1 (by omega)⟩ | exact Or.inl ⟨⟨h7.2.1.1, h7.2.1.2⟩, Bd_0 h268 h7.1 h7.2.1.1 (by omega)⟩ | (refine Or.inl ⟨⟨h7.2.1.1, h7.2.1.2⟩, ?_⟩; rcases (show b < 10 ∨ 102 ≤ b by omega) with c9 | c9; exact Bd_00 c9 (by omega); exact Bd_9z c9))
    · intro h24
      first | replace h21 := dj1 h21 h24 | replace h21 := dj0 h21 h24
      intro z31 h31
      first | replace h31 := e_sub h31 (by omega) | replace h31 := e_rng h31
      apply And.intro
      · first | omega | (intro e9; omega)
      intro z33 h33
      first | replace h33 := e_div h33 (by omega) (by omega) | replace h33 := e_rng h33
      refine Exists.intro [0, 3, 4, 5, 6, 1, 2, 7, 8, 9, 10, 11, 12, 13, 14, 15, 16, 17, 18, 19, 20, 21, 22, 23, 24, 25] (Exists.intro [q2 0, q1 _] (Exists.intro ([.inr (12, [q1 _, q2 1, q2 2, q2 3, q2 4, q2 5, q2 6, q2 7, q2 8, q2 9, q1 _, q1 _, q1 _, q1 _, q1 _, q3 _, q1 _, q1 _, q1 _, q2 10, q2 11, q1 _, q1 _, q1 _, q1 _, q1 _, q1 _, q2 12, q1 _, q2 13, q2 14, q2 15, q2 16, q1 _, q2 17, q1 _, q2 18, q2 19, q2 20, q2 21, q2 22, q1 _, q2 23, q2 24, q2 25])]) (And.intro rfl (And.intro rfl (And.intro rfl (And.intro ⟨⟨_, rfl⟩, rfl⟩ ?_))))))
      refine Exists.intro _ (Exists.intro _ (Exists.intro _ (Exists.intro _ (Exists.intro _ (Exists.intro _ (Exists.intro _ (Exists.intro _ (Exists.intro _ (Exists.intro _ (Exists.intro _ (Exists.intro _ (Exists.intro _ (Exists.intro _ (Exists.intro _ (Exists.intro _ (Exists.intro _ (Exists.intro _ (Exists.intro _ (Exists.intro _ (Exists.intro _ (And.intro rfl (And.intro rfl (And.intro (by first | omega | assumption | exact q_rg_up (by assumption) (by omega) | exact q_rg_up (q_rg_up (by assumption) (by omega)) (by omega) | exact q_rg_cpy (by assumption) (by assumption)) (?_))))))))))))))))))))))))
      intro z34 h34
      apply And.intro
      · intro h37
        first | replace h34 := dj1 h34 h37 | replace h34 := dj0 h34 h37
        exact hQ _ _ _ _ (by first | exact Or.inr ⟨h7, rfl⟩ | exact Or.inl ⟨⟨h7.2.1.1, h7.2.1.2⟩, Bd_1y h116 h7.1 h7.2.1.1 (by omega) (by omega) (by omega) h7.2.2.2.2.2 h7.1 (by omega) (by omega)⟩ | exact Or.inl ⟨⟨h7.2.1.1, h7.2.1.2⟩, Bd_1n h7.2.1.1 (by omega) h7.2.2.2.2.2 h7.1 (by omega)⟩ | exact Or.inl ⟨⟨h7.2.1.1, h7.2.1.2⟩, Bd_2y h138 h7.1 h7.2.1.1 (by omega) (by omega) (by omega) h7.2.2.2.2.2 h7.1 (by omega) (by omega)⟩ | exact Or.inl ⟨⟨h7.2.1.1, h7.2.1.2⟩, Bd_2n h7.2.1.1 (by omega) h7.2.2.2.2.2 h7.1 (by omega)⟩ | exact Or.inl ⟨⟨h7.2.1.1, h7.2.1.2⟩, Bd_3y h190 h7.1 h7.2.1.1 (by omega) (by omega) (by omega) h174 h7.1 (by omega) (by omega)⟩ | exact Or.inl ⟨⟨h7.2.1.1, h7.2.1.2⟩, Bd_3n h7.2.1.1 (by omega) h174 h7.1 (by omega)⟩ | exact Or.inl ⟨⟨h7.2.1.1, h7.2.1.2⟩, Bd_4y h219 h7.1 h7.2.1.1 (by omega) (by omega) (by omega) h203 h7.1 (by omega) (by omega)⟩ | exact Or.inl ⟨⟨h7.2.1.1, h7.2.1.2⟩, Bd_4n h7.2.1.1 (by omega) h203 h7.1 (by omega)⟩ | exact Or.inl ⟨⟨h7.2.1.1, h7.2.1.2⟩, Bd_5y h248 h7.1 h7.2.1.1 (by omega) (by omega) (by omega) h232 h7.1 (by omega) (by omega)⟩ | exact Or.inl ⟨⟨h7.2.1.1, h7.2.1.2⟩, Bd_5n h7.2.1.1 (by omega) h232 h7.1 (by omega)⟩ | exact Or.inl ⟨⟨h7.2.1.1, h7.2.1.2⟩, Bd_8y h161 h7.1 h7.2.1.1 (by omega) (by omega) (by omega)⟩ | exact Or.inl ⟨⟨h7.2.1.1, h7.2.1.2⟩, Bd_8n (by omega)⟩ | exact Or.inl ⟨⟨h7.2.1.1, h7.2.1.2⟩, Bd_9y (q := z33) h48 h7.1 h7.2.1.1 (by omega) (by omega) (by omega) h7.2.2.2.2.2 h7.1 (by omega)⟩ | exact Or.inl ⟨⟨h7.2.1.1, h7.2.1.2⟩, Bd_9n (q := z33) h7.2.1.1 (by omega) (by omega) h7.2.2.2.2.2 h7.1 (by omega)⟩ | exact Or.inl ⟨⟨h7.2.1.1, h7.2.1.2⟩, Bd_0 h268 h7.1 h7.2.1.1 (by omega)⟩ | (refine Or.inl ⟨⟨h7.2.1.1, h7.2.1.2⟩, ?_⟩; rcases (show b < 10 ∨ 102 ≤ b by omega) with c9 | c9; exact Bd_00 c9 (by omega); exact Bd_9z c9))
      · intro h37
        first | replace h34 := dj1 h34 h37 | replace h34 := dj0 h34 h37
        intro z44 h44
        first | replace h44 := e_add h44 (by omega) | replace h44 := e_rng h44
        intro z47 h47
        first | replace h47 := e_sub h47 (by omega) | replace h47 := e_rng h47
        refine Exists.intro [0, 2, 3, 4, 5, 6, 1, 7, 8, 9, 10, 11, 12, 13, 14, 15, 16, 17, 18, 19, 20, 21, 22, 23, 24, 25] (Exists.intro [q2 0, q1 _] (Exists.intro ([.inr (12, [q1 _, q2 2, q2 3, q2 4, q2 5, q2 6, q2 1, q2 7, q2 8, q2 9, q1 _, q1 _, q1 _, q1 _, q1 _, q3 _, q1 _, q1 _, q1 _, q2 10, q2 11, q1 _, q1 _, q1 _, q1 _, q1 _, q1 _, q2 12, q1 _, q2 13, q2 14, q2 15, q2 16, q1 _, q2 17, q1 _, q2 18, q2 19, q2 20, q2 21, q2 22, q1 _, q2 23, q2 24, q2 25]), .inl (0, 600, .inl _)]) (And.intro rfl (And.intro rfl (And.intro rfl (And.intro ⟨⟨_, rfl⟩, rfl⟩ ?_))))))
        refine Exists.intro _ (Exists.intro _ (Exists.intro _ (Exists.intro _ (Exists.intro _ (Exists.intro _ (Exists.intro _ (Exists.intro _ (Exists.intro _ (Exists.intro _ (Exists.intro _ (Exists.intro _ (Exists.intro _ (Exists.intro _ (Exists.intro _ (Exists.intro _ (Exists.intro _ (Exists.intro _ (Exists.intro _ (Exists.intro _ (Exists.intro _ (Exists.intro _ (And.intro rfl (And.intro rfl (And.intro (by first | omega | assumption | exact q_rg_up (by assumption) (by omega) | exact q_rg_up (q_rg_up (by assumption) (by omega)) (by omega) | exact q_rg_cpy (by assumption) (by assumption)) (And.intro (by first | omega | assumption | exact q_rg_up (by assumption) (by omega) | exact q_rg_up (q_rg_up (by assumption) (by omega)) (by omega) | exact q_rg_cpy (by assumption) (by assumption)) (And.intro (by first | omega | assumption | exact q_rg_up (by assumption) (by omega) | exact q_rg_up (q_rg_up (by assumption) (by omega)) (by omega) | exact q_rg_cpy (by assumption) (by assumption)) (?_)))))))))))))))))))))))))))
        intro z48 h48
        obtain ⟨h48, k48⟩ := h48
        first | replace k48 := OFQ_13 k48 (by omega) | replace k48 := OFQ_21 k48 (by omega) | clear k48
        exact hQ _ _ _ _ (by first | exact Or.inr ⟨h7, rfl⟩ | exact Or.inl ⟨⟨h7.2.1.1, h7.2.1.2⟩, Bd_1y h116 h7.1 h7.2.1.1 (by omega) (by omega) (by omega) h7.2.2.2.2.2 h7.1 (by omega) (by omega)⟩ | exact Or.inl ⟨⟨h7.2.1.1, h7.2.1.2⟩, Bd_1n h7.2.1.1 (by omega) h7.2.2.2.2.2 h7.1 (by omega)⟩ | exact Or.inl ⟨⟨h7.2.1.1, h7.2.1.2⟩, Bd_2y h138 h7.1 h7.2.1.1 (by omega) (by omega) (by omega) h7.2.2.2.2.2 h7.1 (by omega) (by omega)⟩ | exact Or.inl ⟨⟨h7.2.1.1, h7.2.1.2⟩, Bd_2n h7.2.1.1 (by omega) h7.2.2.2.2.2 h7.1 (by omega)⟩ | exact Or.inl ⟨⟨h7.2.1.1, h7.2.1.2⟩, Bd_3y h190 h7.1 h7.2.1.1 (by omega) (by omega) (by omega) h174 h7.1 (by omega) (by omega)⟩ | exact Or.inl ⟨⟨h7.2.1.1, h7.2.1.2⟩, Bd_3n h7.2.1.1 (by omega) h174 h7.1 (by omega)⟩ | exact Or.inl ⟨⟨h7.2.1.1, h7.2.1.2⟩, Bd_4y h219 h7.1 h7.2.1.1 (by omega) (by omega) (by omega) h203 h7.1 (by omega) (by omega)⟩ | exact Or.inl ⟨⟨h7.2.1.1, h7.2.1.2⟩, Bd_4n h7.2.1.1 (by omega) h203 h7.1 (by omega)⟩ | exact Or.inl ⟨⟨h7.2.1.1, h7.2.1.2⟩, Bd_5y h248 h7.1 h7.2.1.1 (by omega) (by omega) (by omega) h232 h7.1 (by omega) (by omega)⟩ | exact Or.inl ⟨⟨h7.2.1.1, h7.2.1.2⟩, Bd_5n h7.2.1.1 (by omega) h232 h7.1 (by omega)⟩ | exact Or.inl ⟨⟨h7.2.1.1, h7.2.1.2⟩, Bd_8y h161 h7.1 h7.2.1.1 (by omega) (by omega) (by omega)⟩ | exact Or.inl ⟨⟨h7.2.1.1, h7.2.1.2⟩, Bd_8n (by omega)⟩ | exact Or.inl ⟨⟨h7.2.1.1, h7.2.1.2⟩, Bd_9y (q := z33) h48 h7.1 h7.2.1.1 (by omega) (by omega) (by omega) h7.2.2.2.2.2 h7.1 (by omega)⟩ | exact Or.inl ⟨⟨h7.2.1.1, h7.2.1.2⟩, Bd_9n (q := z33) h7.2.1.1 (by omega) (by omega) h7.2.2.2.2.2 h7.1 (by omega)⟩ | exact Or.inl ⟨⟨h7.2.1.1, h7.2.1.2⟩, Bd_0 h268 h7.1 h7.2.1.1 (by omega)⟩ | (refine Or.inl ⟨⟨h7.2.1.1, h7.2.1.2⟩, ?_⟩; rcases (show b < 10 ∨ 102 ≤ b by omega) with c9 | c9; exact Bd_00 c9 (by omega); exact Bd_9z c9))
  · intro h10
    first | replace h7 := dj1 h7 h10 | replace h7 := dj0 h7 h10
    exact hQ _ _ _ _ (by first | exact Or.inr ⟨h7, rfl⟩ | exact Or.inl ⟨⟨h7.2.1.1, h7.2.1.2⟩, Bd_1y h116 h7.1 h7.2.1.1 (by omega) (by omega) (by omega) h7.2.2.2.2.2 h7.1 (by omega) (by omega)⟩ | exact Or.inl ⟨⟨h7.2.1.1, h7.2.1.2⟩, Bd_1n h7.2.1.1 (by omega) h7.2.2.2.2.2 h7.1 (by omega)⟩ | exact Or.inl ⟨⟨h7.2.1.1, h7.2.1.2⟩, Bd_2y h138 h7.1 h7.2.1.1 (by omega) (by omega) (by omega) h7.2.2.2.2.2 h7.1 (by omega) (by omega)⟩ | exact Or.inl ⟨⟨h7.2.1.1, h7.2.1.2⟩, Bd_2n h7.2.1.1 (by omega) h7.2.2.2.2.2 h7.1 (by omega)⟩ | exact Or.inl ⟨⟨h7.2.1.1, h7.2.1.2⟩, Bd_3y h190 h7.1 h7.2.1.1 (by omega) (by omega) (by omega) h174 h7.1 (by omega) (by omega)⟩ | exact Or.inl ⟨⟨h7.2.1.1, h7.2.1.2⟩, Bd_3n h7.2.1.1 (by omega) h174 h7.1 (by omega)⟩ | exact Or.inl ⟨⟨h7.2.1.1, h7.2.1.2⟩, Bd_4y h219 h7.1 h7.2.1.1 (by omega) (by omega) (by omega) h203 h7.1 (by omega) (by omega)⟩ | exact Or.inl ⟨⟨h7.2.1.1, h7.2.1.2⟩, Bd_4n h7.2.1.1 (by omega) h203 h7.1 (by omega)⟩ | exact Or.inl ⟨⟨h7.2.1.1, h7.2.1.2⟩, Bd_5y h248 h7.1 h7.2.1.1 (by omega) (by omega) (by omega) h232 h7.1 (by omega) (by omega)⟩ | exact Or.inl ⟨⟨h7.2.1.1, h7.2.1.2⟩, Bd_5n h7.2.1.1 (by omega) h232 h7.1 (by omega)⟩ | exact Or.inl ⟨⟨h7.2.1.1, h7.2.1.2⟩, Bd_8y h161 h7.1 h7.2.1.1 (by omega) (by omega) (by omega)⟩ | exact Or.inl ⟨⟨h7.2.1.1, h7.2.1.2⟩, Bd_8n (by omega)⟩ | exact Or.inl ⟨⟨h7.2.1.1, h7.2.1.2⟩, Bd_9y (q := z33) h48 h7.1 h7.2.1.1 (by omega) (by omega) (by omega) h7.2.2.2.2.2 h7.1 (by omega)⟩ | exact Or.inl ⟨⟨h7.2.1.1, h7.2.1.2⟩, Bd_9n (q := z33) h7.2.1.1 (by omega) (by omega) h7.2.2.2.2.2 h7.1 (by omega)⟩ | exact Or.inl ⟨⟨h7.2.1.1, h7.2.1.2⟩, Bd_0 h268 h7.1 h7.2.1.1 (by omega)⟩ | (refine Or.inl ⟨⟨h7.2.1.1, h7.2.1.2⟩, ?_⟩; rcases (show b < 10 ∨ 102 ≤ b by omega) with c9 | c9; exact Bd_00 c9 (by omega); exact Bd_9z c9))
