theorem e_rng {z : Int} {x : Int32} (h : z = x.toInt) : -2147483648 ≤ z ∧ z ≤ 2147483647 := by rw [h]; exact q_it x
theorem e_rngl {z : Int} {x : Int64} (h : z = x.toInt) : -9223372036854775808 ≤ z ∧ z ≤ 9223372036854775807 := by rw [h]; exact q_lt x
theorem e_add {z x y : Int} (h : z = (Int32.ofInt x + Int32.ofInt y).toInt) (h1 : -2147483648 ≤ x + y ∧ x + y ≤ 2147483647) : z = x + y := by
  rw [h, ← Int32.ofInt_add]; exact q_io h1
theorem e_sub {z x y : Int} (h : z = (Int32.ofInt x - Int32.ofInt y).toInt) (h1 : -2147483648 ≤ x - y ∧ x - y ≤ 2147483647) : z = x - y := by
  rw [h, ← Int32.ofInt_sub]; exact q_io h1
theorem e_mul {z x y : Int} (h : z = (Int32.ofInt x * Int32.ofInt y).toInt) (h1 : -2147483648 ≤ x * y ∧ x * y ≤ 2147483647) : z = x * y := by
  rw [h, ← Int32.ofInt_mul]; exact q_io h1
theorem e_neg {z x : Int} (h : z = (-Int32.ofInt x).toInt) (h1 : -2147483647 ≤ x ∧ x ≤ 2147483647) : z = -x := by
  rw [h, ← Int32.ofInt_neg]; exact q_io ⟨by omega, by omega⟩
theorem q_nI {x : Int} (h0 : 0 ≤ x) (h1 : x ≤ 2147483647) : Int32.ofInt x = nI x.toNat := by
  apply Int32.toInt_inj.mp
  rw [q_io ⟨by omega, h1⟩, nI_toInt (by omega)]
  omega
theorem q_or (a b : Nat) : nI a ||| nI b = nI (a ||| b) := Int32.toBitVec_inj.mp (by
  rw [Int32.toBitVec_or]
  show BitVec.ofNat 32 a ||| BitVec.ofNat 32 b = BitVec.ofNat 32 (a ||| b)
  rw [BitVec.ofNat_or])
theorem q_xor (a b : Nat) : nI a ^^^ nI b = nI (a ^^^ b) := Int32.toBitVec_inj.mp (by
  rw [Int32.toBitVec_xor]
  show BitVec.ofNat 32 a ^^^ BitVec.ofNat 32 b = BitVec.ofNat 32 (a ^^^ b)
  rw [BitVec.ofNat_xor])
theorem q_and (a b : Nat) : nI a &&& nI b = nI (a &&& b) := Int32.toBitVec_inj.mp (by
  rw [Int32.toBitVec_and]
  show BitVec.ofNat 32 a &&& BitVec.ofNat 32 b = BitVec.ofNat 32 (a &&& b)
  rw [BitVec.ofNat_and])
theorem e_or8 {z x y : Int} (h : z = (Int32.ofInt x ||| Int32.ofInt y).toInt) (hx : 0 ≤ x ∧ x ≤ 255) (hy : 0 ≤ y ∧ y ≤ 255) : 0 ≤ z ∧ z ≤ 255 := by
  have h1 : x.toNat ||| y.toNat < 2 ^ 8 := Nat.or_lt_two_pow (by omega) (by omega)
  rw [h, q_nI hx.1 (by omega), q_nI hy.1 (by omega), q_or, nI_toInt (by omega)]
  omega
theorem e_or9 {z x y : Int} (h : z = (Int32.ofInt x ||| Int32.ofInt y).toInt) (hx : 0 ≤ x ∧ x ≤ 511) (hy : 0 ≤ y ∧ y ≤ 511) : 0 ≤ z ∧ z ≤ 511 := by
  have h1 : x.toNat ||| y.toNat < 2 ^ 9 := Nat.or_lt_two_pow (by omega) (by omega)
  rw [h, q_nI hx.1 (by omega), q_nI hy.1 (by omega), q_or, nI_toInt (by omega)]
  omega
theorem e_xor9 {z x y : Int} (h : z = (Int32.ofInt x ^^^ Int32.ofInt y).toInt) (hx : 0 ≤ x ∧ x ≤ 511) (hy : 0 ≤ y ∧ y ≤ 511) : 0 ≤ z ∧ z ≤ 511 := by
  have h1 : x.toNat ^^^ y.toNat < 2 ^ 9 := Nat.xor_lt_two_pow (by omega) (by omega)
  rw [h, q_nI hx.1 (by omega), q_nI hy.1 (by omega), q_xor, nI_toInt (by omega)]
  omega
theorem e_xor8 {z x y : Int} (h : z = (Int32.ofInt x ^^^ Int32.ofInt y).toInt) (hx : 0 ≤ x ∧ x ≤ 255) (hy : 0 ≤ y ∧ y ≤ 255) : 0 ≤ z ∧ z ≤ 255 := by
  have h1 : x.toNat ^^^ y.toNat < 2 ^ 8 := Nat.xor_lt_two_pow (by omega) (by omega)
  rw [h, q_nI hx.1 (by omega), q_nI hy.1 (by omega), q_xor, nI_toInt (by omega)]
  omega
theorem e_andm {z x n : Int} (k : Nat) (hk : k ≤ 30) (hm : (Int32.ofInt n).toBitVec.toNat = 2 ^ k - 1) (h : z = (Int32.ofInt x &&& Int32.ofInt n).toInt) : 0 ≤ z ∧ z ≤ (2 ^ k - 1 : Nat) := by
  obtain ⟨j, hj, e⟩ := pk_andE (Int32.ofInt x) k hm
  have h2 : 2 ^ k ≤ 2 ^ 30 := Nat.pow_le_pow_right (by decide) hk
  rw [h, e, nI_toInt (by omega)]
  omega
theorem e_and1 {z x : Int} (h : z = (Int32.ofInt x &&& Int32.ofInt 1).toInt) : 0 ≤ z ∧ z ≤ 1 := e_andm 1 (by decide) (by decide) h
theorem e_and3 {z x : Int} (h : z = (Int32.ofInt x &&& Int32.ofInt 31).toInt) : 0 ≤ z ∧ z ≤ 31 := e_andm 5 (by decide) (by decide) h
theorem e_and255 {z x : Int} (h : z = (Int32.ofInt x &&& Int32.ofInt 255).toInt) : 0 ≤ z ∧ z ≤ 255 := e_andm 8 (by decide) (by decide) h
theorem e_and {z x y : Int} (h : z = (Int32.ofInt x &&& Int32.ofInt y).toInt) (hx : 0 ≤ x ∧ x ≤ 2147483647) (hy : 0 ≤ y ∧ y ≤ 2147483647) : 0 ≤ z ∧ z ≤ x ∧ z ≤ y := by
  have h1 : x.toNat &&& y.toNat ≤ x.toNat := Nat.and_le_left
  have h2 : x.toNat &&& y.toNat ≤ y.toNat := Nat.and_le_right
  rw [h, q_nI hx.1 hx.2, q_nI hy.1 hy.2, q_and, nI_toInt (by omega)]
  omega
theorem q_sh1 : ∀ j : Fin 31, ((1 : Int32) <<< (nI j.val &&& 31)).toInt = ((2 ^ j.val : Nat) : Int) := by decide +kernel
theorem e_sh1 {z k : Int} (h : z = (Int32.ofInt 1 <<< (Int32.ofInt k &&& 31)).toInt) (hk : 0 ≤ k ∧ k ≤ 30) : z = ((2 ^ k.toNat : Nat) : Int) := by
  have h1 := q_sh1 ⟨k.toNat, by omega⟩
  rw [h, q_nI hk.1 (by omega)]
  exact h1
theorem e_shl {z k : Int} (h : z = (Int32.ofInt 1 <<< (Int32.ofInt k &&& 31)).toInt) (hk : 0 ≤ k ∧ k ≤ 9) : 1 ≤ z ∧ z ≤ 512 ∧ (k ≤ 8 → z ≤ 256) ∧ (k ≤ 7 → z ≤ 128) ∧ (1 ≤ k → 2 ≤ z) := by
  have h1 := e_sh1 h ⟨hk.1, by omega⟩
  have h2 : k = 0 ∨ k = 1 ∨ k = 2 ∨ k = 3 ∨ k = 4 ∨ k = 5 ∨ k = 6 ∨ k = 7 ∨ k = 8 ∨ k = 9 := by omega
  rcases h2 with e | e | e | e | e | e | e | e | e | e <;> subst e <;> rw [h1] <;> decide
theorem e_div {z x y : Int} (h : z = (Int32.ofInt x / Int32.ofInt y).toInt) (hx : 0 ≤ x ∧ x ≤ 2147483647) (hy : 0 < y ∧ y ≤ 2147483647) : z = x / y := by
  rw [h, q_nI hx.1 hx.2, q_nI (by omega) hy.2, pk_div (by omega) (by omega) (by omega)]
  have h1 : x.toNat / y.toNat ≤ x.toNat := Nat.div_le_self _ _
  rw [nI_toInt (by omega), Int.natCast_ediv, Int.toNat_of_nonneg hx.1, Int.toNat_of_nonneg (by omega)]
theorem e_rem {z x y : Int} (h : z = (Int32.ofInt x - Int32.ofInt x / Int32.ofInt y * Int32.ofInt y).toInt) (hx : 0 ≤ x ∧ x ≤ 2147483647) (hy : 0 < y ∧ y ≤ 2147483647) : z = x % y ∧ 0 ≤ z ∧ z < y := by
  have e : z = x % y := by
    rw [h, q_nI hx.1 hx.2, q_nI (by omega) hy.2, pk_rem (by omega) (by omega) (by omega)]
    have h1 : x.toNat % y.toNat ≤ x.toNat := Nat.mod_le _ _
    rw [nI_toInt (by omega), Int.natCast_emod, Int.toNat_of_nonneg hx.1, Int.toNat_of_nonneg (by omega)]
  have h2 := Int.emod_nonneg x (show y ≠ 0 by omega)
  have h3 := Int.emod_lt_of_pos x hy.1
  exact ⟨e, by omega, by omega⟩
theorem e_i2b {z x : Int} (h : z = (Int32.ofInt x).toInt8.toInt32.toInt) : -128 ≤ z ∧ z ≤ 127 := by
  rw [h, Int8.toInt_toInt32]
  exact ⟨Int8.le_toInt _, by have := Int8.toInt_lt (Int32.ofInt x).toInt8; omega⟩
theorem e_us16 {z x : Int} (h : z = ((Int32.ofInt x).toUInt32 >>> ((Int32.ofInt 16).toUInt32 &&& Int32.toUInt32 31)).toInt32.toInt) : 0 ≤ z ∧ z ≤ 65535 := by
  have h1 := pk_ushr (Int32.ofInt x) (Int32.ofInt 16) 16 (by decide)
  generalize ((Int32.ofInt x).toUInt32 >>> ((Int32.ofInt 16).toUInt32 &&& Int32.toUInt32 31)).toInt32 = u at h h1
  have h2 : (Int32.ofInt x).toBitVec.toNat < 2 ^ 32 := (Int32.ofInt x).toBitVec.isLt
  have h3 : u.toBitVec.toNat ≤ 65535 := by rw [h1]; omega
  have h4 : u.toInt = (u.toBitVec.toNat : Int) := by
    show u.toBitVec.toInt = _
    rw [BitVec.toInt_eq_toNat_cond, if_pos (by omega)]
  omega
theorem e_cmp {z : Int} {x y : Int64} (h : z = (lg_cmp x y).toInt) : -1 ≤ z ∧ z ≤ 1 := by
  unfold lg_cmp at h
  split at h
  · rw [h]; decide
  · split at h
    · rw [h]; decide
    · rw [h]; decide
theorem q_up_s {f : Nat → Int} {i : Nat} {v : Int} : q_up f i v i = v := by unfold q_up; rw [if_pos rfl]
theorem q_up_n {f : Nat → Int} {i j : Nat} {v : Int} (h : j ≠ i) : q_up f i v j = f j := by unfold q_up; rw [if_neg h]
