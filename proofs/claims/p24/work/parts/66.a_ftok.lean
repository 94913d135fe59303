/-! the reference's tokens -/
def rkK (k : Int) : Int := if k = 0 then 0 else if k = 1 then 2 else if k = 2 then 3 else if k = 3 then 4 else 1
noncomputable def pkW (t : Nat → Int) (b e : Int) : Int := if e - b ≤ 8 then pkN t b (e - b).toNat else 0
noncomputable def woT (t : Nat → Int) (n p : Int) : Int := if tK t n p = 1 then pkW t (tB t n p) (tE t n p) else 0
def TokR (t : Nat → Int) (n p re be so va wo : Int) : Prop := be = tB t n p ∧ re = tE t n p ∧ so = rkK (tK t n p) ∧ (tK t n p = 2 → va = tV t n p) ∧ wo = woT t n p
theorem see_b {t : Nat → Int} {n i r : Int} (h : r = seeR t i n) (hi : i < n) (hn : n ≤ 600 := by omega) : r = byt (tc t) i := by rw [h]; unfold seeR; rw [if_pos hi, byt_tc (by omega)]
theorem see_n {t : Nat → Int} {n i r : Int} (h : r = seeR t i n) (hi : ¬ i < n) : r = -1 := by rw [h]; unfold seeR; rw [if_neg hi]
theorem TokR_of {t : Nat → Int} {n p b e k v re so va wo : Int} (h : AdvR t n p b e k v) (hre : re = e) (hso : so = rkK k) (hva : k = 2 → va = v) (hwo : wo = if k = 1 then pkW t b e else 0) : TokR t n p re b so va wo := by
  obtain ⟨hq_1, hq_2, hq_3, hq_4⟩ := h
  refine ⟨hq_1, by rw [hre]; exact hq_2, by rw [hso, hq_3], fun hq_9 => ?_, ?_⟩
  · rw [hva (by rw [hq_3]; exact hq_9), hq_4 (by rw [hq_3]; exact hq_9)]
  · rw [hwo]; unfold woT; rw [← hq_3, ← hq_1, ← hq_2]
theorem TokW {t : Nat → Int} {n p re be so va wo : Int} (h : TokR t n p re be so va wo) (hp : p ≤ n) (hb : be < n) (hq_2 : re ≤ n) : TokR t n p re be so va wo ∧ (p ≤ re ∧ re ≤ n ∧ (so = 0 ∨ p < re)) := by
  have hq_3 := h.1
  have hq_4 := h.2.1
  have hq_5 := tB_r (t := t) hp
  have hq_6 := (tE_r (t := t) hp).2.2
  have hq_7 := hq_6 (by omega)
  exact ⟨h, by omega, hq_2, Or.inr (by omega)⟩
/-- the packed word so far, behind v bytes -/
def PkS (t : Nat → Int) (b v wo : Int) : Prop := v ≤ 8 → wo = pkN t b v.toNat
theorem pkN_lt {t : Nat → Int} {b : Int} : ∀ k : Nat, 0 ≤ pkN t b k ∧ pkN t b k < ((256 ^ k : Nat) : Int) := by
  intro k
  induction k with
  | zero => exact ⟨Int.le_refl _, by show (0 : Int) < 1; decide⟩
  | succ k ih =>
    have hq_1 := byt_r t (b + k)
    have e : (256 : Nat) ^ (k + 1) = 256 * 256 ^ k := by rw [Nat.pow_succ, Nat.mul_comm]
    unfold pkN
    rw [e]
    omega
theorem i64_nat {x : Int} (h : 0 ≤ x) : (Int64.ofInt x).toBitVec = BitVec.ofNat 64 x.toNat := by
  show BitVec.ofInt 64 x = BitVec.ofNat 64 x.toNat
  rw [← BitVec.ofInt_natCast, Int.toNat_of_nonneg h]
/-- a byte more in the packed word -/
theorem e_pk {zq_9 zq_10 x b : Int} (hq_9 : zq_9 = (Int64.ofInt x <<< ((Int32.ofInt 8).toInt64 &&& 63)).toInt) (hq_10 : zq_10 = (Int64.ofInt zq_9 ||| Int64.ofInt b).toInt) (hx : 0 ≤ x ∧ x < 36028797018963968) (hb : 0 ≤ b ∧ b ≤ 255) : zq_10 = 256 * x + b := by
  have e1 : (Int64.ofInt x <<< ((Int32.ofInt 8).toInt64 &&& 63)).toBitVec = BitVec.ofNat 64 (256 * x.toNat) := by
    apply BitVec.eq_of_toNat_eq
    rw [Int64.toBitVec_shiftLeft, i64_nat hx.1, show ((Int32.ofInt 8).toInt64 &&& 63).toBitVec.smod 64 = 8#64 by decide]
    rw [BitVec.shiftLeft_eq', BitVec.toNat_shiftLeft, BitVec.toNat_ofNat, BitVec.toNat_ofNat, Nat.shiftLeft_eq]
    show x.toNat % 18446744073709551616 * 2 ^ 8 % 18446744073709551616 = 256 * x.toNat % 18446744073709551616
    omega
  have e2 : zq_9 = 256 * x := by
    rw [hq_9]
    show (Int64.ofInt x <<< ((Int32.ofInt 8).toInt64 &&& 63)).toBitVec.toInt = 256 * x
    rw [e1, BitVec.toInt_eq_toNat_of_lt (by rw [BitVec.toNat_ofNat]; omega), BitVec.toNat_ofNat]
    omega
  have e3 : (Int64.ofInt zq_9 ||| Int64.ofInt b).toBitVec = BitVec.ofNat 64 (256 * x.toNat + b.toNat) := by
    apply BitVec.eq_of_toNat_eq
    rw [Int64.toBitVec_or, i64_nat (by omega), i64_nat hb.1, BitVec.toNat_or, BitVec.toNat_ofNat, BitVec.toNat_ofNat, BitVec.toNat_ofNat]
    have hq_1 := Nat.shiftLeft_add_eq_or_of_lt (i := 8) (b := b.toNat) (by omega) x.toNat
    rw [Nat.shiftLeft_eq] at hq_1
    rw [show zq_9.toNat = x.toNat * 2 ^ 8 by omega, Nat.mod_eq_of_lt (by omega), Nat.mod_eq_of_lt (by omega), ← hq_1, Nat.mod_eq_of_lt (by omega)]
    omega
  rw [hq_10]
  show (Int64.ofInt zq_9 ||| Int64.ofInt b).toBitVec.toInt = 256 * x + b
  rw [e3, BitVec.toInt_eq_toNat_of_lt (by rw [BitVec.toNat_ofNat]; omega), BitVec.toNat_ofNat]
  omega
theorem PkS_0 {t : Nat → Int} {b : Int} : PkS t b 0 0 := fun _ => rfl
theorem pkN_ltL {t : Nat → Int} {b : Int} : ∀ k : Nat, (∀ j : Nat, j < k + 1 → byt t (b + j) ≤ 127) → pkN t b (k + 1) < ((128 * 256 ^ k : Nat) : Int) := by
  intro k
  induction k with
  | zero =>
    intro h
    have hq_1 := h 0 (by omega)
    show 256 * 0 + byt t (b + (0 : Nat)) < 128
    omega
  | succ k ih =>
    intro h
    have hq_1 := ih (fun j hj => h j (by omega))
    have hq_2 := h (k + 1) (by omega)
    have e : pkN t b (k + 1 + 1) = 256 * pkN t b (k + 1) + byt t (b + (k + 1 : Nat)) := rfl
    have e2 : 128 * (256 : Nat) ^ (k + 1) = 256 * (128 * 256 ^ k) := by rw [Nat.pow_succ]; omega
    rw [e, e2]
    omega
theorem PkS_s {t : Nat → Int} {b v v' wo zq_9 zq_10 r q : Int} (h : PkS t b v wo) (hL : RunA isL t b q) (hq_0 : 0 ≤ v) (hv : v' = v + 1) (hq_9 : zq_9 = (Int64.ofInt wo <<< ((Int32.ofInt 8).toInt64 &&& 63)).toInt) (hq_10 : zq_10 = (Int64.ofInt zq_9 ||| Int64.ofInt r).toInt) (hr : r = byt t q) (hq : q = b + v) : PkS t b v' zq_10 := fun hq_8 => by
  have e1 := h (by omega)
  have l3 := byt_r t q
  have l0 := (pkN_lt (t := t) (b := b) v.toNat).1
  have l1 : pkN t b v.toNat < 36028797018963968 := by
    cases hk : v.toNat with
    | zero => show (0 : Int) < 36028797018963968; decide
    | succ k =>
      have l2 := pkN_ltL (t := t) (b := b) k (fun j hj => by
        have := hL (b + j) (by omega) (by omega)
        omega)
      have l4 : (256 : Nat) ^ k ≤ 256 ^ 6 := Nat.pow_le_pow_right (by decide) (by omega)
      have l4 : (256 : Nat) ^ k ≤ 281474976710656 := l4
      omega
  rw [e1] at hq_9
  rw [e_pk hq_9 hq_10 ⟨l0, l1⟩ (by omega), show v'.toNat = v.toNat + 1 by omega, hr, hq]
  show _ = 256 * pkN t b v.toNat + byt t (b + (v.toNat : Nat))
  rw [show b + ((v.toNat : Nat) : Int) = b + v by omega]
def NumS (t : Nat → Int) (b v x : Int) : Prop := (v = 0 → x = 0) ∧ (v = 1 → x = byt t b - 48) ∧ (2 ≤ v → x = 10 * (byt t b - 48) + (byt t (b + 1) - 48)) ∧ 0 ≤ x ∧ x ≤ 99
theorem NumS_0 {t : Nat → Int} {b : Int} : NumS t b 0 0 := ⟨fun _ => rfl, fun h => absurd h (by decide), fun h => absurd h (by decide), by decide, by decide⟩
/-- a third digit and on: the number stays as it is -/
theorem NumS_k {t : Nat → Int} {b v v' x : Int} (h : NumS t b v x) (hq_2 : 2 ≤ v) (hv : v' = v + 1) : NumS t b v' x := ⟨fun hq_9 => by omega, fun hq_9 => by omega, fun _ => h.2.2.1 hq_2, h.2.2.2⟩
theorem NumS_s {t : Nat → Int} {b v v' x x' r q : Int} (h : NumS t b v x) (hD : RunA isD t b q) (hq_0 : 0 ≤ v) (hq_2 : v < 2) (hv : v' = v + 1) (hr : r = byt t q) (hq : q = b + v) (hx : x' = 10 * x + r - 48 ∧ 48 ≤ r ∧ r ≤ 57) : NumS t b v' x' := by
  obtain ⟨a1, a2, a3, a4⟩ := h
  by_cases c : v = 0
  · have e1 := a1 c
    subst c
    rw [hq, Int.add_zero] at hr
    exact ⟨fun hq_9 => by omega, fun _ => by omega, fun hq_9 => by omega, by omega, by omega⟩
  · have e2 := a2 (by omega)
    have e3 : v = 1 := by omega
    subst e3
    have hb := hD b (Int.le_refl b) (by omega)
    rw [hq] at hr
    exact ⟨fun hq_9 => by omega, fun hq_9 => by omega, fun _ => by omega, by omega, by omega⟩
theorem NumS_D {t : Nat → Int} {b e v x : Int} (h : NumS t b v x) (hv : v = e - b) : NumD t b e x := ⟨fun hq_9 => h.2.1 (by omega), fun hq_9 => h.2.2.1 (by omega), by have := h.2.2.2; omega, by have := h.2.2.2; omega⟩

theorem dF12_fails_0 : decode cX12_fails 0 = .ok (.aload_n 0, 1) := by decide +kernel
theorem dF12_fails_1 : decode cX12_fails 1 = .ok (.aload_n 0, 1) := by decide +kernel
theorem dF12_fails_2 : decode cX12_fails 2 = .ok (.getfield 118, 3) := by decide +kernel
theorem dF12_fails_5 : decode cX12_fails 5 = .ok (.putfield 131, 3) := by decide +kernel
theorem dF12_fails_8 : decode cX12_fails 8 = .ok (.iconst 0, 1) := by decide +kernel
theorem dF12_fails_9 : decode cX12_fails 9 = .ok (.ireturn, 1) := by decide +kernel
def is_F12_fails : Nat → List Nat := fun d => []
set_option maxRecDepth 100000 in
def b_F12_fails_0 (J : Nat → List qV → List qV → qW → Prop) (Q : qR) : qK := x_aload 0 (x_aload 0 (x_get 12 12 (x_put 12 16 q_oki (x_nw (x_int 0 (x_zret Q))))))
set_option maxRecDepth 100000 in
theorem s_F12_fails_0 {p : Program} {l : Launch} {e : Env} {R : Room} {s : State} {m : MethodId} {args : Array Value} {below : List Frame} {meth : Method} {c : Code} {nW : Nat} {dC : Nat → ClassId} {dI : Nat → Nat → Nat} {k : Nat → ClassId} {g : Nat → Nat} {A : Nat → Prop} {J : Nat → List qV → List qV → qW → Prop} {Q : qR} (X : q_X p R s m args meth c cX12_fails 1 nW 0 0 RX12 (some .boolean) dC dI k g A) (hJ : ∀ d : Nat, q_Sd p l e R s m args below meth c 1 nW dC dI k g A (MQ below (q_post (dC, dI) k g nW Q A) args s 0 0 A) d (x_cut (is_F12_fails d) (J d))) : q_Sd p l e R s m args below meth c 1 nW dC dI k g A (MQ below (q_post (dC, dI) k g nW Q A) args s 0 0 A) 0 (b_F12_fails_0 J Q) := by
  unfold b_F12_fails_0
  refine s_aload_n X rfl dF12_fails_0 ?_
  refine s_aload_n X rfl dF12_fails_1 ?_
  refine s_get X (T := TX12) (C := RX12) (N := 45) tu_X12 rfl (by decide) tw_1009 dF12_fails_2 ?_
  refine s_put X (T := TX12) (C := RX12) (N := 45) tu_X12 tyX12_ok nmX12 rfl (by decide) tw_1013 rfl (by decide +kernel) q_oki_t dF12_fails_5 ?_
  refine s_nw ?_
  refine s_iconst X ⟨by decide, by decide⟩ dF12_fails_8 ?_
  exact s_zret X dF12_fails_9

def sp_F12_fails : qS := fun av w Q => ∃ (mco : Int) (mre : Int) (mle : Int) (mbe : Int) (mso : Int) (mva : Int) (mwo : Int) (mwr : Int) (mlf : Int) (mlp : Int) (mfp : Int) (mfd : Int) (mgo : Int) (mbo : Int) (mpe : Int) (mye : Int) (mpr : Int) (mld : Int) (msi : Int) (mse : Int), av = [q2 0] ∧ w = [.inr (12, [q1 mco, q2 1, q2 2, q2 3, q2 4, q2 5, q2 6, q2 7, q2 8, q2 9, q1 mre, q1 mle, q1 mbe, q1 mso, q1 mva, q3 mwo, q1 mwr, q1 mlf, q1 mlp, q2 10, q2 11, q1 mfp, q1 mfd, q1 mgo, q1 mbo, q1 mpe, q1 mye, q2 12, q1 mpr, q2 13, q2 14, q2 15, q2 16, q1 mld, q2 17, q1 msi, q2 18, q2 19, q2 20, q2 21, q2 22, q1 mse, q2 23, q2 24, q2 25])] ∧ (∀ (r : Int) (x_mwr : Int), (r = 0 ∧ x_mwr = mbe) → Q (some (q1 r)) ([.inr (12, [q1 mco, q2 1, q2 2, q2 3, q2 4, q2 5, q2 6, q2 7, q2 8, q2 9, q1 mre, q1 mle, q1 mbe, q1 mso, q1 mva, q3 mwo, q1 x_mwr, q1 mlf, q1 mlp, q2 10, q2 11, q1 mfp, q1 mfd, q1 mgo, q1 mbo, q1 mpe, q1 mye, q2 12, q1 mpr, q2 13, q2 14, q2 15, q2 16, q1 mld, q2 17, q1 msi, q2 18, q2 19, q2 20, q2 21, q2 22, q1 mse, q2 23, q2 24, q2 25])]))
set_option maxHeartbeats 4000000 in
set_option maxRecDepth 100000 in
theorem m_F12_fails (l : Launch) : q_M l yX12_fails cX12_fails 1 (some .boolean) 0 0 sp_F12_fails := by
  refine q_meth (by decide) (fun av w Q h => by obtain ⟨mco, mre, mle, mbe, mso, mva, mwo, mwr, mlf, mlp, mfp, mfd, mgo, mbo, mpe, mye, mpr, mld, msi, mse, rfl, rfl, hQ⟩ := h; exact Nat.le_of_ble_eq_true rfl) ?_
  intro p e R s m args below meth c dC dI k g A av w Q hsp oka okw X
  obtain ⟨mco, mre, mle, mbe, mso, mva, mwo, mwr, mlf, mlp, mfp, mfd, mgo, mbo, mpe, mye, mpr, mld, msi, mse, rfl, rfl, hQ⟩ := hsp
  refine s_mono (s_F12_fails_0 X (J := fun _ _ _ _ => False) (fun d => s_cutF)) ?_
  rintro lv st w' ⟨rfl, rfl, rfl⟩
  apply And.intro
  · exact trivial
  apply And.intro
  · first | exact Or.inl rfl | exact Or.inr rfl | omega
  exact hQ _ _ (by first | omega | assumption | exact q_rg_up (by assumption) (by omega) | exact q_rg_up (q_rg_up (by assumption) (by omega)) (by omega) | exact q_rg_cpy (by assumption) (by assumption))

theorem dF12_later_0 : decode cX12_later 0 = .ok (.aload_n 0, 1) := by decide +kernel
theorem dF12_later_1 : decode cX12_later 1 = .ok (.getfield 134, 3) := by decide +kernel
theorem dF12_later_4 : decode cX12_later 4 = .ok (.ifCond .eq 27, 3) := by decide +kernel
theorem dF12_later_7 : decode cX12_later 7 = .ok (.iload_n 2, 1) := by decide +kernel
theorem dF12_later_8 : decode cX12_later 8 = .ok (.aload_n 0, 1) := by decide +kernel
theorem dF12_later_9 : decode cX12_later 9 = .ok (.getfield 137, 3) := by decide +kernel
theorem dF12_later_12 : decode cX12_later 12 = .ok (.if_icmp .lt 19, 3) := by decide +kernel
theorem dF12_later_15 : decode cX12_later 15 = .ok (.iload_n 2, 1) := by decide +kernel
theorem dF12_later_16 : decode cX12_later 16 = .ok (.aload_n 0, 1) := by decide +kernel
theorem dF12_later_17 : decode cX12_later 17 = .ok (.getfield 137, 3) := by decide +kernel
theorem dF12_later_20 : decode cX12_later 20 = .ok (.if_icmp .ne 21, 3) := by decide +kernel
theorem dF12_later_23 : decode cX12_later 23 = .ok (.iload_n 1, 1) := by decide +kernel
theorem dF12_later_24 : decode cX12_later 24 = .ok (.aload_n 0, 1) := by decide +kernel
theorem dF12_later_25 : decode cX12_later 25 = .ok (.getfield 134, 3) := by decide +kernel
theorem dF12_later_28 : decode cX12_later 28 = .ok (.if_icmp .ge 13, 3) := by decide +kernel
theorem dF12_later_31 : decode cX12_later 31 = .ok (.aload_n 0, 1) := by decide +kernel
theorem dF12_later_32 : decode cX12_later 32 = .ok (.iload_n 1, 1) := by decide +kernel
theorem dF12_later_33 : decode cX12_later 33 = .ok (.putfield 134, 3) := by decide +kernel
theorem dF12_later_36 : decode cX12_later 36 = .ok (.aload_n 0, 1) := by decide +kernel
theorem dF12_later_37 : decode cX12_later 37 = .ok (.iload_n 2, 1) := by decide +kernel
theorem dF12_later_38 : decode cX12_later 38 = .ok (.putfield 137, 3) := by decide +kernel
theorem dF12_later_41 : decode cX12_later 41 = .ok (.return_, 1) := by decide +kernel
def is_F12_later : Nat → List Nat := fun d => []
set_option maxRecDepth 100000 in
def b_F12_later_41 (J : Nat → List qV → List qV → qW → Prop) (Q : qR) : qK := x_vret Q
set_option maxRecDepth 100000 in
theorem s_F12_later_41 {p : Program} {l : Launch} {e : Env} {R : Room} {s : State} {m : MethodId} {args : Array Value} {below : List Frame} {meth : Method} {c : Code} {nW : Nat} {dC : Nat → ClassId} {dI : Nat → Nat → Nat} {k : Nat → ClassId} {g : Nat → Nat} {A : Nat → Prop} {J : Nat → List qV → List qV → qW → Prop} {Q : qR} (X : q_X p R s m args meth c cX12_later 3 nW 0 0 RX12 none dC dI k g A) (hJ : ∀ d : Nat, q_Sd p l e R s m args below meth c 3 nW dC dI k g A (MQ below (q_post (dC, dI) k g nW Q A) args s 0 0 A) d (x_cut (is_F12_later d) (J d))) : q_Sd p l e R s m args below meth c 3 nW dC dI k g A (MQ below (q_post (dC, dI) k g nW Q A) args s 0 0 A) 41 (b_F12_later_41 J Q) := by
  unfold b_F12_later_41
  exact s_vret X dF12_later_41
set_option maxRecDepth 100000 in
def b_F12_later_31 (J : Nat → List qV → List qV → qW → Prop) (Q : qR) : qK := x_aload 0 (x_iload 1 (x_put 12 17 q_oki (x_nw (x_aload 0 (x_iload 2 (x_put 12 18 q_oki (x_nw (b_F12_later_41 J Q))))))))
set_option maxRecDepth 100000 in
theorem s_F12_later_31 {p : Program} {l : Launch} {e : Env} {R : Room} {s : State} {m : MethodId} {args : Array Value} {below : List Frame} {meth : Method} {c : Code} {nW : Nat} {dC : Nat → ClassId} {dI : Nat → Nat → Nat} {k : Nat → ClassId} {g : Nat → Nat} {A : Nat → Prop} {J : Nat → List qV → List qV → qW → Prop} {Q : qR} (X : q_X p R s m args meth c cX12_later 3 nW 0 0 RX12 none dC dI k g A) (hJ : ∀ d : Nat, q_Sd p l e R s m args below meth c 3 nW dC dI k g A (MQ below (q_post (dC, dI) k g nW Q A) args s 0 0 A) d (x_cut (is_F12_later d) (J d))) : q_Sd p l e R s m args below meth c 3 nW dC dI k g A (MQ below (q_post (dC, dI) k g nW Q A) args s 0 0 A) 31 (b_F12_later_31 J Q) := by
  unfold b_F12_later_31
  refine s_aload_n X rfl dF12_later_31 ?_
  refine s_iload_n X rfl dF12_later_32 ?_
  refine s_put X (T := TX12) (C := RX12) (N := 45) tu_X12 tyX12_ok nmX12 rfl (by decide) tw_1014 rfl (by decide +kernel) q_oki_t dF12_later_33 ?_
  refine s_nw ?_
  refine s_aload_n X rfl dF12_later_36 ?_
  refine s_iload_n X rfl dF12_later_37 ?_
  refine s_put X (T := TX12) (C := RX12) (N := 45) tu_X12 tyX12_ok nmX12 rfl (by decide) tw_1015 rfl (by decide +kernel) q_oki_t dF12_later_38 ?_
  refine s_nw ?_
  exact s_F12_later_41 X hJ
set_option maxRecDepth 100000 in
def b_F12_later_0 (J : Nat → List qV → List qV → qW → Prop) (Q : qR) : qK := x_aload 0 (x_get 12 17 (x_if_eq (b_F12_later_31 J Q) (x_iload 2 (x_aload 0 (x_get 12 18 (x_icmp_lt (b_F12_later_31 J Q) (x_iload 2 (x_aload 0 (x_get 12 18 (x_icmp_ne (b_F12_later_41 J Q) (x_iload 1 (x_aload 0 (x_get 12 17 (x_icmp_ge (b_F12_later_41 J Q) (b_F12_later_31 J Q)))))))))))))))
set_option maxRecDepth 100000 in
theorem s_F12_later_0 {p : Program} {l : Launch} {e : Env} {R : Room} {s : State} {m : MethodId} {args : Array Value} {below : List Frame} {meth : Method} {c : Code} {nW : Nat} {dC : Nat → ClassId} {dI : Nat → Nat → Nat} {k : Nat → ClassId} {g : Nat → Nat} {A : Nat → Prop} {J : Nat → List qV → List qV → qW → Prop} {Q : qR} (X : q_X p R s m args meth c cX12_later 3 nW 0 0 RX12 none dC dI k g A) (hJ : ∀ d : Nat, q_Sd p l e R s m args below meth c 3 nW dC dI k g A (MQ below (q_post (dC, dI) k g nW Q A) args s 0 0 A) d (x_cut (is_F12_later d) (J d))) : q_Sd p l e R s m args below meth c 3 nW dC dI k g A (MQ below (q_post (dC, dI) k g nW Q A) args s 0 0 A) 0 (b_F12_later_0 J Q) := by
  unfold b_F12_later_0
  refine s_aload_n X rfl dF12_later_0 ?_
  refine s_get X (T := TX12) (C := RX12) (N := 45) tu_X12 rfl (by decide) tw_1014 dF12_later_1 ?_
  refine s_if_eq X (tgt := 31) dF12_later_4 (by decide) ?_ ?_
  · exact s_F12_later_31 X hJ
  · refine s_iload_n X rfl dF12_later_7 ?_
    refine s_aload_n X rfl dF12_later_8 ?_
    refine s_get X (T := TX12) (C := RX12) (N := 45) tu_X12 rfl (by decide) tw_1015 dF12_later_9 ?_
    refine s_icmp_lt X (tgt := 31) dF12_later_12 (by decide) ?_ ?_
    · exact s_F12_later_31 X hJ
    · refine s_iload_n X rfl dF12_later_15 ?_
      refine s_aload_n X rfl dF12_later_16 ?_
      refine s_get X (T := TX12) (C := RX12) (N := 45) tu_X12 rfl (by decide) tw_1015 dF12_later_17 ?_
      refine s_icmp_ne X (tgt := 41) dF12_later_20 (by decide) ?_ ?_
      · exact s_F12_later_41 X hJ
      · refine s_iload_n X rfl dF12_later_23 ?_
        refine s_aload_n X rfl dF12_later_24 ?_
        refine s_get X (T := TX12) (C := RX12) (N := 45) tu_X12 rfl (by decide) tw_1014 dF12_later_25 ?_
        refine s_icmp_ge X (tgt := 41) dF12_later_28 (by decide) ?_ ?_
        · exact s_F12_later_41 X hJ
        · exact s_F12_later_31 X hJ

def sp_F12_later : qS := fun av w Q => ∃ (mco : Int) (mre : Int) (mle : Int) (mbe : Int) (mso : Int) (mva : Int) (mwo : Int) (mwr : Int) (mlf : Int) (mlp : Int) (mfp : Int) (mfd : Int) (mgo : Int) (mbo : Int) (mpe : Int) (mye : Int) (mpr : Int) (mld : Int) (msi : Int) (mse : Int) (a : Int) (b : Int), av = [q2 0, q1 a, q1 b] ∧ w = [.inr (12, [q1 mco, q2 1, q2 2, q2 3, q2 4, q2 5, q2 6, q2 7, q2 8, q2 9, q1 mre, q1 mle, q1 mbe, q1 mso, q1 mva, q3 mwo, q1 mwr, q1 mlf, q1 mlp, q2 10, q2 11, q1 mfp, q1 mfd, q1 mgo, q1 mbo, q1 mpe, q1 mye, q2 12, q1 mpr, q2 13, q2 14, q2 15, q2 16, q1 mld, q2 17, q1 msi, q2 18, q2 19, q2 20, q2 21, q2 22, q1 mse, q2 23, q2 24, q2 25])] ∧ (¬ mlf = 0 → mlp < b) ∧ (∀ (x_mlf : Int) (x_mlp : Int), (mlf = 0 ∧ x_mlf = a ∧ x_mlp = b ∨ ¬ mlf = 0 ∧ x_mlf = mlf ∧ x_mlp = mlp) → Q none ([.inr (12, [q1 mco, q2 1, q2 2, q2 3, q2 4, q2 5, q2 6, q2 7, q2 8, q2 9, q1 mre, q1 mle, q1 mbe, q1 mso, q1 mva, q3 mwo, q1 mwr, q1 x_mlf, q1 x_mlp, q2 10, q2 11, q1 mfp, q1 mfd, q1 mgo, q1 mbo, q1 mpe, q1 mye, q2 12, q1 mpr, q2 13, q2 14, q2 15, q2 16, q1 mld, q2 17, q1 msi, q2 18, q2 19, q2 20, q2 21, q2 22, q1 mse, q2 23, q2 24, q2 25])]))
set_option maxHeartbeats 4000000 in
set_option maxRecDepth 100000 in
theorem m_F12_later (l : Launch) : q_M l yX12_later cX12_later 3 none 0 0 sp_F12_later := by
  refine q_meth (by decide) (fun av w Q h => by obtain ⟨mco, mre, mle, mbe, mso, mva, mwo, mwr, mlf, mlp, mfp, mfd, mgo, mbo, mpe, mye, mpr, mld, msi, mse, a, b, rfl, rfl, hl9, hQ⟩ := h; exact Nat.le_of_ble_eq_true rfl) ?_
  intro p e R s m args below meth c dC dI k g A av w Q hsp oka okw X
  obtain ⟨mco, mre, mle, mbe, mso, mva, mwo, mwr, mlf, mlp, mfp, mfd, mgo, mbo, mpe, mye, mpr, mld, msi, mse, a, b, rfl, rfl, hl9, hQ⟩ := hsp
  have o_a : -2147483648 ≤ a ∧ a ≤ 2147483647 := oka _ (List.mem_of_getElem? (i := 1) rfl)
  have o_b : -2147483648 ≤ b ∧ b ≤ 2147483647 := oka _ (List.mem_of_getElem? (i := 2) rfl)
  refine s_mono (s_F12_later_0 X (J := fun _ _ _ _ => False) (fun d => s_cutF)) ?_
  rintro lv st w' ⟨rfl, rfl, rfl⟩
  apply And.intro
  · intro hq_4
    apply And.intro
    · exact trivial
    apply And.intro
    · exact trivial
    exact hQ _ _ (by first | omega | assumption | exact q_rg_up (by assumption) (by omega) | exact q_rg_up (q_rg_up (by assumption) (by omega)) (by omega) | exact q_rg_cpy (by assumption) (by assumption))
  · intro hq_4
    apply And.intro
    · intro hq_12
      apply And.intro
      · exact trivial
      apply And.intro
      · exact trivial
      exact hQ _ _ (by first | omega | assumption | exact q_rg_up (by assumption) (by omega) | exact q_rg_up (q_rg_up (by assumption) (by omega)) (by omega) | exact q_rg_cpy (by assumption) (by assumption))
    · intro hq_12
      apply And.intro
      · intro hq_20
        exact hQ _ _ (by first | omega | assumption | exact q_rg_up (by assumption) (by omega) | exact q_rg_up (q_rg_up (by assumption) (by omega)) (by omega) | exact q_rg_cpy (by assumption) (by assumption))
      · intro hq_20
        apply And.intro
        · intro hq_28
          exact hQ _ _ (by first | omega | assumption | exact q_rg_up (by assumption) (by omega) | exact q_rg_up (q_rg_up (by assumption) (by omega)) (by omega) | exact q_rg_cpy (by assumption) (by assumption))
        · intro hq_28
          apply And.intro
          · exact trivial
          apply And.intro
          · exact trivial
          exact hQ _ _ (by first | omega | assumption | exact q_rg_up (by assumption) (by omega) | exact q_rg_up (q_rg_up (by assumption) (by omega)) (by omega) | exact q_rg_cpy (by assumption) (by assumption))

theorem dF12_token_0 : decode cX12_token 0 = .ok (.aload_n 0, 1) := by decide +kernel
theorem dF12_token_1 : decode cX12_token 1 = .ok (.invokevirtual 114, 3) := by decide +kernel
theorem dF12_token_4 : decode cX12_token 4 = .ok (.bipush 10, 2) := by decide +kernel
theorem dF12_token_6 : decode cX12_token 6 = .ok (.if_icmp .eq 12, 3) := by decide +kernel
theorem dF12_token_9 : decode cX12_token 9 = .ok (.aload_n 0, 1) := by decide +kernel
theorem dF12_token_10 : decode cX12_token 10 = .ok (.invokevirtual 114, 3) := by decide +kernel
theorem dF12_token_13 : decode cX12_token 13 = .ok (.bipush 32, 2) := by decide +kernel
theorem dF12_token_15 : decode cX12_token 15 = .ok (.if_icmp .ne 16, 3) := by decide +kernel
theorem dF12_token_18 : decode cX12_token 18 = .ok (.aload_n 0, 1) := by decide +kernel
theorem dF12_token_19 : decode cX12_token 19 = .ok (.dup, 1) := by decide +kernel
theorem dF12_token_20 : decode cX12_token 20 = .ok (.getfield 108, 3) := by decide +kernel
theorem dF12_token_23 : decode cX12_token 23 = .ok (.iconst 1, 1) := by decide +kernel
theorem dF12_token_24 : decode cX12_token 24 = .ok (.iadd, 1) := by decide +kernel
theorem dF12_token_25 : decode cX12_token 25 = .ok (.putfield 108, 3) := by decide +kernel
theorem dF12_token_28 : decode cX12_token 28 = .ok (.goto (-28), 3) := by decide +kernel
theorem dF12_token_31 : decode cX12_token 31 = .ok (.aload_n 0, 1) := by decide +kernel
theorem dF12_token_32 : decode cX12_token 32 = .ok (.aload_n 0, 1) := by decide +kernel
theorem dF12_token_33 : decode cX12_token 33 = .ok (.getfield 108, 3) := by decide +kernel
theorem dF12_token_36 : decode cX12_token 36 = .ok (.putfield 118, 3) := by decide +kernel
theorem dF12_token_39 : decode cX12_token 39 = .ok (.aload_n 0, 1) := by decide +kernel
theorem dF12_token_40 : decode cX12_token 40 = .ok (.invokevirtual 114, 3) := by decide +kernel
theorem dF12_token_43 : decode cX12_token 43 = .ok (.istore_n 1, 1) := by decide +kernel
theorem dF12_token_44 : decode cX12_token 44 = .ok (.aload_n 0, 1) := by decide +kernel
theorem dF12_token_45 : decode cX12_token 45 = .ok (.lconst 0, 1) := by decide +kernel
theorem dF12_token_46 : decode cX12_token 46 = .ok (.putfield 121, 3) := by decide +kernel
theorem dF12_token_49 : decode cX12_token 49 = .ok (.iconst 0, 1) := by decide +kernel
theorem dF12_token_50 : decode cX12_token 50 = .ok (.istore_n 2, 1) := by decide +kernel
theorem dF12_token_51 : decode cX12_token 51 = .ok (.iload_n 1, 1) := by decide +kernel
theorem dF12_token_52 : decode cX12_token 52 = .ok (.ifCond .ge 11, 3) := by decide +kernel
theorem dF12_token_55 : decode cX12_token 55 = .ok (.aload_n 0, 1) := by decide +kernel
theorem dF12_token_56 : decode cX12_token 56 = .ok (.iconst 0, 1) := by decide +kernel
theorem dF12_token_57 : decode cX12_token 57 = .ok (.putfield 125, 3) := by decide +kernel
theorem dF12_token_60 : decode cX12_token 60 = .ok (.goto 206, 3) := by decide +kernel
theorem dF12_token_63 : decode cX12_token 63 = .ok (.iload_n 1, 1) := by decide +kernel
theorem dF12_token_64 : decode cX12_token 64 = .ok (.bipush 97, 2) := by decide +kernel
theorem dF12_token_66 : decode cX12_token 66 = .ok (.bipush 122, 2) := by decide +kernel
theorem dF12_token_68 : decode cX12_token 68 = .ok (.invokestatic 100, 3) := by decide +kernel
theorem dF12_token_71 : decode cX12_token 71 = .ok (.ifCond .eq 76, 3) := by decide +kernel
theorem dF12_token_74 : decode cX12_token 74 = .ok (.aload_n 0, 1) := by decide +kernel
theorem dF12_token_75 : decode cX12_token 75 = .ok (.invokevirtual 114, 3) := by decide +kernel
theorem dF12_token_78 : decode cX12_token 78 = .ok (.bipush 97, 2) := by decide +kernel
theorem dF12_token_80 : decode cX12_token 80 = .ok (.bipush 122, 2) := by decide +kernel
theorem dF12_token_82 : decode cX12_token 82 = .ok (.invokestatic 100, 3) := by decide +kernel
theorem dF12_token_85 : decode cX12_token 85 = .ok (.ifCond .eq 36, 3) := by decide +kernel
theorem dF12_token_88 : decode cX12_token 88 = .ok (.aload_n 0, 1) := by decide +kernel
theorem dF12_token_89 : decode cX12_token 89 = .ok (.aload_n 0, 1) := by decide +kernel
theorem dF12_token_90 : decode cX12_token 90 = .ok (.getfield 121, 3) := by decide +kernel
theorem dF12_token_93 : decode cX12_token 93 = .ok (.bipush 8, 2) := by decide +kernel
theorem dF12_token_95 : decode cX12_token 95 = .ok (.lshl, 1) := by decide +kernel
theorem dF12_token_96 : decode cX12_token 96 = .ok (.aload_n 0, 1) := by decide +kernel
theorem dF12_token_97 : decode cX12_token 97 = .ok (.invokevirtual 114, 3) := by decide +kernel
theorem dF12_token_100 : decode cX12_token 100 = .ok (.i2l, 1) := by decide +kernel
theorem dF12_token_101 : decode cX12_token 101 = .ok (.lor, 1) := by decide +kernel
theorem dF12_token_102 : decode cX12_token 102 = .ok (.putfield 121, 3) := by decide +kernel
theorem dF12_token_105 : decode cX12_token 105 = .ok (.aload_n 0, 1) := by decide +kernel
theorem dF12_token_106 : decode cX12_token 106 = .ok (.dup, 1) := by decide +kernel
theorem dF12_token_107 : decode cX12_token 107 = .ok (.getfield 108, 3) := by decide +kernel
theorem dF12_token_110 : decode cX12_token 110 = .ok (.iconst 1, 1) := by decide +kernel
theorem dF12_token_111 : decode cX12_token 111 = .ok (.iadd, 1) := by decide +kernel
theorem dF12_token_112 : decode cX12_token 112 = .ok (.putfield 108, 3) := by decide +kernel
theorem dF12_token_115 : decode cX12_token 115 = .ok (.iinc 2 1, 3) := by decide +kernel
theorem dF12_token_118 : decode cX12_token 118 = .ok (.goto (-44), 3) := by decide +kernel
theorem dF12_token_121 : decode cX12_token 121 = .ok (.aload_n 0, 1) := by decide +kernel
theorem dF12_token_122 : decode cX12_token 122 = .ok (.iload_n 2, 1) := by decide +kernel
theorem dF12_token_123 : decode cX12_token 123 = .ok (.bipush 8, 2) := by decide +kernel
theorem dF12_token_125 : decode cX12_token 125 = .ok (.if_icmp .le 7, 3) := by decide +kernel
theorem dF12_token_128 : decode cX12_token 128 = .ok (.lconst 0, 1) := by decide +kernel
theorem dF12_token_129 : decode cX12_token 129 = .ok (.goto 7, 3) := by decide +kernel
theorem dF12_token_132 : decode cX12_token 132 = .ok (.aload_n 0, 1) := by decide +kernel
theorem dF12_token_133 : decode cX12_token 133 = .ok (.getfield 121, 3) := by decide +kernel
theorem dF12_token_136 : decode cX12_token 136 = .ok (.putfield 121, 3) := by decide +kernel
theorem dF12_token_139 : decode cX12_token 139 = .ok (.aload_n 0, 1) := by decide +kernel
theorem dF12_token_140 : decode cX12_token 140 = .ok (.iconst 2, 1) := by decide +kernel
theorem dF12_token_141 : decode cX12_token 141 = .ok (.putfield 125, 3) := by decide +kernel
theorem dF12_token_144 : decode cX12_token 144 = .ok (.goto 122, 3) := by decide +kernel
theorem dF12_token_147 : decode cX12_token 147 = .ok (.iload_n 1, 1) := by decide +kernel
theorem dF12_token_148 : decode cX12_token 148 = .ok (.bipush 48, 2) := by decide +kernel
theorem dF12_token_150 : decode cX12_token 150 = .ok (.bipush 57, 2) := by decide +kernel
theorem dF12_token_152 : decode cX12_token 152 = .ok (.invokestatic 100, 3) := by decide +kernel
theorem dF12_token_155 : decode cX12_token 155 = .ok (.ifCond .eq 86, 3) := by decide +kernel
theorem dF12_token_158 : decode cX12_token 158 = .ok (.aload_n 0, 1) := by decide +kernel
theorem dF12_token_159 : decode cX12_token 159 = .ok (.iconst 0, 1) := by decide +kernel
theorem dF12_token_160 : decode cX12_token 160 = .ok (.putfield 128, 3) := by decide +kernel
theorem dF12_token_163 : decode cX12_token 163 = .ok (.aload_n 0, 1) := by decide +kernel
theorem dF12_token_164 : decode cX12_token 164 = .ok (.invokevirtual 114, 3) := by decide +kernel
theorem dF12_token_167 : decode cX12_token 167 = .ok (.bipush 48, 2) := by decide +kernel
theorem dF12_token_169 : decode cX12_token 169 = .ok (.bipush 57, 2) := by decide +kernel
theorem dF12_token_171 : decode cX12_token 171 = .ok (.invokestatic 100, 3) := by decide +kernel
theorem dF12_token_174 : decode cX12_token 174 = .ok (.ifCond .eq 50, 3) := by decide +kernel
theorem dF12_token_177 : decode cX12_token 177 = .ok (.aload_n 0, 1) := by decide +kernel
theorem dF12_token_178 : decode cX12_token 178 = .ok (.iload_n 2, 1) := by decide +kernel
theorem dF12_token_179 : decode cX12_token 179 = .ok (.iconst 2, 1) := by decide +kernel
theorem dF12_token_180 : decode cX12_token 180 = .ok (.if_icmp .ge 21, 3) := by decide +kernel
theorem dF12_token_183 : decode cX12_token 183 = .ok (.bipush 10, 2) := by decide +kernel
theorem dF12_token_185 : decode cX12_token 185 = .ok (.aload_n 0, 1) := by decide +kernel
theorem dF12_token_186 : decode cX12_token 186 = .ok (.getfield 128, 3) := by decide +kernel
theorem dF12_token_189 : decode cX12_token 189 = .ok (.imul, 1) := by decide +kernel
theorem dF12_token_190 : decode cX12_token 190 = .ok (.aload_n 0, 1) := by decide +kernel
theorem dF12_token_191 : decode cX12_token 191 = .ok (.invokevirtual 114, 3) := by decide +kernel
theorem dF12_token_194 : decode cX12_token 194 = .ok (.iadd, 1) := by decide +kernel
theorem dF12_token_195 : decode cX12_token 195 = .ok (.bipush 48, 2) := by decide +kernel
theorem dF12_token_197 : decode cX12_token 197 = .ok (.isub, 1) := by decide +kernel
theorem dF12_token_198 : decode cX12_token 198 = .ok (.goto 7, 3) := by decide +kernel
theorem dF12_token_201 : decode cX12_token 201 = .ok (.aload_n 0, 1) := by decide +kernel
theorem dF12_token_202 : decode cX12_token 202 = .ok (.getfield 128, 3) := by decide +kernel
theorem dF12_token_205 : decode cX12_token 205 = .ok (.putfield 128, 3) := by decide +kernel
theorem dF12_token_208 : decode cX12_token 208 = .ok (.aload_n 0, 1) := by decide +kernel
theorem dF12_token_209 : decode cX12_token 209 = .ok (.dup, 1) := by decide +kernel
theorem dF12_token_210 : decode cX12_token 210 = .ok (.getfield 108, 3) := by decide +kernel
theorem dF12_token_213 : decode cX12_token 213 = .ok (.iconst 1, 1) := by decide +kernel
theorem dF12_token_214 : decode cX12_token 214 = .ok (.iadd, 1) := by decide +kernel
theorem dF12_token_215 : decode cX12_token 215 = .ok (.putfield 108, 3) := by decide +kernel
theorem dF12_token_218 : decode cX12_token 218 = .ok (.iinc 2 1, 3) := by decide +kernel
theorem dF12_token_221 : decode cX12_token 221 = .ok (.goto (-58), 3) := by decide +kernel
theorem dF12_token_224 : decode cX12_token 224 = .ok (.aload_n 0, 1) := by decide +kernel
theorem dF12_token_225 : decode cX12_token 225 = .ok (.iload_n 2, 1) := by decide +kernel
theorem dF12_token_226 : decode cX12_token 226 = .ok (.iconst 2, 1) := by decide +kernel
theorem dF12_token_227 : decode cX12_token 227 = .ok (.if_icmp .le 7, 3) := by decide +kernel
theorem dF12_token_230 : decode cX12_token 230 = .ok (.iconst 1, 1) := by decide +kernel
theorem dF12_token_231 : decode cX12_token 231 = .ok (.goto 4, 3) := by decide +kernel
theorem dF12_token_234 : decode cX12_token 234 = .ok (.iconst 3, 1) := by decide +kernel
theorem dF12_token_235 : decode cX12_token 235 = .ok (.putfield 125, 3) := by decide +kernel
theorem dF12_token_238 : decode cX12_token 238 = .ok (.goto 28, 3) := by decide +kernel
theorem dF12_token_241 : decode cX12_token 241 = .ok (.aload_n 0, 1) := by decide +kernel
theorem dF12_token_242 : decode cX12_token 242 = .ok (.dup, 1) := by decide +kernel
theorem dF12_token_243 : decode cX12_token 243 = .ok (.getfield 108, 3) := by decide +kernel
theorem dF12_token_246 : decode cX12_token 246 = .ok (.iconst 1, 1) := by decide +kernel
theorem dF12_token_247 : decode cX12_token 247 = .ok (.iadd, 1) := by decide +kernel
theorem dF12_token_248 : decode cX12_token 248 = .ok (.putfield 108, 3) := by decide +kernel
theorem dF12_token_251 : decode cX12_token 251 = .ok (.aload_n 0, 1) := by decide +kernel
theorem dF12_token_252 : decode cX12_token 252 = .ok (.iload_n 1, 1) := by decide +kernel
theorem dF12_token_253 : decode cX12_token 253 = .ok (.bipush 59, 2) := by decide +kernel
theorem dF12_token_255 : decode cX12_token 255 = .ok (.if_icmp .ne 7, 3) := by decide +kernel
theorem dF12_token_258 : decode cX12_token 258 = .ok (.iconst 4, 1) := by decide +kernel
theorem dF12_token_259 : decode cX12_token 259 = .ok (.goto 4, 3) := by decide +kernel
theorem dF12_token_262 : decode cX12_token 262 = .ok (.iconst 1, 1) := by decide +kernel
theorem dF12_token_263 : decode cX12_token 263 = .ok (.putfield 125, 3) := by decide +kernel
theorem dF12_token_266 : decode cX12_token 266 = .ok (.return_, 1) := by decide +kernel
def is_F12_token : Nat → List Nat := fun d => if d = 0 then [0] else if d = 74 then [0, 2] else if d = 163 then [0, 2] else []
set_option maxRecDepth 100000 in
def b_F12_token_266 (J : Nat → List qV → List qV → qW → Prop) (Q : qR) : qK := x_vret Q
set_option maxRecDepth 100000 in
theorem s_F12_token_266 {p : Program} {l : Launch} {e : Env} {R : Room} {s : State} {m : MethodId} {args : Array Value} {below : List Frame} {meth : Method} {c : Code} {nW : Nat} {dC : Nat → ClassId} {dI : Nat → Nat → Nat} {k : Nat → ClassId} {g : Nat → Nat} {A : Nat → Prop} {J : Nat → List qV → List qV → qW → Prop} {Q : qR} (X : q_X p R s m args meth c cX12_token 3 nW 1 22 RX12 none dC dI k g A) (hJ : ∀ d : Nat, q_Sd p l e R s m args below meth c 3 nW dC dI k g A (MQ below (q_post (dC, dI) k g nW Q A) args s 0 0 A) d (x_cut (is_F12_token d) (J d))) : q_Sd p l e R s m args below meth c 3 nW dC dI k g A (MQ below (q_post (dC, dI) k g nW Q A) args s 0 0 A) 266 (b_F12_token_266 J Q) := by
  unfold b_F12_token_266
  exact s_vret X dF12_token_266
set_option maxRecDepth 100000 in
def b_F12_token_263 (J : Nat → List qV → List qV → qW → Prop) (Q : qR) : qK := x_put 12 13 q_oki (x_nw (b_F12_token_266 J Q))
set_option maxRecDepth 100000 in
theorem s_F12_token_263 {p : Program} {l : Launch} {e : Env} {R : Room} {s : State} {m : MethodId} {args : Array Value} {below : List Frame} {meth : Method} {c : Code} {nW : Nat} {dC : Nat → ClassId} {dI : Nat → Nat → Nat} {k : Nat → ClassId} {g : Nat → Nat} {A : Nat → Prop} {J : Nat → List qV → List qV → qW → Prop} {Q : qR} (X : q_X p R s m args meth c cX12_token 3 nW 1 22 RX12 none dC dI k g A) (hJ : ∀ d : Nat, q_Sd p l e R s m args below meth c 3 nW dC dI k g A (MQ below (q_post (dC, dI) k g nW Q A) args s 0 0 A) d (x_cut (is_F12_token d) (J d))) : q_Sd p l e R s m args below meth c 3 nW dC dI k g A (MQ below (q_post (dC, dI) k g nW Q A) args s 0 0 A) 263 (b_F12_token_263 J Q) := by
  unfold b_F12_token_263
  refine s_put X (T := TX12) (C := RX12) (N := 45) tu_X12 tyX12_ok nmX12 rfl (by decide) tw_1010 rfl (by decide +kernel) q_oki_t dF12_token_263 ?_
  refine s_nw ?_
  exact s_F12_token_266 X hJ
set_option maxRecDepth 100000 in
def b_F12_token_235 (J : Nat → List qV → List qV → qW → Prop) (Q : qR) : qK := x_put 12 13 q_oki (x_nw (b_F12_token_266 J Q))
set_option maxRecDepth 100000 in
theorem s_F12_token_235 {p : Program} {l : Launch} {e : Env} {R : Room} {s : State} {m : MethodId} {args : Array Value} {below : List Frame} {meth : Method} {c : Code} {nW : Nat} {dC : Nat → ClassId} {dI : Nat → Nat → Nat} {k : Nat → ClassId} {g : Nat → Nat} {A : Nat → Prop} {J : Nat → List qV → List qV → qW → Prop} {Q : qR} (X : q_X p R s m args meth c cX12_token 3 nW 1 22 RX12 none dC dI k g A) (hJ : ∀ d : Nat, q_Sd p l e R s m args below meth c 3 nW dC dI k g A (MQ below (q_post (dC, dI) k g nW Q A) args s 0 0 A) d (x_cut (is_F12_token d) (J d))) : q_Sd p l e R s m args below meth c 3 nW dC dI k g A (MQ below (q_post (dC, dI) k g nW Q A) args s 0 0 A) 235 (b_F12_token_235 J Q) := by
  unfold b_F12_token_235
  refine s_put X (T := TX12) (C := RX12) (N := 45) tu_X12 tyX12_ok nmX12 rfl (by decide) tw_1010 rfl (by decide +kernel) q_oki_t dF12_token_235 ?_
  refine s_nw ?_
  refine s_goto X (tgt := 266) dF12_token_238 (by decide) ?_
  exact s_F12_token_266 X hJ
set_option maxRecDepth 100000 in
def b_F12_token_205 (J : Nat → List qV → List qV → qW → Prop) (Q : qR) : qK := x_put 12 14 q_oki (x_nw (x_aload 0 (x_dup (x_get 12 10 (x_int 1 (x_iadd (x_put 12 10 q_oki (x_nw (x_iinc 2 1 (x_cut [0, 2] (J 163)))))))))))
set_option maxRecDepth 100000 in
theorem s_F12_token_205 {p : Program} {l : Launch} {e : Env} {R : Room} {s : State} {m : MethodId} {args : Array Value} {below : List Frame} {meth : Method} {c : Code} {nW : Nat} {dC : Nat → ClassId} {dI : Nat → Nat → Nat} {k : Nat → ClassId} {g : Nat → Nat} {A : Nat → Prop} {J : Nat → List qV → List qV → qW → Prop} {Q : qR} (X : q_X p R s m args meth c cX12_token 3 nW 1 22 RX12 none dC dI k g A) (hJ : ∀ d : Nat, q_Sd p l e R s m args below meth c 3 nW dC dI k g A (MQ below (q_post (dC, dI) k g nW Q A) args s 0 0 A) d (x_cut (is_F12_token d) (J d))) : q_Sd p l e R s m args below meth c 3 nW dC dI k g A (MQ below (q_post (dC, dI) k g nW Q A) args s 0 0 A) 205 (b_F12_token_205 J Q) := by
  unfold b_F12_token_205
  refine s_put X (T := TX12) (C := RX12) (N := 45) tu_X12 tyX12_ok nmX12 rfl (by decide) tw_1011 rfl (by decide +kernel) q_oki_t dF12_token_205 ?_
  refine s_nw ?_
  refine s_aload_n X rfl dF12_token_208 ?_
  refine s_dup X dF12_token_209 ?_
  refine s_get X (T := TX12) (C := RX12) (N := 45) tu_X12 rfl (by decide) tw_1007 dF12_token_210 ?_
  refine s_iconst X ⟨by decide, by decide⟩ dF12_token_213 ?_
  refine s_iadd X dF12_token_214 ?_
  refine s_put X (T := TX12) (C := RX12) (N := 45) tu_X12 tyX12_ok nmX12 rfl (by decide) tw_1007 rfl (by decide +kernel) q_oki_t dF12_token_215 ?_
  refine s_nw ?_
  refine s_iinc X (by decide) dF12_token_218 ?_
  refine s_goto X (tgt := 163) dF12_token_221 (by decide) ?_
  exact hJ 163
set_option maxRecDepth 100000 in
def b_F12_token_163 (J : Nat → List qV → List qV → qW → Prop) (Q : qR) : qK := x_aload 0 (x_callr (some 12) 1 spr_X12_see (x_int 48 (x_int 57 (x_callr none 3 spr_X12_in (x_if_eq (x_aload 0 (x_iload 2 (x_int 2 (x_icmp_le (x_int 3 (b_F12_token_235 J Q)) (x_int 1 (b_F12_token_235 J Q)))))) (x_aload 0 (x_iload 2 (x_int 2 (x_icmp_ge (x_aload 0 (x_get 12 14 (b_F12_token_205 J Q))) (x_int 10 (x_aload 0 (x_get 12 14 (x_imul (x_aload 0 (x_callr (some 12) 1 spr_X12_see (x_iadd (x_int 48 (x_isub (b_F12_token_205 J Q)))))))))))))))))))
set_option maxRecDepth 100000 in
theorem s_F12_token_163 {p : Program} {l : Launch} {e : Env} {R : Room} {s : State} {m : MethodId} {args : Array Value} {below : List Frame} {meth : Method} {c : Code} {nW : Nat} {dC : Nat → ClassId} {dI : Nat → Nat → Nat} {k : Nat → ClassId} {g : Nat → Nat} {A : Nat → Prop} {J : Nat → List qV → List qV → qW → Prop} {Q : qR} (X : q_X p R s m args meth c cX12_token 3 nW 1 22 RX12 none dC dI k g A) (hJ : ∀ d : Nat, q_Sd p l e R s m args below meth c 3 nW dC dI k g A (MQ below (q_post (dC, dI) k g nW Q A) args s 0 0 A) d (x_cut (is_F12_token d) (J d))) : q_Sd p l e R s m args below meth c 3 nW dC dI k g A (MQ below (q_post (dC, dI) k g nW Q A) args s 0 0 A) 163 (b_F12_token_163 J Q) := by
  unfold b_F12_token_163
  refine s_aload_n X rfl dF12_token_163 ?_
  refine s_callVr X (m_X12_see l) tw_1073 tw_1074 tw_1614 tw_134 tw_1075 rfl (by decide +kernel) ⟨by decide, by decide⟩ dF12_token_164 ?_
  refine s_bipush X ⟨by decide, by decide⟩ (by decide) dF12_token_167 ?_
  refine s_bipush X ⟨by decide, by decide⟩ (by decide) dF12_token_169 ?_
  refine s_callSr X (m_X12_in l) tw_1054 tw_1055 tw_134 tw_1056 (by decide +kernel) ⟨by decide, by decide⟩ dF12_token_171 ?_
  refine s_if_eq X (tgt := 224) dF12_token_174 (by decide) ?_ ?_
  · refine s_aload_n X rfl dF12_token_224 ?_
    refine s_iload_n X rfl dF12_token_225 ?_
    refine s_iconst X ⟨by decide, by decide⟩ dF12_token_226 ?_
    refine s_icmp_le X (tgt := 234) dF12_token_227 (by decide) ?_ ?_
    · refine s_iconst X ⟨by decide, by decide⟩ dF12_token_234 ?_
      exact s_F12_token_235 X hJ
    · refine s_iconst X ⟨by decide, by decide⟩ dF12_token_230 ?_
      refine s_goto X (tgt := 235) dF12_token_231 (by decide) ?_
      exact s_F12_token_235 X hJ
  · refine s_aload_n X rfl dF12_token_177 ?_
    refine s_iload_n X rfl dF12_token_178 ?_
    refine s_iconst X ⟨by decide, by decide⟩ dF12_token_179 ?_
    refine s_icmp_ge X (tgt := 201) dF12_token_180 (by decide) ?_ ?_
    · refine s_aload_n X rfl dF12_token_201 ?_
      refine s_get X (T := TX12) (C := RX12) (N := 45) tu_X12 rfl (by decide) tw_1011 dF12_token_202 ?_
      exact s_F12_token_205 X hJ
    · refine s_bipush X ⟨by decide, by decide⟩ (by decide) dF12_token_183 ?_
      refine s_aload_n X rfl dF12_token_185 ?_
      refine s_get X (T := TX12) (C := RX12) (N := 45) tu_X12 rfl (by decide) tw_1011 dF12_token_186 ?_
      refine s_imul X dF12_token_189 ?_
      refine s_aload_n X rfl dF12_token_190 ?_
      refine s_callVr X (m_X12_see l) tw_1073 tw_1074 tw_1614 tw_134 tw_1075 rfl (by decide +kernel) ⟨by decide, by decide⟩ dF12_token_191 ?_
      refine s_iadd X dF12_token_194 ?_
      refine s_bipush X ⟨by decide, by decide⟩ (by decide) dF12_token_195 ?_
      refine s_isub X dF12_token_197 ?_
      refine s_goto X (tgt := 205) dF12_token_198 (by decide) ?_
      exact s_F12_token_205 X hJ
set_option maxRecDepth 100000 in
def b_F12_token_136 (J : Nat → List qV → List qV → qW → Prop) (Q : qR) : qK := x_put 12 15 q_okj (x_nw (x_aload 0 (x_int 2 (x_put 12 13 q_oki (x_nw (b_F12_token_266 J Q))))))
set_option maxRecDepth 100000 in
theorem s_F12_token_136 {p : Program} {l : Launch} {e : Env} {R : Room} {s : State} {m : MethodId} {args : Array Value} {below : List Frame} {meth : Method} {c : Code} {nW : Nat} {dC : Nat → ClassId} {dI : Nat → Nat → Nat} {k : Nat → ClassId} {g : Nat → Nat} {A : Nat → Prop} {J : Nat → List qV → List qV → qW → Prop} {Q : qR} (X : q_X p R s m args meth c cX12_token 3 nW 1 22 RX12 none dC dI k g A) (hJ : ∀ d : Nat, q_Sd p l e R s m args below meth c 3 nW dC dI k g A (MQ below (q_post (dC, dI) k g nW Q A) args s 0 0 A) d (x_cut (is_F12_token d) (J d))) : q_Sd p l e R s m args below meth c 3 nW dC dI k g A (MQ below (q_post (dC, dI) k g nW Q A) args s 0 0 A) 136 (b_F12_token_136 J Q) := by
  unfold b_F12_token_136
  refine s_put X (T := TX12) (C := RX12) (N := 45) tu_X12 tyX12_ok nmX12 rfl (by decide) tw_1012 rfl (by decide +kernel) q_okj_t dF12_token_136 ?_
  refine s_nw ?_
  refine s_aload_n X rfl dF12_token_139 ?_
  refine s_iconst X ⟨by decide, by decide⟩ dF12_token_140 ?_
  refine s_put X (T := TX12) (C := RX12) (N := 45) tu_X12 tyX12_ok nmX12 rfl (by decide) tw_1010 rfl (by decide +kernel) q_oki_t dF12_token_141 ?_
  refine s_nw ?_
  refine s_goto X (tgt := 266) dF12_token_144 (by decide) ?_
  exact s_F12_token_266 X hJ
set_option maxRecDepth 100000 in
def b_F12_token_121 (J : Nat → List qV → List qV → qW → Prop) (Q : qR) : qK := x_aload 0 (x_iload 2 (x_int 8 (x_icmp_le (x_aload 0 (x_get 12 15 (b_F12_token_136 J Q))) (x_lng 0 (b_F12_token_136 J Q)))))
set_option maxRecDepth 100000 in
theorem s_F12_token_121 {p : Program} {l : Launch} {e : Env} {R : Room} {s : State} {m : MethodId} {args : Array Value} {below : List Frame} {meth : Method} {c : Code} {nW : Nat} {dC : Nat → ClassId} {dI : Nat → Nat → Nat} {k : Nat → ClassId} {g : Nat → Nat} {A : Nat → Prop} {J : Nat → List qV → List qV → qW → Prop} {Q : qR} (X : q_X p R s m args meth c cX12_token 3 nW 1 22 RX12 none dC dI k g A) (hJ : ∀ d : Nat, q_Sd p l e R s m args below meth c 3 nW dC dI k g A (MQ below (q_post (dC, dI) k g nW Q A) args s 0 0 A) d (x_cut (is_F12_token d) (J d))) : q_Sd p l e R s m args below meth c 3 nW dC dI k g A (MQ below (q_post (dC, dI) k g nW Q A) args s 0 0 A) 121 (b_F12_token_121 J Q) := by
  unfold b_F12_token_121
  refine s_aload_n X rfl dF12_token_121 ?_
  refine s_iload_n X rfl dF12_token_122 ?_
  refine s_bipush X ⟨by decide, by decide⟩ (by decide) dF12_token_123 ?_
  refine s_icmp_le X (tgt := 132) dF12_token_125 (by decide) ?_ ?_
  · refine s_aload_n X rfl dF12_token_132 ?_
    refine s_get X (T := TX12) (C := RX12) (N := 45) tu_X12 rfl (by decide) tw_1012 dF12_token_133 ?_
    exact s_F12_token_136 X hJ
  · refine s_lconst X ⟨by decide, by decide⟩ (by decide) dF12_token_128 ?_
    refine s_goto X (tgt := 136) dF12_token_129 (by decide) ?_
    exact s_F12_token_136 X hJ
set_option maxRecDepth 100000 in
def b_F12_token_74 (J : Nat → List qV → List qV → qW → Prop) (Q : qR) : qK := x_aload 0 (x_callr (some 12) 1 spr_X12_see (x_int 97 (x_int 122 (x_callr none 3 spr_X12_in (x_if_eq (b_F12_token_121 J Q) (x_aload 0 (x_aload 0 (x_get 12 15 (x_int 8 (x_lshl (x_aload 0 (x_callr (some 12) 1 spr_X12_see (x_i2l (x_lor (x_put 12 15 q_okj (x_nw (x_aload 0 (x_dup (x_get 12 10 (x_int 1 (x_iadd (x_put 12 10 q_oki (x_nw (x_iinc 2 1 (x_cut [0, 2] (J 74))))))))))))))))))))))))))
set_option maxRecDepth 100000 in
theorem s_F12_token_74 {p : Program} {l : Launch} {e : Env} {R : Room} {s : State} {m : MethodId} {args : Array Value} {below : List Frame} {meth : Method} {c : Code} {nW : Nat} {dC : Nat → ClassId} {dI : Nat → Nat → Nat} {k : Nat → ClassId} {g : Nat → Nat} {A : Nat → Prop} {J : Nat → List qV → List qV → qW → Prop} {Q : qR} (X : q_X p R s m args meth c cX12_token 3 nW 1 22 RX12 none dC dI k g A) (hJ : ∀ d : Nat, q_Sd p l e R s m args below meth c 3 nW dC dI k g A (MQ below (q_post (dC, dI) k g nW Q A) args s 0 0 A) d (x_cut (is_F12_token d) (J d))) : q_Sd p l e R s m args below meth c 3 nW dC dI k g A (MQ below (q_post (dC, dI) k g nW Q A) args s 0 0 A) 74 (b_F12_token_74 J Q) := by
  unfold b_F12_token_74
  refine s_aload_n X rfl dF12_token_74 ?_
  refine s_callVr X (m_X12_see l) tw_1073 tw_1074 tw_1614 tw_134 tw_1075 rfl (by decide +kernel) ⟨by decide, by decide⟩ dF12_token_75 ?_
  refine s_bipush X ⟨by decide, by decide⟩ (by decide) dF12_token_78 ?_
  refine s_bipush X ⟨by decide, by decide⟩ (by decide) dF12_token_80 ?_
  refine s_callSr X (m_X12_in l) tw_1054 tw_1055 tw_134 tw_1056 (by decide +kernel) ⟨by decide, by decide⟩ dF12_token_82 ?_
  refine s_if_eq X (tgt := 121) dF12_token_85 (by decide) ?_ ?_
  · exact s_F12_token_121 X hJ
  · refine s_aload_n X rfl dF12_token_88 ?_
    refine s_aload_n X rfl dF12_token_89 ?_
    refine s_get X (T := TX12) (C := RX12) (N := 45) tu_X12 rfl (by decide) tw_1012 dF12_token_90 ?_
    refine s_bipush X ⟨by decide, by decide⟩ (by decide) dF12_token_93 ?_
    refine s_lshl X dF12_token_95 ?_
    refine s_aload_n X rfl dF12_token_96 ?_
    refine s_callVr X (m_X12_see l) tw_1073 tw_1074 tw_1614 tw_134 tw_1075 rfl (by decide +kernel) ⟨by decide, by decide⟩ dF12_token_97 ?_
    refine s_i2l X dF12_token_100 ?_
    refine s_lor X dF12_token_101 ?_
    refine s_put X (T := TX12) (C := RX12) (N := 45) tu_X12 tyX12_ok nmX12 rfl (by decide) tw_1012 rfl (by decide +kernel) q_okj_t dF12_token_102 ?_
    refine s_nw ?_
    refine s_aload_n X rfl dF12_token_105 ?_
    refine s_dup X dF12_token_106 ?_
    refine s_get X (T := TX12) (C := RX12) (N := 45) tu_X12 rfl (by decide) tw_1007 dF12_token_107 ?_
    refine s_iconst X ⟨by decide, by decide⟩ dF12_token_110 ?_
    refine s_iadd X dF12_token_111 ?_
    refine s_put X (T := TX12) (C := RX12) (N := 45) tu_X12 tyX12_ok nmX12 rfl (by decide) tw_1007 rfl (by decide +kernel) q_oki_t dF12_token_112 ?_
    refine s_nw ?_
    refine s_iinc X (by decide) dF12_token_115 ?_
    refine s_goto X (tgt := 74) dF12_token_118 (by decide) ?_
    exact hJ 74
set_option maxRecDepth 100000 in
def b_F12_token_60 (J : Nat → List qV → List qV → qW → Prop) (Q : qR) : qK := b_F12_token_266 J Q
set_option maxRecDepth 100000 in
theorem s_F12_token_60 {p : Program} {l : Launch} {e : Env} {R : Room} {s : State} {m : MethodId} {args : Array Value} {below : List Frame} {meth : Method} {c : Code} {nW : Nat} {dC : Nat → ClassId} {dI : Nat → Nat → Nat} {k : Nat → ClassId} {g : Nat → Nat} {A : Nat → Prop} {J : Nat → List qV → List qV → qW → Prop} {Q : qR} (X : q_X p R s m args meth c cX12_token 3 nW 1 22 RX12 none dC dI k g A) (hJ : ∀ d : Nat, q_Sd p l e R s m args below meth c 3 nW dC dI k g A (MQ below (q_post (dC, dI) k g nW Q A) args s 0 0 A) d (x_cut (is_F12_token d) (J d))) : q_Sd p l e R s m args below meth c 3 nW dC dI k g A (MQ below (q_post (dC, dI) k g nW Q A) args s 0 0 A) 60 (b_F12_token_60 J Q) := by
  unfold b_F12_token_60
  refine s_goto X (tgt := 266) dF12_token_60 (by decide) ?_
  exact s_F12_token_266 X hJ
set_option maxRecDepth 100000 in
def b_F12_token_18 (J : Nat → List qV → List qV → qW → Prop) (Q : qR) : qK := x_aload 0 (x_dup (x_get 12 10 (x_int 1 (x_iadd (x_put 12 10 q_oki (x_nw (x_cut [0] (J 0))))))))
set_option maxRecDepth 100000 in
theorem s_F12_token_18 {p : Program} {l : Launch} {e : Env} {R : Room} {s : State} {m : MethodId} {args : Array Value} {below : List Frame} {meth : Method} {c : Code} {nW : Nat} {dC : Nat → ClassId} {dI : Nat → Nat → Nat} {k : Nat → ClassId} {g : Nat → Nat} {A : Nat → Prop} {J : Nat → List qV → List qV → qW → Prop} {Q : qR} (X : q_X p R s m args meth c cX12_token 3 nW 1 22 RX12 none dC dI k g A) (hJ : ∀ d : Nat, q_Sd p l e R s m args below meth c 3 nW dC dI k g A (MQ below (q_post (dC, dI) k g nW Q A) args s 0 0 A) d (x_cut (is_F12_token d) (J d))) : q_Sd p l e R s m args below meth c 3 nW dC dI k g A (MQ below (q_post (dC, dI) k g nW Q A) args s 0 0 A) 18 (b_F12_token_18 J Q) := by
  unfold b_F12_token_18
  refine s_aload_n X rfl dF12_token_18 ?_
  refine s_dup X dF12_token_19 ?_
  refine s_get X (T := TX12) (C := RX12) (N := 45) tu_X12 rfl (by decide) tw_1007 dF12_token_20 ?_
  refine s_iconst X ⟨by decide, by decide⟩ dF12_token_23 ?_
  refine s_iadd X dF12_token_24 ?_
  refine s_put X (T := TX12) (C := RX12) (N := 45) tu_X12 tyX12_ok nmX12 rfl (by decide) tw_1007 rfl (by decide +kernel) q_oki_t dF12_token_25 ?_
  refine s_nw ?_
  refine s_goto X (tgt := 0) dF12_token_28 (by decide) ?_
  exact hJ 0
set_option maxRecDepth 100000 in
def b_F12_token_0 (J : Nat → List qV → List qV → qW → Prop) (Q : qR) : qK := x_aload 0 (x_callr (some 12) 1 spr_X12_see (x_int 10 (x_icmp_eq (b_F12_token_18 J Q) (x_aload 0 (x_callr (some 12) 1 spr_X12_see (x_int 32 (x_icmp_ne (x_aload 0 (x_aload 0 (x_get 12 10 (x_put 12 12 q_oki (x_nw (x_aload 0 (x_callr (some 12) 1 spr_X12_see (x_istore 1 (x_aload 0 (x_lng 0 (x_put 12 15 q_okj (x_nw (x_int 0 (x_istore 2 (x_iload 1 (x_if_ge (x_iload 1 (x_int 97 (x_int 122 (x_callr none 3 spr_X12_in (x_if_eq (x_iload 1 (x_int 48 (x_int 57 (x_callr none 3 spr_X12_in (x_if_eq (x_aload 0 (x_dup (x_get 12 10 (x_int 1 (x_iadd (x_put 12 10 q_oki (x_nw (x_aload 0 (x_iload 1 (x_int 59 (x_icmp_ne (x_int 1 (b_F12_token_263 J Q)) (x_int 4 (b_F12_token_263 J Q))))))))))))) (x_aload 0 (x_int 0 (x_put 12 14 q_oki (x_nw (x_cut [0, 2] (J 163))))))))))) (x_cut [0, 2] (J 74))))))) (x_aload 0 (x_int 0 (x_put 12 13 q_oki (x_nw (b_F12_token_60 J Q))))))))))))))))))))) (b_F12_token_18 J Q))))))))
set_option maxRecDepth 100000 in
theorem s_F12_token_0 {p : Program} {l : Launch} {e : Env} {R : Room} {s : State} {m : MethodId} {args : Array Value} {below : List Frame} {meth : Method} {c : Code} {nW : Nat} {dC : Nat → ClassId} {dI : Nat → Nat → Nat} {k : Nat → ClassId} {g : Nat → Nat} {A : Nat → Prop} {J : Nat → List qV → List qV → qW → Prop} {Q : qR} (X : q_X p R s m args meth c cX12_token 3 nW 1 22 RX12 none dC dI k g A) (hJ : ∀ d : Nat, q_Sd p l e R s m args below meth c 3 nW dC dI k g A (MQ below (q_post (dC, dI) k g nW Q A) args s 0 0 A) d (x_cut (is_F12_token d) (J d))) : q_Sd p l e R s m args below meth c 3 nW dC dI k g A (MQ below (q_post (dC, dI) k g nW Q A) args s 0 0 A) 0 (b_F12_token_0 J Q) := by
  unfold b_F12_token_0
  refine s_aload_n X rfl dF12_token_0 ?_
  refine s_callVr X (m_X12_see l) tw_1073 tw_1074 tw_1614 tw_134 tw_1075 rfl (by decide +kernel) ⟨by decide, by decide⟩ dF12_token_1 ?_
  refine s_bipush X ⟨by decide, by decide⟩ (by decide) dF12_token_4 ?_
  refine s_icmp_eq X (tgt := 18) dF12_token_6 (by decide) ?_ ?_
  · exact s_F12_token_18 X hJ
  · refine s_aload_n X rfl dF12_token_9 ?_
    refine s_callVr X (m_X12_see l) tw_1073 tw_1074 tw_1614 tw_134 tw_1075 rfl (by decide +kernel) ⟨by decide, by decide⟩ dF12_token_10 ?_
    refine s_bipush X ⟨by decide, by decide⟩ (by decide) dF12_token_13 ?_
    refine s_icmp_ne X (tgt := 31) dF12_token_15 (by decide) ?_ ?_
    · refine s_aload_n X rfl dF12_token_31 ?_
      refine s_aload_n X rfl dF12_token_32 ?_
      refine s_get X (T := TX12) (C := RX12) (N := 45) tu_X12 rfl (by decide) tw_1007 dF12_token_33 ?_
      refine s_put X (T := TX12) (C := RX12) (N := 45) tu_X12 tyX12_ok nmX12 rfl (by decide) tw_1009 rfl (by decide +kernel) q_oki_t dF12_token_36 ?_
      refine s_nw ?_
      refine s_aload_n X rfl dF12_token_39 ?_
      refine s_callVr X (m_X12_see l) tw_1073 tw_1074 tw_1614 tw_134 tw_1075 rfl (by decide +kernel) ⟨by decide, by decide⟩ dF12_token_40 ?_
      refine s_istore_n X rfl (by decide) dF12_token_43 ?_
      refine s_aload_n X rfl dF12_token_44 ?_
      refine s_lconst X ⟨by decide, by decide⟩ (by decide) dF12_token_45 ?_
      refine s_put X (T := TX12) (C := RX12) (N := 45) tu_X12 tyX12_ok nmX12 rfl (by decide) tw_1012 rfl (by decide +kernel) q_okj_t dF12_token_46 ?_
      refine s_nw ?_
      refine s_iconst X ⟨by decide, by decide⟩ dF12_token_49 ?_
      refine s_istore_n X rfl (by decide) dF12_token_50 ?_
      refine s_iload_n X rfl dF12_token_51 ?_
      refine s_if_ge X (tgt := 63) dF12_token_52 (by decide) ?_ ?_
      · refine s_iload_n X rfl dF12_token_63 ?_
        refine s_bipush X ⟨by decide, by decide⟩ (by decide) dF12_token_64 ?_
        refine s_bipush X ⟨by decide, by decide⟩ (by decide) dF12_token_66 ?_
        refine s_callSr X (m_X12_in l) tw_1054 tw_1055 tw_134 tw_1056 (by decide +kernel) ⟨by decide, by decide⟩ dF12_token_68 ?_
        refine s_if_eq X (tgt := 147) dF12_token_71 (by decide) ?_ ?_
        · refine s_iload_n X rfl dF12_token_147 ?_
          refine s_bipush X ⟨by decide, by decide⟩ (by decide) dF12_token_148 ?_
          refine s_bipush X ⟨by decide, by decide⟩ (by decide) dF12_token_150 ?_
          refine s_callSr X (m_X12_in l) tw_1054 tw_1055 tw_134 tw_1056 (by decide +kernel) ⟨by decide, by decide⟩ dF12_token_152 ?_
          refine s_if_eq X (tgt := 241) dF12_token_155 (by decide) ?_ ?_
          · refine s_aload_n X rfl dF12_token_241 ?_
            refine s_dup X dF12_token_242 ?_
            refine s_get X (T := TX12) (C := RX12) (N := 45) tu_X12 rfl (by decide) tw_1007 dF12_token_243 ?_
            refine s_iconst X ⟨by decide, by decide⟩ dF12_token_246 ?_
            refine s_iadd X dF12_token_247 ?_
            refine s_put X (T := TX12) (C := RX12) (N := 45) tu_X12 tyX12_ok nmX12 rfl (by decide) tw_1007 rfl (by decide +kernel) q_oki_t dF12_token_248 ?_
            refine s_nw ?_
            refine s_aload_n X rfl dF12_token_251 ?_
            refine s_iload_n X rfl dF12_token_252 ?_
            refine s_bipush X ⟨by decide, by decide⟩ (by decide) dF12_token_253 ?_
            refine s_icmp_ne X (tgt := 262) dF12_token_255 (by decide) ?_ ?_
            · refine s_iconst X ⟨by decide, by decide⟩ dF12_token_262 ?_
              exact s_F12_token_263 X hJ
            · refine s_iconst X ⟨by decide, by decide⟩ dF12_token_258 ?_
              refine s_goto X (tgt := 263) dF12_token_259 (by decide) ?_
              exact s_F12_token_263 X hJ
          · refine s_aload_n X rfl dF12_token_158 ?_
            refine s_iconst X ⟨by decide, by decide⟩ dF12_token_159 ?_
            refine s_put X (T := TX12) (C := RX12) (N := 45) tu_X12 tyX12_ok nmX12 rfl (by decide) tw_1011 rfl (by decide +kernel) q_oki_t dF12_token_160 ?_
            refine s_nw ?_
            exact hJ 163
        · exact hJ 74
      · refine s_aload_n X rfl dF12_token_55 ?_
        refine s_iconst X ⟨by decide, by decide⟩ dF12_token_56 ?_
        refine s_put X (T := TX12) (C := RX12) (N := 45) tu_X12 tyX12_ok nmX12 rfl (by decide) tw_1010 rfl (by decide +kernel) q_oki_t dF12_token_57 ?_
        refine s_nw ?_
        exact s_F12_token_60 X hJ
    · exact s_F12_token_18 X hJ

def sp_F12_token : qS := fun av w Q => ∃ (mco : Int) (mre : Int) (mle : Int) (mbe : Int) (mso : Int) (mva : Int) (mwo : Int) (mwr : Int) (mlf : Int) (mlp : Int) (mfp : Int) (mfd : Int) (mgo : Int) (mbo : Int) (mpe : Int) (mye : Int) (mpr : Int) (mld : Int) (msi : Int) (mse : Int) (tp : Nat → Int), av = [q2 0] ∧ w = [.inr (12, [q1 mco, q2 1, q2 2, q2 3, q2 4, q2 5, q2 6, q2 7, q2 8, q2 9, q1 mre, q1 mle, q1 mbe, q1 mso, q1 mva, q3 mwo, q1 mwr, q1 mlf, q1 mlp, q2 10, q2 11, q1 mfp, q1 mfd, q1 mgo, q1 mbo, q1 mpe, q1 mye, q2 12, q1 mpr, q2 13, q2 14, q2 15, q2 16, q1 mld, q2 17, q1 msi, q2 18, q2 19, q2 20, q2 21, q2 22, q1 mse, q2 23, q2 24, q2 25]), .inl (1, 2400, .inl tp)] ∧ (0 ≤ mre ∧ mre ≤ mle ∧ mle ≤ 600) ∧ (∀ (x_mre : Int) (x_mbe : Int) (x_mso : Int) (x_mva : Int) (x_mwo : Int), (TokR (tc tp) mle mre x_mre x_mbe x_mso x_mva x_mwo ∧ (mre ≤ x_mre ∧ x_mre ≤ mle ∧ (x_mso = 0 ∨ mre < x_mre))) → Q none ([.inr (12, [q1 mco, q2 1, q2 2, q2 3, q2 4, q2 5, q2 6, q2 7, q2 8, q2 9, q1 x_mre, q1 mle, q1 x_mbe, q1 x_mso, q1 x_mva, q3 x_mwo, q1 mwr, q1 mlf, q1 mlp, q2 10, q2 11, q1 mfp, q1 mfd, q1 mgo, q1 mbo, q1 mpe, q1 mye, q2 12, q1 mpr, q2 13, q2 14, q2 15, q2 16, q1 mld, q2 17, q1 msi, q2 18, q2 19, q2 20, q2 21, q2 22, q1 mse, q2 23, q2 24, q2 25]), .inl (1, 2400, .inl tp)]))
def I_F12_token (mco : Int) (mre : Int) (mle : Int) (mbe : Int) (mso : Int) (mva : Int) (mwo : Int) (mwr : Int) (mlf : Int) (mlp : Int) (mfp : Int) (mfd : Int) (mgo : Int) (mbo : Int) (mpe : Int) (mye : Int) (mpr : Int) (mld : Int) (msi : Int) (mse : Int) (tp : Nat → Int) : Nat → Nat → List qV → List qV → qW → Prop := fun dz mz vz sz wz => if dz = 0 then (∃ (y_mre : Int), vz = [q2 0] ∧ sz = [] ∧ wz = [.inr (12, [q1 mco, q2 1, q2 2, q2 3, q2 4, q2 5, q2 6, q2 7, q2 8, q2 9, q1 y_mre, q1 mle, q1 mbe, q1 mso, q1 mva, q3 mwo, q1 mwr, q1 mlf, q1 mlp, q2 10, q2 11, q1 mfp, q1 mfd, q1 mgo, q1 mbo, q1 mpe, q1 mye, q2 12, q1 mpr, q2 13, q2 14, q2 15, q2 16, q1 mld, q2 17, q1 msi, q2 18, q2 19, q2 20, q2 21, q2 22, q1 mse, q2 23, q2 24, q2 25]), .inl (1, 2400, .inl tp)] ∧ mz = 10000 + (mle - y_mre).toNat ∧ (mre ≤ y_mre ∧ y_mre ≤ mle) ∧ (RunA isS (tc tp) mre y_mre)) else if dz = 74 then (∃ (y_mre : Int) (y_mbe : Int) (y_mso : Int) (y_mva : Int) (y_mwo : Int) (v2 : Int), vz = [q2 0, q1 v2] ∧ sz = [] ∧ wz = [.inr (12, [q1 mco, q2 1, q2 2, q2 3, q2 4, q2 5, q2 6, q2 7, q2 8, q2 9, q1 y_mre, q1 mle, q1 y_mbe, q1 y_mso, q1 y_mva, q3 y_mwo, q1 mwr, q1 mlf, q1 mlp, q2 10, q2 11, q1 mfp, q1 mfd, q1 mgo, q1 mbo, q1 mpe, q1 mye, q2 12, q1 mpr, q2 13, q2 14, q2 15, q2 16, q1 mld, q2 17, q1 msi, q2 18, q2 19, q2 20, q2 21, q2 22, q1 mse, q2 23, q2 24, q2 25]), .inl (1, 2400, .inl tp)] ∧ mz = (mle - y_mre).toNat ∧ (mre ≤ y_mbe ∧ y_mbe ≤ y_mre ∧ y_mre ≤ mle ∧ v2 = y_mre - y_mbe ∧ y_mbe < mle ∧ 0 ≤ mre) ∧ (y_mbe = tB (tc tp) mle mre) ∧ (isL (byt (tc tp) y_mbe)) ∧ (RunA isL (tc tp) y_mbe y_mre) ∧ (PkS (tc tp) y_mbe v2 y_mwo)) else if dz = 163 then (∃ (y_mre : Int) (y_mbe : Int) (y_mso : Int) (y_mva : Int) (y_mwo : Int) (v2 : Int), vz = [q2 0, q1 v2] ∧ sz = [] ∧ wz = [.inr (12, [q1 mco, q2 1, q2 2, q2 3, q2 4, q2 5, q2 6, q2 7, q2 8, q2 9, q1 y_mre, q1 mle, q1 y_mbe, q1 y_mso, q1 y_mva, q3 y_mwo, q1 mwr, q1 mlf, q1 mlp, q2 10, q2 11, q1 mfp, q1 mfd, q1 mgo, q1 mbo, q1 mpe, q1 mye, q2 12, q1 mpr, q2 13, q2 14, q2 15, q2 16, q1 mld, q2 17, q1 msi, q2 18, q2 19, q2 20, q2 21, q2 22, q1 mse, q2 23, q2 24, q2 25]), .inl (1, 2400, .inl tp)] ∧ mz = (mle - y_mre).toNat ∧ (mre ≤ y_mbe ∧ y_mbe ≤ y_mre ∧ y_mre ≤ mle ∧ v2 = y_mre - y_mbe ∧ y_mbe < mle ∧ 0 ≤ mre ∧ y_mwo = 0) ∧ (y_mbe = tB (tc tp) mle mre) ∧ (isD (byt (tc tp) y_mbe)) ∧ (RunA isD (tc tp) y_mbe y_mre) ∧ (NumS (tc tp) y_mbe v2 y_mva)) else False
set_option maxHeartbeats 4000000 in
set_option maxRecDepth 100000 in
theorem m_F12_token (l : Launch) : q_M l yX12_token cX12_token 3 none 1 22 sp_F12_token := by
  refine q_meth (by decide) (fun av w Q h => by obtain ⟨mco, mre, mle, mbe, mso, mva, mwo, mwr, mlf, mlp, mfp, mfd, mgo, mbo, mpe, mye, mpr, mld, msi, mse, tp, rfl, rfl, htp, hQ⟩ := h; exact Nat.le_of_ble_eq_true rfl) ?_
  intro p e R s m args below meth c dC dI k g A av w Q hsp oka okw X
  obtain ⟨mco, mre, mle, mbe, mso, mva, mwo, mwr, mlf, mlp, mfp, mfd, mgo, mbo, mpe, mye, mpr, mld, msi, mse, tp, rfl, rfl, htp, hQ⟩ := hsp
  refine s_mono (q_loopn (is := is_F12_token) (I_F12_token mco mre mle mbe mso mva mwo mwr mlf mlp mfp mfd mgo mbo mpe mye mpr mld msi mse tp) (fun dz J => if dz = 0 then b_F12_token_0 J Q else if dz = 74 then b_F12_token_74 J Q else if dz = 163 then b_F12_token_163 J Q else q_F) ?hs ?hv 0) ?_
  case hs =>
    intro d J hJ
    by_cases hq_0 : d = 0
    · subst hq_0; exact s_F12_token_0 X hJ
    by_cases hq_74 : d = 74
    · subst hq_74; exact s_F12_token_74 X hJ
    by_cases hq_163 : d = 163
    · subst hq_163; exact s_F12_token_163 X hJ
    simp only [hq_0, hq_74, hq_163, if_false]
    exact s_F
  case hv =>
    intro dz mz vz sz wz hI okv oks okw hlen
    by_cases hq_0 : dz = 0
    · subst hq_0
      obtain ⟨y_mre, rfl, rfl, rfl, hn, hp, hs9⟩ := hI
      refine Exists.intro [0, 1, 2, 3, 4, 5, 6, 7, 8, 9, 10, 11, 12, 13, 14, 15, 16, 17, 18, 19, 20, 21, 22, 23, 24, 25] (Exists.intro [q2 0] (Exists.intro ([.inr (12, [q1 _, q2 1, q2 2, q2 3, q2 4, q2 5, q2 6, q2 7, q2 8, q2 9, q1 _, q1 _, q1 _, q1 _, q1 _, q3 _, q1 _, q1 _, q1 _, q2 10, q2 11, q1 _, q1 _, q1 _, q1 _, q1 _, q1 _, q2 12, q1 _, q2 13, q2 14, q2 15, q2 16, q1 _, q2 17, q1 _, q2 18, q2 19, q2 20, q2 21, q2 22, q1 _, q2 23, q2 24, q2 25]), .inl (1, 2400, .inl _)]) (And.intro rfl (And.intro rfl (And.intro rfl (And.intro ⟨⟨_, rfl⟩, rfl⟩ ?_))))))
      refine Exists.intro _ (Exists.intro _ (Exists.intro _ (Exists.intro _ (Exists.intro _ (Exists.intro _ (Exists.intro _ (Exists.intro _ (Exists.intro _ (Exists.intro _ (Exists.intro _ (Exists.intro _ (Exists.intro _ (Exists.intro _ (Exists.intro _ (Exists.intro _ (Exists.intro _ (Exists.intro _ (Exists.intro _ (Exists.intro _ (Exists.intro _ (And.intro rfl (And.intro rfl (And.intro (by first | omega | assumption | exact q_rg_up (by assumption) (by omega) | exact q_rg_up (q_rg_up (by assumption) (by omega)) (by omega) | exact q_rg_cpy (by assumption) (by assumption)) (?_))))))))))))))))))))))))
      intro zq_1 hq_1
      apply And.intro
      · intro hq_6
        intro zq_24 hq_24
        first | replace hq_24 := e_add hq_24 (by omega) | replace hq_24 := e_rng hq_24
        apply And.intro
        · exact trivial
        exact ⟨_, ⟨_, rfl, rfl, rfl, rfl, (by first | omega | assumption | exact q_rg_up (by assumption) (by omega) | exact q_rg_up (q_rg_up (by assumption) (by omega)) (by omega) | exact q_rg_cpy (by assumption) (by assumption)), (by first | exact RunA_0 | exact RunA_s hs9 (by omega) (see_b hq_1.1 (by omega)) (Or.inl (by omega)) | exact RunA_s hs9 (by omega) (see_b hq_10.1 (by omega)) (Or.inr (by omega)))⟩, by omega⟩
      · intro hq_6
        refine Exists.intro [0, 1, 2, 3, 4, 5, 6, 7, 8, 9, 10, 11, 12, 13, 14, 15, 16, 17, 18, 19, 20, 21, 22, 23, 24, 25] (Exists.intro [q2 0] (Exists.intro ([.inr (12, [q1 _, q2 1, q2 2, q2 3, q2 4, q2 5, q2 6, q2 7, q2 8, q2 9, q1 _, q1 _, q1 _, q1 _, q1 _, q3 _, q1 _, q1 _, q1 _, q2 10, q2 11, q1 _, q1 _, q1 _, q1 _, q1 _, q1 _, q2 12, q1 _, q2 13, q2 14, q2 15, q2 16, q1 _, q2 17, q1 _, q2 18, q2 19, q2 20, q2 21, q2 22, q1 _, q2 23, q2 24, q2 25]), .inl (1, 2400, .inl _)]) (And.intro rfl (And.intro rfl (And.intro rfl (And.intro ⟨⟨_, rfl⟩, rfl⟩ ?_))))))
        refine Exists.intro _ (Exists.intro _ (Exists.intro _ (Exists.intro _ (Exists.intro _ (Exists.intro _ (Exists.intro _ (Exists.intro _ (Exists.intro _ (Exists.intro _ (Exists.intro _ (Exists.intro _ (Exists.intro _ (Exists.intro _ (Exists.intro _ (Exists.intro _ (Exists.intro _ (Exists.intro _ (Exists.intro _ (Exists.intro _ (Exists.intro _ (And.intro rfl (And.intro rfl (And.intro (by first | omega | assumption | exact q_rg_up (by assumption) (by omega) | exact q_rg_up (q_rg_up (by assumption) (by omega)) (by omega) | exact q_rg_cpy (by assumption) (by assumption)) (?_))))))))))))))))))))))))
        intro zq_10 hq_10
        apply And.intro
        · intro hq_15
          apply And.intro
          · exact trivial
          refine Exists.intro [0, 1, 2, 3, 4, 5, 6, 7, 8, 9, 10, 11, 12, 13, 14, 15, 16, 17, 18, 19, 20, 21, 22, 23, 24, 25] (Exists.intro [q2 0] (Exists.intro ([.inr (12, [q1 _, q2 1, q2 2, q2 3, q2 4, q2 5, q2 6, q2 7, q2 8, q2 9, q1 _, q1 _, q1 _, q1 _, q1 _, q3 _, q1 _, q1 _, q1 _, q2 10, q2 11, q1 _, q1 _, q1 _, q1 _, q1 _, q1 _, q2 12, q1 _, q2 13, q2 14, q2 15, q2 16, q1 _, q2 17, q1 _, q2 18, q2 19, q2 20, q2 21, q2 22, q1 _, q2 23, q2 24, q2 25]), .inl (1, 2400, .inl _)]) (And.intro rfl (And.intro rfl (And.intro rfl (And.intro ⟨⟨_, rfl⟩, rfl⟩ ?_))))))
          refine Exists.intro _ (Exists.intro _ (Exists.intro _ (Exists.intro _ (Exists.intro _ (Exists.intro _ (Exists.intro _ (Exists.intro _ (Exists.intro _ (Exists.intro _ (Exists.intro _ (Exists.intro _ (Exists.intro _ (Exists.intro _ (Exists.intro _ (Exists.intro _ (Exists.intro _ (Exists.intro _ (Exists.intro _ (Exists.intro _ (Exists.intro _ (And.intro rfl (And.intro rfl (And.intro (by first | omega | assumption | exact q_rg_up (by assumption) (by omega) | exact q_rg_up (q_rg_up (by assumption) (by omega)) (by omega) | exact q_rg_cpy (by assumption) (by assumption)) (?_))))))))))))))))))))))))
          intro zq_40 hq_40
          have hb9 : y_mre = tB (tc tp) mle mre := (rn_eq (P := isS) (Run_o hs9 (by omega) (by omega) (fun hq => NoS hq_6 hq_15 (see_b hq_1.1 hq) (see_b hq_10.1 hq)))).symm
          apply And.intro
          · exact trivial
          apply And.intro
          · intro hq_52
            have n52 : y_mre < mle := by omega
            have hz9 := see_b hq_40.1 n52
            refine Exists.intro [] (Exists.intro [q1 _, q1 _, q1 _] (Exists.intro [] (And.intro rfl (And.intro rfl (And.intro rfl (And.intro trivial ?_))))))
            refine Exists.intro _ (Exists.intro _ (Exists.intro _ (And.intro rfl (And.intro rfl (?_)))))
            intro zq_68 hq_68
            apply And.intro
            · intro hq_71
              first | replace hq_68 := dj1 hq_68 hq_71 | replace hq_68 := dj0 hq_68 hq_71
              have hn9 : ¬ isL (byt (tc tp) y_mre) := by rw [← hz9]; exact hq_68
              refine Exists.intro [] (Exists.intro [q1 _, q1 _, q1 _] (Exists.intro [] (And.intro rfl (And.intro rfl (And.intro rfl (And.intro trivial ?_))))))
              refine Exists.intro _ (Exists.intro _ (Exists.intro _ (And.intro rfl (And.intro rfl (?_)))))
              intro zq_152 hq_152
              apply And.intro
              · intro hq_155
                first | replace hq_152 := dj1 hq_152 hq_155 | replace hq_152 := dj0 hq_152 hq_155
                have hm9 : ¬ isD (byt (tc tp) y_mre) := by rw [← hz9]; exact hq_152
                intro zq_247 hq_247
                first | replace hq_247 := e_add hq_247 (by omega) | replace hq_247 := e_rng hq_247
                apply And.intro
                · exact trivial
                apply And.intro
                · intro hq_255
                  apply And.intro
                  · exact trivial
                  exact hQ _ _ _ _ _ (by first | exact ⟨TokR_of (v := 0) (AdvE (Run_o hs9 (by omega) (by omega) (fun hq => absurd hq n52)) n52) rfl rfl (fun hq_9 => absurd hq_9 (by decide)) rfl, by omega⟩ | exact TokW (TokR_of (v := 0) (AdvW hb9 (by omega) hl9 (Run_o hr9 (by omega) (by omega) (fun hq => by rw [← see_b hq_75.1 hq]; exact hq_82))) rfl rfl (fun hq_9 => absurd hq_9 (by decide)) (by rw [if_pos rfl]; unfold pkW; rw [if_neg (by omega)])) (by omega) (by omega) (by omega) | exact TokW (TokR_of (v := 0) (AdvW hb9 (by omega) hl9 (Run_o hr9 (by omega) (by omega) (fun hq => by rw [← see_b hq_75.1 hq]; exact hq_82))) rfl rfl (fun hq_9 => absurd hq_9 (by decide)) (by rw [if_pos rfl]; unfold pkW; rw [if_pos (by omega), show y_mre - y_mbe = v2 by omega]; exact hw9 (by omega))) (by omega) (by omega) (by omega) | exact TokW (TokR_of (AdvD hb9 (by omega) hd9 (Run_o hr9 (by omega) (by omega) (fun hq => by rw [← see_b hq_164.1 hq]; exact hq_171)) (by first | exact Or.inl ⟨by omega, rfl⟩ | exact Or.inr ⟨by omega, rfl⟩) (NumS_D hn9 (by omega))) rfl rfl (fun _ => rfl) (by rw [if_neg (by decide)]; omega)) (by omega) (by omega) (by omega) | exact ⟨TokR_of (v := 0) (AdvS hb9 n52 hn9 hm9 rfl (by first | exact Or.inl ⟨by omega, rfl⟩ | exact Or.inr ⟨by omega, rfl⟩)) (by omega) rfl (fun hq_9 => absurd hq_9 (by decide)) rfl, by omega⟩)
                · intro hq_255
                  apply And.intro
                  · exact trivial
                  exact hQ _ _ _ _ _ (by first | exact ⟨TokR_of (v := 0) (AdvE (Run_o hs9 (by omega) (by omega) (fun hq => absurd hq n52)) n52) rfl rfl (fun hq_9 => absurd hq_9 (by decide)) rfl, by omega⟩ | exact TokW (TokR_of (v := 0) (AdvW hb9 (by omega) hl9 (Run_o hr9 (by omega) (by omega) (fun hq => by rw [← see_b hq_75.1 hq]; exact hq_82))) rfl rfl (fun hq_9 => absurd hq_9 (by decide)) (by rw [if_pos rfl]; unfold pkW; rw [if_neg (by omega)])) (by omega) (by omega) (by omega) | exact TokW (TokR_of (v := 0) (AdvW hb9 (by omega) hl9 (Run_o hr9 (by omega) (by omega) (fun hq => by rw [← see_b hq_75.1 hq]; exact hq_82))) rfl rfl (fun hq_9 => absurd hq_9 (by decide)) (by rw [if_pos rfl]; unfold pkW; rw [if_pos (by omega), show y_mre - y_mbe = v2 by omega]; exact hw9 (by omega))) (by omega) (by omega) (by omega) | exact TokW (TokR_of (AdvD hb9 (by omega) hd9 (Run_o hr9 (by omega) (by omega) (fun hq => by rw [← see_b hq_164.1 hq]; exact hq_171)) (by first | exact Or.inl ⟨by omega, rfl⟩ | exact Or.inr ⟨by omega, rfl⟩) (NumS_D hn9 (by omega))) rfl rfl (fun _ => rfl) (by rw [if_neg (by decide)]; omega)) (by omega) (by omega) (by omega) | exact ⟨TokR_of (v := 0) (AdvS hb9 n52 hn9 hm9 rfl (by first | exact Or.inl ⟨by omega, rfl⟩ | exact Or.inr ⟨by omega, rfl⟩)) (by omega) rfl (fun hq_9 => absurd hq_9 (by decide)) rfl, by omega⟩)
              · intro hq_155
                first | replace hq_152 := dj1 hq_152 hq_155 | replace hq_152 := dj0 hq_152 hq_155
                have hd9 : isD (byt (tc tp) y_mre) := by rw [← hz9]; exact hq_152
                apply And.intro
                · exact trivial
                exact ⟨_, ⟨_, _, _, _, _, _, rfl, rfl, rfl, rfl, (by first | omega | assumption | exact q_rg_up (by assumption) (by omega) | exact q_rg_up (q_rg_up (by assumption) (by omega)) (by omega) | exact q_rg_cpy (by assumption) (by assumption)), hb9, hd9, (by first | exact RunA_0 | exact RunA_s hr9 (by omega) (see_b hq_164.1 (by omega)) hq_171), (by first | exact NumS_0 | exact NumS_s hn9 hr9 (by omega) (by omega) (by omega) (see_b hq_191.1 (by omega)) (by omega) (by omega) | exact NumS_k hn9 (by omega) (by omega))⟩, by omega⟩
            · intro hq_71
              first | replace hq_68 := dj1 hq_68 hq_71 | replace hq_68 := dj0 hq_68 hq_71
              have hl9 : isL (byt (tc tp) y_mre) := by rw [← hz9]; exact hq_68
              exact ⟨_, ⟨_, _, _, _, _, _, rfl, rfl, rfl, rfl, (by first | omega | assumption | exact q_rg_up (by assumption) (by omega) | exact q_rg_up (q_rg_up (by assumption) (by omega)) (by omega) | exact q_rg_cpy (by assumption) (by assumption)), hb9, hl9, (by first | exact RunA_0 | exact RunA_s hr9 (by omega) (see_b hq_75.1 (by omega)) hq_82), (by first | exact PkS_0 | exact PkS_s hw9 hr9 (by omega) (by omega) hq_95 hq_101 (see_b hq_97.1 (by omega)) (by omega))⟩, by omega⟩
          · intro hq_52
            have n52 : ¬ y_mre < mle := fun hq => absurd (byt_r (tc tp) y_mre).1 (by rw [← see_b hq_40.1 hq]; omega)
            apply And.intro
            · exact trivial
            exact hQ _ _ _ _ _ (by first | exact ⟨TokR_of (v := 0) (AdvE (Run_o hs9 (by omega) (by omega) (fun hq => absurd hq n52)) n52) rfl rfl (fun hq_9 => absurd hq_9 (by decide)) rfl, by omega⟩ | exact TokW (TokR_of (v := 0) (AdvW hb9 (by omega) hl9 (Run_o hr9 (by omega) (by omega) (fun hq => by rw [← see_b hq_75.1 hq]; exact hq_82))) rfl rfl (fun hq_9 => absurd hq_9 (by decide)) (by rw [if_pos rfl]; unfold pkW; rw [if_neg (by omega)])) (by omega) (by omega) (by omega) | exact TokW (TokR_of (v := 0) (AdvW hb9 (by omega) hl9 (Run_o hr9 (by omega) (by omega) (fun hq => by rw [← see_b hq_75.1 hq]; exact hq_82))) rfl rfl (fun hq_9 => absurd hq_9 (by decide)) (by rw [if_pos rfl]; unfold pkW; rw [if_pos (by omega), show y_mre - y_mbe = v2 by omega]; exact hw9 (by omega))) (by omega) (by omega) (by omega) | exact TokW (TokR_of (AdvD hb9 (by omega) hd9 (Run_o hr9 (by omega) (by omega) (fun hq => by rw [← see_b hq_164.1 hq]; exact hq_171)) (by first | exact Or.inl ⟨by omega, rfl⟩ | exact Or.inr ⟨by omega, rfl⟩) (NumS_D hn9 (by omega))) rfl rfl (fun _ => rfl) (by rw [if_neg (by decide)]; omega)) (by omega) (by omega) (by omega) | exact ⟨TokR_of (v := 0) (AdvS hb9 n52 hn9 hm9 rfl (by first | exact Or.inl ⟨by omega, rfl⟩ | exact Or.inr ⟨by omega, rfl⟩)) (by omega) rfl (fun hq_9 => absurd hq_9 (by decide)) rfl, by omega⟩)
        · intro hq_15
          intro zq_24 hq_24
          first | replace hq_24 := e_add hq_24 (by omega) | replace hq_24 := e_rng hq_24
          apply And.intro
          · exact trivial
          exact ⟨_, ⟨_, rfl, rfl, rfl, rfl, (by first | omega | assumption | exact q_rg_up (by assumption) (by omega) | exact q_rg_up (q_rg_up (by assumption) (by omega)) (by omega) | exact q_rg_cpy (by assumption) (by assumption)), (by first | exact RunA_0 | exact RunA_s hs9 (by omega) (see_b hq_1.1 (by omega)) (Or.inl (by omega)) | exact RunA_s hs9 (by omega) (see_b hq_10.1 (by omega)) (Or.inr (by omega)))⟩, by omega⟩
    by_cases hq_74 : dz = 74
    · subst hq_74
      obtain ⟨y_mre, y_mbe, y_mso, y_mva, y_mwo, v2, rfl, rfl, rfl, hn, hp, hb9, hl9, hr9, hw9⟩ := hI
      refine Exists.intro [0, 1, 2, 3, 4, 5, 6, 7, 8, 9, 10, 11, 12, 13, 14, 15, 16, 17, 18, 19, 20, 21, 22, 23, 24, 25] (Exists.intro [q2 0] (Exists.intro ([.inr (12, [q1 _, q2 1, q2 2, q2 3, q2 4, q2 5, q2 6, q2 7, q2 8, q2 9, q1 _, q1 _, q1 _, q1 _, q1 _, q3 _, q1 _, q1 _, q1 _, q2 10, q2 11, q1 _, q1 _, q1 _, q1 _, q1 _, q1 _, q2 12, q1 _, q2 13, q2 14, q2 15, q2 16, q1 _, q2 17, q1 _, q2 18, q2 19, q2 20, q2 21, q2 22, q1 _, q2 23, q2 24, q2 25]), .inl (1, 2400, .inl _)]) (And.intro rfl (And.intro rfl (And.intro rfl (And.intro ⟨⟨_, rfl⟩, rfl⟩ ?_))))))
      refine Exists.intro _ (Exists.intro _ (Exists.intro _ (Exists.intro _ (Exists.intro _ (Exists.intro _ (Exists.intro _ (Exists.intro _ (Exists.intro _ (Exists.intro _ (Exists.intro _ (Exists.intro _ (Exists.intro _ (Exists.intro _ (Exists.intro _ (Exists.intro _ (Exists.intro _ (Exists.intro _ (Exists.intro _ (Exists.intro _ (Exists.intro _ (And.intro rfl (And.intro rfl (And.intro (by first | omega | assumption | exact q_rg_up (by assumption) (by omega) | exact q_rg_up (q_rg_up (by assumption) (by omega)) (by omega) | exact q_rg_cpy (by assumption) (by assumption)) (?_))))))))))))))))))))))))
      intro zq_75 hq_75
      refine Exists.intro [] (Exists.intro [q1 _, q1 _, q1 _] (Exists.intro [] (And.intro rfl (And.intro rfl (And.intro rfl (And.intro trivial ?_))))))
      refine Exists.intro _ (Exists.intro _ (Exists.intro _ (And.intro rfl (And.intro rfl (?_)))))
      intro zq_82 hq_82
      apply And.intro
      · intro hq_85
        first | replace hq_82 := dj1 hq_82 hq_85 | replace hq_82 := dj0 hq_82 hq_85
        apply And.intro
        · intro hq_125
          apply And.intro
          · exact trivial
          apply And.intro
          · exact trivial
          exact hQ _ _ _ _ _ (by first | exact ⟨TokR_of (v := 0) (AdvE (Run_o hs9 (by omega) (by omega) (fun hq => absurd hq n52)) n52) rfl rfl (fun hq_9 => absurd hq_9 (by decide)) rfl, by omega⟩ | exact TokW (TokR_of (v := 0) (AdvW hb9 (by omega) hl9 (Run_o hr9 (by omega) (by omega) (fun hq => by rw [← see_b hq_75.1 hq]; exact hq_82))) rfl rfl (fun hq_9 => absurd hq_9 (by decide)) (by rw [if_pos rfl]; unfold pkW; rw [if_neg (by omega)])) (by omega) (by omega) (by omega) | exact TokW (TokR_of (v := 0) (AdvW hb9 (by omega) hl9 (Run_o hr9 (by omega) (by omega) (fun hq => by rw [← see_b hq_75.1 hq]; exact hq_82))) rfl rfl (fun hq_9 => absurd hq_9 (by decide)) (by rw [if_pos rfl]; unfold pkW; rw [if_pos (by omega), show y_mre - y_mbe = v2 by omega]; exact hw9 (by omega))) (by omega) (by omega) (by omega) | exact TokW (TokR_of (AdvD hb9 (by omega) hd9 (Run_o hr9 (by omega) (by omega) (fun hq => by rw [← see_b hq_164.1 hq]; exact hq_171)) (by first | exact Or.inl ⟨by omega, rfl⟩ | exact Or.inr ⟨by omega, rfl⟩) (NumS_D hn9 (by omega))) rfl rfl (fun _ => rfl) (by rw [if_neg (by decide)]; omega)) (by omega) (by omega) (by omega) | exact ⟨TokR_of (v := 0) (AdvS hb9 n52 hn9 hm9 rfl (by first | exact Or.inl ⟨by omega, rfl⟩ | exact Or.inr ⟨by omega, rfl⟩)) (by omega) rfl (fun hq_9 => absurd hq_9 (by decide)) rfl, by omega⟩)
        · intro hq_125
          apply And.intro
          · exact trivial
          apply And.intro
          · exact trivial
          exact hQ _ _ _ _ _ (by first | exact ⟨TokR_of (v := 0) (AdvE (Run_o hs9 (by omega) (by omega) (fun hq => absurd hq n52)) n52) rfl rfl (fun hq_9 => absurd hq_9 (by decide)) rfl, by omega⟩ | exact TokW (TokR_of (v := 0) (AdvW hb9 (by omega) hl9 (Run_o hr9 (by omega) (by omega) (fun hq => by rw [← see_b hq_75.1 hq]; exact hq_82))) rfl rfl (fun hq_9 => absurd hq_9 (by decide)) (by rw [if_pos rfl]; unfold pkW; rw [if_neg (by omega)])) (by omega) (by omega) (by omega) | exact TokW (TokR_of (v := 0) (AdvW hb9 (by omega) hl9 (Run_o hr9 (by omega) (by omega) (fun hq => by rw [← see_b hq_75.1 hq]; exact hq_82))) rfl rfl (fun hq_9 => absurd hq_9 (by decide)) (by rw [if_pos rfl]; unfold pkW; rw [if_pos (by omega), show y_mre - y_mbe = v2 by omega]; exact hw9 (by omega))) (by omega) (by omega) (by omega) | exact TokW (TokR_of (AdvD hb9 (by omega) hd9 (Run_o hr9 (by omega) (by omega) (fun hq => by rw [← see_b hq_164.1 hq]; exact hq_171)) (by first | exact Or.inl ⟨by omega, rfl⟩ | exact Or.inr ⟨by omega, rfl⟩) (NumS_D hn9 (by omega))) rfl rfl (fun _ => rfl) (by rw [if_neg (by decide)]; omega)) (by omega) (by omega) (by omega) | exact ⟨TokR_of (v := 0) (AdvS hb9 n52 hn9 hm9 rfl (by first | exact Or.inl ⟨by omega, rfl⟩ | exact Or.inr ⟨by omega, rfl⟩)) (by omega) rfl (fun hq_9 => absurd hq_9 (by decide)) rfl, by omega⟩)
      · intro hq_85
        first | replace hq_82 := dj1 hq_82 hq_85 | replace hq_82 := dj0 hq_82 hq_85
        intro zq_95 hq_95
        skip
        refine Exists.intro [0, 1, 2, 3, 4, 5, 6, 7, 8, 9, 10, 11, 12, 13, 14, 15, 16, 17, 18, 19, 20, 21, 22, 23, 24, 25] (Exists.intro [q2 0] (Exists.intro ([.inr (12, [q1 _, q2 1, q2 2, q2 3, q2 4, q2 5, q2 6, q2 7, q2 8, q2 9, q1 _, q1 _, q1 _, q1 _, q1 _, q3 _, q1 _, q1 _, q1 _, q2 10, q2 11, q1 _, q1 _, q1 _, q1 _, q1 _, q1 _, q2 12, q1 _, q2 13, q2 14, q2 15, q2 16, q1 _, q2 17, q1 _, q2 18, q2 19, q2 20, q2 21, q2 22, q1 _, q2 23, q2 24, q2 25]), .inl (1, 2400, .inl _)]) (And.intro rfl (And.intro rfl (And.intro rfl (And.intro ⟨⟨_, rfl⟩, rfl⟩ ?_))))))
        refine Exists.intro _ (Exists.intro _ (Exists.intro _ (Exists.intro _ (Exists.intro _ (Exists.intro _ (Exists.intro _ (Exists.intro _ (Exists.intro _ (Exists.intro _ (Exists.intro _ (Exists.intro _ (Exists.intro _ (Exists.intro _ (Exists.intro _ (Exists.intro _ (Exists.intro _ (Exists.intro _ (Exists.intro _ (Exists.intro _ (Exists.intro _ (And.intro rfl (And.intro rfl (And.intro (by first | omega | assumption | exact q_rg_up (by assumption) (by omega) | exact q_rg_up (q_rg_up (by assumption) (by omega)) (by omega) | exact q_rg_cpy (by assumption) (by assumption)) (?_))))))))))))))))))))))))
        intro zq_97 hq_97
        intro zq_101 hq_101
        skip
        apply And.intro
        · exact trivial
        intro zq_111 hq_111
        first | replace hq_111 := e_add hq_111 (by omega) | replace hq_111 := e_rng hq_111
        apply And.intro
        · exact trivial
        intro zq_115 hq_115
        first | replace hq_115 := e_add hq_115 (by omega) | replace hq_115 := e_rng hq_115
        exact ⟨_, ⟨_, _, _, _, _, _, rfl, rfl, rfl, rfl, (by first | omega | assumption | exact q_rg_up (by assumption) (by omega) | exact q_rg_up (q_rg_up (by assumption) (by omega)) (by omega) | exact q_rg_cpy (by assumption) (by assumption)), hb9, hl9, (by first | exact RunA_0 | exact RunA_s hr9 (by omega) (see_b hq_75.1 (by omega)) hq_82), (by first | exact PkS_0 | exact PkS_s hw9 hr9 (by omega) (by omega) hq_95 hq_101 (see_b hq_97.1 (by omega)) (by omega))⟩, by omega⟩
    by_cases hq_163 : dz = 163
    · subst hq_163
      obtain ⟨y_mre, y_mbe, y_mso, y_mva, y_mwo, v2, rfl, rfl, rfl, hn, hp, hb9, hd9, hr9, hn9⟩ := hI
      have hv9 := hn9.2.2.2
      refine Exists.intro [0, 1, 2, 3, 4, 5, 6, 7, 8, 9, 10, 11, 12, 13, 14, 15, 16, 17, 18, 19, 20, 21, 22, 23, 24, 25] (Exists.intro [q2 0] (Exists.intro ([.inr (12, [q1 _, q2 1, q2 2, q2 3, q2 4, q2 5, q2 6, q2 7, q2 8, q2 9, q1 _, q1 _, q1 _, q1 _, q1 _, q3 _, q1 _, q1 _, q1 _, q2 10, q2 11, q1 _, q1 _, q1 _, q1 _, q1 _, q1 _, q2 12, q1 _, q2 13, q2 14, q2 15, q2 16, q1 _, q2 17, q1 _, q2 18, q2 19, q2 20, q2 21, q2 22, q1 _, q2 23, q2 24, q2 25]), .inl (1, 2400, .inl _)]) (And.intro rfl (And.intro rfl (And.intro rfl (And.intro ⟨⟨_, rfl⟩, rfl⟩ ?_))))))
      refine Exists.intro _ (Exists.intro _ (Exists.intro _ (Exists.intro _ (Exists.intro _ (Exists.intro _ (Exists.intro _ (Exists.intro _ (Exists.intro _ (Exists.intro _ (Exists.intro _ (Exists.intro _ (Exists.intro _ (Exists.intro _ (Exists.intro _ (Exists.intro _ (Exists.intro _ (Exists.intro _ (Exists.intro _ (Exists.intro _ (Exists.intro _ (And.intro rfl (And.intro rfl (And.intro (by first | omega | assumption | exact q_rg_up (by assumption) (by omega) | exact q_rg_up (q_rg_up (by assumption) (by omega)) (by omega) | exact q_rg_cpy (by assumption) (by assumption)) (?_))))))))))))))))))))))))
      intro zq_164 hq_164
      refine Exists.intro [] (Exists.intro [q1 _, q1 _, q1 _] (Exists.intro [] (And.intro rfl (And.intro rfl (And.intro rfl (And.intro trivial ?_))))))
      refine Exists.intro _ (Exists.intro _ (Exists.intro _ (And.intro rfl (And.intro rfl (?_)))))
      intro zq_171 hq_171
      apply And.intro
      · intro hq_174
        first | replace hq_171 := dj1 hq_171 hq_174 | replace hq_171 := dj0 hq_171 hq_174
        apply And.intro
        · intro hq_227
          apply And.intro
          · exact trivial
          exact hQ _ _ _ _ _ (by first | exact ⟨TokR_of (v := 0) (AdvE (Run_o hs9 (by omega) (by omega) (fun hq => absurd hq n52)) n52) rfl rfl (fun hq_9 => absurd hq_9 (by decide)) rfl, by omega⟩ | exact TokW (TokR_of (v := 0) (AdvW hb9 (by omega) hl9 (Run_o hr9 (by omega) (by omega) (fun hq => by rw [← see_b hq_75.1 hq]; exact hq_82))) rfl rfl (fun hq_9 => absurd hq_9 (by decide)) (by rw [if_pos rfl]; unfold pkW; rw [if_neg (by omega)])) (by omega) (by omega) (by omega) | exact TokW (TokR_of (v := 0) (AdvW hb9 (by omega) hl9 (Run_o hr9 (by omega) (by omega) (fun hq => by rw [← see_b hq_75.1 hq]; exact hq_82))) rfl rfl (fun hq_9 => absurd hq_9 (by decide)) (by rw [if_pos rfl]; unfold pkW; rw [if_pos (by omega), show y_mre - y_mbe = v2 by omega]; exact hw9 (by omega))) (by omega) (by omega) (by omega) | exact TokW (TokR_of (AdvD hb9 (by omega) hd9 (Run_o hr9 (by omega) (by omega) (fun hq => by rw [← see_b hq_164.1 hq]; exact hq_171)) (by first | exact Or.inl ⟨by omega, rfl⟩ | exact Or.inr ⟨by omega, rfl⟩) (NumS_D hn9 (by omega))) rfl rfl (fun _ => rfl) (by rw [if_neg (by decide)]; omega)) (by omega) (by omega) (by omega) | exact ⟨TokR_of (v := 0) (AdvS hb9 n52 hn9 hm9 rfl (by first | exact Or.inl ⟨by omega, rfl⟩ | exact Or.inr ⟨by omega, rfl⟩)) (by omega) rfl (fun hq_9 => absurd hq_9 (by decide)) rfl, by omega⟩)
        · intro hq_227
          apply And.intro
          · exact trivial
          exact hQ _ _ _ _ _ (by first | exact ⟨TokR_of (v := 0) (AdvE (Run_o hs9 (by omega) (by omega) (fun hq => absurd hq n52)) n52) rfl rfl (fun hq_9 => absurd hq_9 (by decide)) rfl, by omega⟩ | exact TokW (TokR_of (v := 0) (AdvW hb9 (by omega) hl9 (Run_o hr9 (by omega) (by omega) (fun hq => by rw [← see_b hq_75.1 hq]; exact hq_82))) rfl rfl (fun hq_9 => absurd hq_9 (by decide)) (by rw [if_pos rfl]; unfold pkW; rw [if_neg (by omega)])) (by omega) (by omega) (by omega) | exact TokW (TokR_of (v := 0) (AdvW hb9 (by omega) hl9 (Run_o hr9 (by omega) (by omega) (fun hq => by rw [← see_b hq_75.1 hq]; exact hq_82))) rfl rfl (fun hq_9 => absurd hq_9 (by decide)) (by rw [if_pos rfl]; unfold pkW; rw [if_pos (by omega), show y_mre - y_mbe = v2 by omega]; exact hw9 (by omega))) (by omega) (by omega) (by omega) | exact TokW (TokR_of (AdvD hb9 (by omega) hd9 (Run_o hr9 (by omega) (by omega) (fun hq => by rw [← see_b hq_164.1 hq]; exact hq_171)) (by first | exact Or.inl ⟨by omega, rfl⟩ | exact Or.inr ⟨by omega, rfl⟩) (NumS_D hn9 (by omega))) rfl rfl (fun _ => rfl) (by rw [if_neg (by decide)]; omega)) (by omega) (by omega) (by omega) | exact ⟨TokR_of (v := 0) (AdvS hb9 n52 hn9 hm9 rfl (by first | exact Or.inl ⟨by omega, rfl⟩ | exact Or.inr ⟨by omega, rfl⟩)) (by omega) rfl (fun hq_9 => absurd hq_9 (by decide)) rfl, by omega⟩)
      · intro hq_174
        first | replace hq_171 := dj1 hq_171 hq_174 | replace hq_171 := dj0 hq_171 hq_174
        apply And.intro
        · intro hq_180
          apply And.intro
          · exact trivial
          intro zq_214 hq_214
          first | replace hq_214 := e_add hq_214 (by omega) | replace hq_214 := e_rng hq_214
          apply And.intro
          · exact trivial
          intro zq_218 hq_218
          first | replace hq_218 := e_add hq_218 (by omega) | replace hq_218 := e_rng hq_218
          exact ⟨_, ⟨_, _, _, _, _, _, rfl, rfl, rfl, rfl, (by first | omega | assumption | exact q_rg_up (by assumption) (by omega) | exact q_rg_up (q_rg_up (by assumption) (by omega)) (by omega) | exact q_rg_cpy (by assumption) (by assumption)), hb9, hd9, (by first | exact RunA_0 | exact RunA_s hr9 (by omega) (see_b hq_164.1 (by omega)) hq_171), (by first | exact NumS_0 | exact NumS_s hn9 hr9 (by omega) (by omega) (by omega) (see_b hq_191.1 (by omega)) (by omega) (by omega) | exact NumS_k hn9 (by omega) (by omega))⟩, by omega⟩
        · intro hq_180
          intro zq_189 hq_189
          first | replace hq_189 := e_mul hq_189 (by omega) | replace hq_189 := e_rng hq_189
          refine Exists.intro [0, 1, 2, 3, 4, 5, 6, 7, 8, 9, 10, 11, 12, 13, 14, 15, 16, 17, 18, 19, 20, 21, 22, 23, 24, 25] (Exists.intro [q2 0] (Exists.intro ([.inr (12, [q1 _, q2 1, q2 2, q2 3, q2 4, q2 5, q2 6, q2 7, q2 8, q2 9, q1 _, q1 _, q1 _, q1 _, q1 _, q3 _, q1 _, q1 _, q1 _, q2 10, q2 11, q1 _, q1 _, q1 _, q1 _, q1 _, q1 _, q2 12, q1 _, q2 13, q2 14, q2 15, q2 16, q1 _, q2 17, q1 _, q2 18, q2 19, q2 20, q2 21, q2 22, q1 _, q2 23, q2 24, q2 25]), .inl (1, 2400, .inl _)]) (And.intro rfl (And.intro rfl (And.intro rfl (And.intro ⟨⟨_, rfl⟩, rfl⟩ ?_))))))
          refine Exists.intro _ (Exists.intro _ (Exists.intro _ (Exists.intro _ (Exists.intro _ (Exists.intro _ (Exists.intro _ (Exists.intro _ (Exists.intro _ (Exists.intro _ (Exists.intro _ (Exists.intro _ (Exists.intro _ (Exists.intro _ (Exists.intro _ (Exists.intro _ (Exists.intro _ (Exists.intro _ (Exists.intro _ (Exists.intro _ (Exists.intro _ (And.intro rfl (And.intro rfl (And.intro (by first | omega | assumption | exact q_rg_up (by assumption) (by omega) | exact q_rg_up (q_rg_up (by assumption) (by omega)) (by omega) | exact q_rg_cpy (by assumption) (by assumption)) (?_))))))))))))))))))))))))
          intro zq_191 hq_191
          intro zq_194 hq_194
          first | replace hq_194 := e_add hq_194 (by omega) | replace hq_194 := e_rng hq_194
          intro zq_197 hq_197
          first | replace hq_197 := e_sub hq_197 (by omega) | replace hq_197 := e_rng hq_197
          apply And.intro
          · exact trivial
          intro zq_214 hq_214
          first | replace hq_214 := e_add hq_214 (by omega) | replace hq_214 := e_rng hq_214
          apply And.intro
          · exact trivial
          intro zq_218 hq_218
          first | replace hq_218 := e_add hq_218 (by omega) | replace hq_218 := e_rng hq_218
          exact ⟨_, ⟨_, _, _, _, _, _, rfl, rfl, rfl, rfl, (by first | omega | assumption | exact q_rg_up (by assumption) (by omega) | exact q_rg_up (q_rg_up (by assumption) (by omega)) (by omega) | exact q_rg_cpy (by assumption) (by assumption)), hb9, hd9, (by first | exact RunA_0 | exact RunA_s hr9 (by omega) (see_b hq_164.1 (by omega)) hq_171), (by first | exact NumS_0 | exact NumS_s hn9 hr9 (by omega) (by omega) (by omega) (see_b hq_191.1 (by omega)) (by omega) (by omega) | exact NumS_k hn9 (by omega) (by omega))⟩, by omega⟩
    simp only [I_F12_token, hq_0, hq_74, hq_163, if_false] at hI
  rintro lv st w' ⟨rfl, rfl, rfl⟩
  exact ⟨_, _, rfl, rfl, rfl, rfl, (by first | omega | assumption | exact q_rg_up (by assumption) (by omega) | exact q_rg_up (q_rg_up (by assumption) (by omega)) (by omega) | exact q_rg_cpy (by assumption) (by assumption)), (by first | exact RunA_0 | exact RunA_s hs9 (by omega) (see_b hq_1.1 (by omega)) (Or.inl (by omega)) | exact RunA_s hs9 (by omega) (see_b hq_10.1 (by omega)) (Or.inr (by omega)))⟩
