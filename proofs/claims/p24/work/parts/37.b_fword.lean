theorem e_id255 {z x : Int} (h : z = (Int32.ofInt x &&& Int32.ofInt 255).toInt) (hx : 0 ≤ x ∧ x ≤ 127) : z = x := by
  have hq_9 : ∀ j : Fin 128, (nI j.val &&& Int32.ofInt 255).toInt = (j.val : Int) := by decide +kernel
  rw [h, q_nI hx.1 (by omega)]
  have hq_8 : (nI x.toNat &&& Int32.ofInt 255).toInt = (x.toNat : Int) := hq_9 ⟨x.toNat, by omega⟩
  rw [hq_8]
  omega
def IsR (t : Nat → Int) (b e k : Int) (i : Nat) (r : Int) : Prop := (r = 1 ∧ IsP t b e k i) ∨ (r = 0 ∧ ¬ IsP t b e k i)
def IsM (t : Nat → Int) (b : Int) (i : Nat) (v : Int) : Prop := ∀ j : Nat, (j : Int) < v → byt t (b + j) = ((qTb.getD i []).getD j 0).toInt
theorem IsM_0 {t : Nat → Int} {b : Int} {i : Nat} : IsM t b i 0 := fun j hj => by omega
theorem IsM_s {t : Nat → Int} {b v v' z x : Int} {i : Nat} (h : IsM t b i v) (hq_0 : 0 ≤ v) (hv : v' = v + 1) {a : Int} (hz : z = byt t a) (hx : x = ((qTb.getD i []).getD v.toNat 0).toInt) (ha : a = b + v) (he : z = x) : IsM t b i v' := fun j hj => by
  by_cases e : (j : Int) = v
  · have e1 : j = v.toNat := by omega
    rw [e1, ← hx, ← he, hz, ha]
    congr 1
    omega
  · exact h j (by omega)
theorem IsR_k {t : Nat → Int} {b e k : Int} {i : Nat} (h : ¬ k = 1) : IsR t b e k i 0 := Or.inr ⟨rfl, fun hq_9 => h hq_9.1⟩
theorem IsR_l {t : Nat → Int} {b e k : Int} {i : Nat} (h : ¬ e - b = (qTn.getD i 0 : Nat)) : IsR t b e k i 0 := Or.inr ⟨rfl, fun hq_9 => h hq_9.2.1⟩
theorem IsR_b {t : Nat → Int} {b e k v z x a : Int} {i : Nat} (hq_0 : 0 ≤ v ∧ v < (qTn.getD i 0 : Nat)) (hz : z = byt t a) (hx : x = ((qTb.getD i []).getD v.toNat 0).toInt) (ha : a = b + v) (he : ¬ z = x) : IsR t b e k i 0 := Or.inr ⟨rfl, fun hq_9 => he (by
  have hq_1 := hq_9.2.2 v.toNat (by omega)
  rw [hz, hx, ha, ← hq_1]
  congr 1
  omega)⟩
theorem IsR_y {t : Nat → Int} {b e k v : Int} {i : Nat} (hk : k = 1 ∧ e - b = (qTn.getD i 0 : Nat)) (hv : (qTn.getD i 0 : Nat) ≤ v) (h : IsM t b i v) : IsR t b e k i 1 := Or.inl ⟨rfl, hk.1, hk.2, fun j hj => h j (by omega)⟩
theorem IsR_1 {t : Nat → Int} {b e k r : Int} {i : Nat} (h : IsR t b e k i r) (hq_0 : ¬ r = 0) : IsP t b e k i := by
  rcases h with ⟨-, h⟩ | ⟨h, -⟩
  · exact h
  · exact absurd h hq_0
theorem IsR_0 {t : Nat → Int} {b e k r : Int} {i : Nat} (h : IsR t b e k i r) (hq_0 : r = 0) : ¬ IsP t b e k i := by
  rcases h with ⟨h, -⟩ | ⟨-, h⟩
  · omega
  · exact h

theorem dFJ1_charAt_0 : decode cJ1_charAt_3b067 0 = .ok (.iload_n 1, 1) := by decide +kernel
theorem dFJ1_charAt_1 : decode cJ1_charAt_3b067 1 = .ok (.aload_n 0, 1) := by decide +kernel
theorem dFJ1_charAt_2 : decode cJ1_charAt_3b067 2 = .ok (.arraylength, 1) := by decide +kernel
theorem dFJ1_charAt_3 : decode cJ1_charAt_3b067 3 = .ok (.invokestatic 9, 3) := by decide +kernel
theorem dFJ1_charAt_6 : decode cJ1_charAt_3b067 6 = .ok (.aload_n 0, 1) := by decide +kernel
theorem dFJ1_charAt_7 : decode cJ1_charAt_3b067 7 = .ok (.iload_n 1, 1) := by decide +kernel
theorem dFJ1_charAt_8 : decode cJ1_charAt_3b067 8 = .ok (.baload, 1) := by decide +kernel
theorem dFJ1_charAt_9 : decode cJ1_charAt_3b067 9 = .ok (.sipush 255, 3) := by decide +kernel
theorem dFJ1_charAt_12 : decode cJ1_charAt_3b067 12 = .ok (.iand, 1) := by decide +kernel
theorem dFJ1_charAt_13 : decode cJ1_charAt_3b067 13 = .ok (.i2c, 1) := by decide +kernel
theorem dFJ1_charAt_14 : decode cJ1_charAt_3b067 14 = .ok (.ireturn, 1) := by decide +kernel
def is_FJ1_charAt : Nat → List Nat := fun d => []
set_option maxRecDepth 100000 in
def b_FJ1_charAt_0 (J : Nat → List qV → List qV → qW → Prop) (Q : qR) : qK := x_iload 1 (x_aload 0 (x_tlen (x_callr none 2 spr_J0_checkIndex_df160 (x_aload 0 (x_iload 1 (x_tald (x_int 255 (x_iand (x_i2c (x_cret Q))))))))))
set_option maxRecDepth 100000 in
theorem s_FJ1_charAt_0 {p : Program} {l : Launch} {e : Env} {R : Room} {s : State} {m : MethodId} {args : Array Value} {below : List Frame} {meth : Method} {c : Code} {nW : Nat} {dC : Nat → ClassId} {dI : Nat → Nat → Nat} {k : Nat → ClassId} {g : Nat → Nat} {A : Nat → Prop} {J : Nat → List qV → List qV → qW → Prop} {Q : qR} (X : q_X p R s m args meth c cJ1_charAt_3b067 2 nW 2 43 RJ1 (some .char) dC dI k g A) (hJ : ∀ d : Nat, q_Sd p l e R s m args below meth c 2 nW dC dI k g A (MQ below (q_post (dC, dI) k g nW Q A) args s 0 0 A) d (x_cut (is_FJ1_charAt d) (J d))) : q_Sd p l e R s m args below meth c 2 nW dC dI k g A (MQ below (q_post (dC, dI) k g nW Q A) args s 0 0 A) 0 (b_FJ1_charAt_0 J Q) := by
  unfold b_FJ1_charAt_0
  refine s_iload_n X rfl dFJ1_charAt_0 ?_
  refine s_aload_n X rfl dFJ1_charAt_1 ?_
  refine s_tlen X dFJ1_charAt_2 ?_
  refine s_callSr X (m_J0_checkIndex_df160 l) tw_434 tw_435 tw_136 tw_436 (by decide +kernel) ⟨by decide, by decide⟩ dFJ1_charAt_3 ?_
  refine s_aload_n X rfl dFJ1_charAt_6 ?_
  refine s_iload_n X rfl dFJ1_charAt_7 ?_
  refine s_tald X dFJ1_charAt_8 ?_
  refine s_sipush X ⟨by decide, by decide⟩ (by decide) dFJ1_charAt_9 ?_
  refine s_iand X dFJ1_charAt_12 ?_
  refine s_i2c X dFJ1_charAt_13 ?_
  exact s_cret X dFJ1_charAt_14

def spr_FJ1_charAt : List qV → qW → (Option qV → Prop) → Prop := fun av w Q => ∃ (i : Nat) (a : Int), av = [q2 (i + 2100), q1 a] ∧ w = [] ∧ (i < 21) ∧ (0 ≤ a ∧ a < (qTn.getD i 0 : Nat)) ∧ (∀ (r : Int) , r = ((qTb.getD i []).getD a.toNat 0).toInt → Q (some (q1 r)))
def sp_FJ1_charAt : qS := fun av w Q => spr_FJ1_charAt av w (fun r => Q r w)
set_option maxHeartbeats 4000000 in
set_option maxRecDepth 100000 in
theorem m_FJ1_charAt (l : Launch) : q_M l yJ1_charAt_3b067 cJ1_charAt_3b067 2 (some .char) 2 43 sp_FJ1_charAt := by
  refine q_meth (by decide) (fun av w Q h => by obtain ⟨i, a, rfl, rfl, hi, ha, hQ⟩ := h; exact Nat.le_of_ble_eq_true rfl) ?_
  intro p e R s m args below meth c dC dI k g A av w Q hsp oka okw X
  obtain ⟨i, a, rfl, rfl, hi, ha, hQ⟩ := hsp
  have o_a : -2147483648 ≤ a ∧ a ≤ 2147483647 := oka _ (List.mem_of_getElem? (i := 1) rfl)
  refine s_mono (s_FJ1_charAt_0 X (J := fun _ _ _ _ => False) (fun d => s_cutF)) ?_
  rintro lv st w' ⟨rfl, rfl, rfl⟩
  refine Exists.intro i (And.intro rfl (And.intro hi ?_))
  refine Exists.intro [] (Exists.intro [q1 _, q1 _] (Exists.intro [] (And.intro rfl (And.intro rfl (And.intro rfl (And.intro trivial ?_))))))
  refine Exists.intro _ (Exists.intro _ (And.intro rfl (And.intro rfl (And.intro (by first | assumption | exact q_rg_up (by assumption) (by omega) | exact q_rg_up (q_rg_up (by assumption) (by omega)) (by omega) | exact q_rg_cpy (by assumption) (by assumption) | omega) (?_)))))
  refine Exists.intro i (And.intro rfl (And.intro hi (And.intro ⟨by omega, by omega⟩ ?_)))
  intro zq_8 hq_8
  have l9 : qTn.getD i 0 < 100 := qTn_lt ⟨i, hi⟩
  have e8 := qTb_at i hi (by omega) hq_8
  intro zq_12 hq_12
  replace hq_12 := e_id255 hq_12 (by omega)
  intro zq_13 hq_13
  replace hq_13 := e_i2c hq_13 (by omega)
  apply And.intro
  · omega
  exact hQ _ (by rw [← hq_8]; omega)

theorem dFJ0_charAt_0 : decode cJ0_charAt_5068e 0 = .ok (.aload_n 0, 1) := by decide +kernel
theorem dFJ0_charAt_1 : decode cJ0_charAt_5068e 1 = .ok (.invokevirtual 492, 3) := by decide +kernel
theorem dFJ0_charAt_4 : decode cJ0_charAt_5068e 4 = .ok (.ifCond .eq 12, 3) := by decide +kernel
theorem dFJ0_charAt_7 : decode cJ0_charAt_5068e 7 = .ok (.aload_n 0, 1) := by decide +kernel
theorem dFJ0_charAt_8 : decode cJ0_charAt_5068e 8 = .ok (.getfield 9, 3) := by decide +kernel
theorem dFJ0_charAt_11 : decode cJ0_charAt_5068e 11 = .ok (.iload_n 1, 1) := by decide +kernel
theorem dFJ0_charAt_12 : decode cJ0_charAt_5068e 12 = .ok (.invokestatic 495, 3) := by decide +kernel
theorem dFJ0_charAt_15 : decode cJ0_charAt_5068e 15 = .ok (.ireturn, 1) := by decide +kernel
def is_FJ0_charAt : Nat → List Nat := fun d => []
set_option maxRecDepth 100000 in
def b_FJ0_charAt_0 (J : Nat → List qV → List qV → qW → Prop) (Q : qR) : qK := x_aload 0 (x_callt 1 spr_J0_isLatin1_aae02 (x_if_eq (q_F) (x_aload 0 (x_sval (x_iload 1 (x_callr none 2 spr_FJ1_charAt (x_cret Q)))))))
set_option maxRecDepth 100000 in
theorem s_FJ0_charAt_0 {p : Program} {l : Launch} {e : Env} {R : Room} {s : State} {m : MethodId} {args : Array Value} {below : List Frame} {meth : Method} {c : Code} {nW : Nat} {dC : Nat → ClassId} {dI : Nat → Nat → Nat} {k : Nat → ClassId} {g : Nat → Nat} {A : Nat → Prop} {J : Nat → List qV → List qV → qW → Prop} {Q : qR} (X : q_X p R s m args meth c cJ0_charAt_5068e 2 nW 3 64 RJ0 (some .char) dC dI k g A) (hJ : ∀ d : Nat, q_Sd p l e R s m args below meth c 2 nW dC dI k g A (MQ below (q_post (dC, dI) k g nW Q A) args s 0 0 A) d (x_cut (is_FJ0_charAt d) (J d))) : q_Sd p l e R s m args below meth c 2 nW dC dI k g A (MQ below (q_post (dC, dI) k g nW Q A) args s 0 0 A) 0 (b_FJ0_charAt_0 J Q) := by
  unfold b_FJ0_charAt_0
  refine s_aload_n X rfl dFJ0_charAt_0 ?_
  refine s_callt X (m_J0_isLatin1_aae02 l) mo_J0_isLatin1_aae02 so_J0_isLatin1_aae02 rfl tw_427 tw_428 tw_429 tw_136 tw_430 (by decide +kernel) ⟨by decide, by decide⟩ dFJ0_charAt_1 ?_
  refine s_if_eq X (tgt := 16) dFJ0_charAt_4 (by decide) ?_ ?_
  · exact s_F
  · refine s_aload_n X rfl dFJ0_charAt_7 ?_
    refine s_sval X tw_1483 dFJ0_charAt_8 ?_
    refine s_iload_n X rfl dFJ0_charAt_11 ?_
    refine s_callSr X (m_FJ1_charAt l) tw_431 tw_432 tw_137 tw_433 (by decide +kernel) ⟨by decide, by decide⟩ dFJ0_charAt_12 ?_
    exact s_cret X dFJ0_charAt_15

def spr_FJ0_charAt : List qV → qW → (Option qV → Prop) → Prop := fun av w Q => ∃ (i : Nat) (a : Int), av = [q2 (i + 2000), q1 a] ∧ w = [] ∧ (i < 21) ∧ (0 ≤ a ∧ a < (qTn.getD i 0 : Nat)) ∧ (∀ (r : Int) , r = ((qTb.getD i []).getD a.toNat 0).toInt → Q (some (q1 r)))
def sp_FJ0_charAt : qS := fun av w Q => spr_FJ0_charAt av w (fun r => Q r w)
theorem mo_FJ0_charAt : ∀ (av : List qV) (w : qW) (P P' : Option qV → Prop), (∀ r, P r → P' r) → spr_FJ0_charAt av w P → spr_FJ0_charAt av w P' := by
  intro av w P P' hP h
  obtain ⟨i, a, e1, e2, hi, ha, hQ⟩ := h
  exact ⟨i, a, e1, e2, hi, ha, fun r hr => hP _ (hQ r hr)⟩
theorem so_FJ0_charAt : ∀ (av : List qV) (w : qW) (P : Option qV → Prop), spr_FJ0_charAt av w P → spr_FJ0_charAt av w (fun r => P r ∧ ∃ z : Int, r = some (.inl z)) := by
  intro av w P h
  obtain ⟨i, a, e1, e2, hi, ha, hQ⟩ := h
  exact ⟨i, a, e1, e2, hi, ha, fun r hr => ⟨hQ r hr, r, rfl⟩⟩
set_option maxHeartbeats 4000000 in
set_option maxRecDepth 100000 in
theorem m_FJ0_charAt (l : Launch) : q_M l yJ0_charAt_5068e cJ0_charAt_5068e 2 (some .char) 3 64 sp_FJ0_charAt := by
  refine q_meth (by decide) (fun av w Q h => by obtain ⟨i, a, rfl, rfl, hi, ha, hQ⟩ := h; exact Nat.le_of_ble_eq_true rfl) ?_
  intro p e R s m args below meth c dC dI k g A av w Q hsp oka okw X
  obtain ⟨i, a, rfl, rfl, hi, ha, hQ⟩ := hsp
  have o_a : -2147483648 ≤ a ∧ a ≤ 2147483647 := oka _ (List.mem_of_getElem? (i := 1) rfl)
  refine s_mono (s_FJ0_charAt_0 X (J := fun _ _ _ _ => False) (fun d => s_cutF)) ?_
  rintro lv st w' ⟨rfl, rfl, rfl⟩
  refine Exists.intro i (Exists.intro [] (And.intro hi (And.intro rfl (And.intro (fun v hv => by cases hv) (And.intro rfl ?_)))))
  refine Exists.intro _ (And.intro rfl (And.intro rfl (And.intro (by first | assumption | exact q_rg_up (by assumption) (by omega) | exact q_rg_up (q_rg_up (by assumption) (by omega)) (by omega) | exact q_rg_cpy (by assumption) (by assumption) | omega) (?_))))
  intro zq_1 hq_1
  intro v1 e1
  cases e1
  apply And.intro
  · intro hq_4
    exfalso; omega
  · intro hq_4
    refine Exists.intro i (And.intro rfl (And.intro hi ?_))
    refine Exists.intro [] (Exists.intro [q2 (_ + 2100), q1 _] (Exists.intro [] (And.intro rfl (And.intro rfl (And.intro rfl (And.intro trivial ?_))))))
    refine Exists.intro _ (Exists.intro _ (And.intro rfl (And.intro rfl (And.intro (by first | assumption | exact q_rg_up (by assumption) (by omega) | exact q_rg_up (q_rg_up (by assumption) (by omega)) (by omega) | exact q_rg_cpy (by assumption) (by assumption) | omega) (And.intro (by first | assumption | exact q_rg_up (by assumption) (by omega) | exact q_rg_up (q_rg_up (by assumption) (by omega)) (by omega) | exact q_rg_cpy (by assumption) (by assumption) | omega) (?_))))))
    intro zq_12 hq_12
    have l12 : qTn.getD i 0 < 100 := qTn_lt ⟨i, hi⟩
    have e12 := qTb_at i hi (by omega) hq_12
    apply And.intro
    · omega
    exact hQ _ (by first | assumption | exact q_rg_up (by assumption) (by omega) | exact q_rg_up (q_rg_up (by assumption) (by omega)) (by omega) | exact q_rg_cpy (by assumption) (by assumption) | omega)

theorem dF6_is_0 : decode cX6_is 0 = .ok (.aload_n 0, 1) := by decide +kernel
theorem dF6_is_1 : decode cX6_is 1 = .ok (.getfield 58, 3) := by decide +kernel
theorem dF6_is_4 : decode cX6_is 4 = .ok (.iconst 1, 1) := by decide +kernel
theorem dF6_is_5 : decode cX6_is 5 = .ok (.if_icmp .ne 19, 3) := by decide +kernel
theorem dF6_is_8 : decode cX6_is 8 = .ok (.aload_n 0, 1) := by decide +kernel
theorem dF6_is_9 : decode cX6_is 9 = .ok (.getfield 94, 3) := by decide +kernel
theorem dF6_is_12 : decode cX6_is 12 = .ok (.aload_n 0, 1) := by decide +kernel
theorem dF6_is_13 : decode cX6_is 13 = .ok (.getfield 72, 3) := by decide +kernel
theorem dF6_is_16 : decode cX6_is 16 = .ok (.isub, 1) := by decide +kernel
theorem dF6_is_17 : decode cX6_is 17 = .ok (.aload_n 1, 1) := by decide +kernel
theorem dF6_is_18 : decode cX6_is 18 = .ok (.invokevirtual 133, 3) := by decide +kernel
theorem dF6_is_21 : decode cX6_is 21 = .ok (.if_icmp .eq 5, 3) := by decide +kernel
theorem dF6_is_24 : decode cX6_is 24 = .ok (.iconst 0, 1) := by decide +kernel
theorem dF6_is_25 : decode cX6_is 25 = .ok (.ireturn, 1) := by decide +kernel
theorem dF6_is_26 : decode cX6_is 26 = .ok (.iconst 0, 1) := by decide +kernel
theorem dF6_is_27 : decode cX6_is 27 = .ok (.istore_n 2, 1) := by decide +kernel
theorem dF6_is_28 : decode cX6_is 28 = .ok (.iload_n 2, 1) := by decide +kernel
theorem dF6_is_29 : decode cX6_is 29 = .ok (.aload_n 1, 1) := by decide +kernel
theorem dF6_is_30 : decode cX6_is 30 = .ok (.invokevirtual 133, 3) := by decide +kernel
theorem dF6_is_33 : decode cX6_is 33 = .ok (.if_icmp .ge 29, 3) := by decide +kernel
theorem dF6_is_36 : decode cX6_is 36 = .ok (.aload_n 0, 1) := by decide +kernel
theorem dF6_is_37 : decode cX6_is 37 = .ok (.aload_n 0, 1) := by decide +kernel
theorem dF6_is_38 : decode cX6_is 38 = .ok (.getfield 72, 3) := by decide +kernel
theorem dF6_is_41 : decode cX6_is 41 = .ok (.iload_n 2, 1) := by decide +kernel
theorem dF6_is_42 : decode cX6_is 42 = .ok (.iadd, 1) := by decide +kernel
theorem dF6_is_43 : decode cX6_is 43 = .ok (.invokevirtual 117, 3) := by decide +kernel
theorem dF6_is_46 : decode cX6_is 46 = .ok (.aload_n 1, 1) := by decide +kernel
theorem dF6_is_47 : decode cX6_is 47 = .ok (.iload_n 2, 1) := by decide +kernel
theorem dF6_is_48 : decode cX6_is 48 = .ok (.invokevirtual 138, 3) := by decide +kernel
theorem dF6_is_51 : decode cX6_is 51 = .ok (.if_icmp .eq 5, 3) := by decide +kernel
theorem dF6_is_54 : decode cX6_is 54 = .ok (.iconst 0, 1) := by decide +kernel
theorem dF6_is_55 : decode cX6_is 55 = .ok (.ireturn, 1) := by decide +kernel
theorem dF6_is_56 : decode cX6_is 56 = .ok (.iinc 2 1, 3) := by decide +kernel
theorem dF6_is_59 : decode cX6_is 59 = .ok (.goto (-31), 3) := by decide +kernel
theorem dF6_is_62 : decode cX6_is 62 = .ok (.iconst 1, 1) := by decide +kernel
theorem dF6_is_63 : decode cX6_is 63 = .ok (.ireturn, 1) := by decide +kernel
def is_F6_is : Nat → List Nat := fun d => if d = 28 then [0, 1, 2] else []
set_option maxRecDepth 100000 in
def b_F6_is_28 (J : Nat → List qV → List qV → qW → Prop) (Q : qR) : qK := x_iload 2 (x_aload 1 (x_callt 1 spr_J0_length_8abf5 (x_icmp_ge (x_int 1 (x_zret Q)) (x_aload 0 (x_aload 0 (x_get 6 9 (x_iload 2 (x_iadd (x_callr (some 6) 2 spr_F6_byteAt (x_aload 1 (x_iload 2 (x_callt 2 spr_FJ0_charAt (x_icmp_eq (x_iinc 2 1 (x_cut [0, 1, 2] (J 28))) (x_int 0 (x_zret Q)))))))))))))))
set_option maxRecDepth 100000 in
theorem s_F6_is_28 {p : Program} {l : Launch} {e : Env} {R : Room} {s : State} {m : MethodId} {args : Array Value} {below : List Frame} {meth : Method} {c : Code} {nW : Nat} {dC : Nat → ClassId} {dI : Nat → Nat → Nat} {k : Nat → ClassId} {g : Nat → Nat} {A : Nat → Prop} {J : Nat → List qV → List qV → qW → Prop} {Q : qR} (X : q_X p R s m args meth c cX6_is 3 nW 4 85 RX6 (some .boolean) dC dI k g A) (hJ : ∀ d : Nat, q_Sd p l e R s m args below meth c 3 nW dC dI k g A (MQ below (q_post (dC, dI) k g nW Q A) args s 0 0 A) d (x_cut (is_F6_is d) (J d))) : q_Sd p l e R s m args below meth c 3 nW dC dI k g A (MQ below (q_post (dC, dI) k g nW Q A) args s 0 0 A) 28 (b_F6_is_28 J Q) := by
  unfold b_F6_is_28
  refine s_iload_n X rfl dF6_is_28 ?_
  refine s_aload_n X rfl dF6_is_29 ?_
  refine s_callt X (m_J0_length_8abf5 l) mo_J0_length_8abf5 so_J0_length_8abf5 rfl tw_414 tw_415 tw_416 tw_136 tw_417 (by decide +kernel) ⟨by decide, by decide⟩ dF6_is_30 ?_
  refine s_icmp_ge X (tgt := 62) dF6_is_33 (by decide) ?_ ?_
  · refine s_iconst X ⟨by decide, by decide⟩ dF6_is_62 ?_
    exact s_zret X dF6_is_63
  · refine s_aload_n X rfl dF6_is_36 ?_
    refine s_aload_n X rfl dF6_is_37 ?_
    refine s_get X (T := TX6) (C := RX6) (N := 15) tu_X6 rfl (by decide) tw_282 dF6_is_38 ?_
    refine s_iload_n X rfl dF6_is_41 ?_
    refine s_iadd X dF6_is_42 ?_
    refine s_callVr X (m_F6_byteAt l) tw_376 tw_377 tw_1509 tw_128 tw_378 rfl (by decide +kernel) ⟨by decide, by decide⟩ dF6_is_43 ?_
    refine s_aload_n X rfl dF6_is_46 ?_
    refine s_iload_n X rfl dF6_is_47 ?_
    refine s_callt X (m_FJ0_charAt l) mo_FJ0_charAt so_FJ0_charAt rfl tw_423 tw_424 tw_425 tw_136 tw_426 (by decide +kernel) ⟨by decide, by decide⟩ dF6_is_48 ?_
    refine s_icmp_eq X (tgt := 56) dF6_is_51 (by decide) ?_ ?_
    · refine s_iinc X (by decide) dF6_is_56 ?_
      refine s_goto X (tgt := 28) dF6_is_59 (by decide) ?_
      exact hJ 28
    · refine s_iconst X ⟨by decide, by decide⟩ dF6_is_54 ?_
      exact s_zret X dF6_is_55
set_option maxRecDepth 100000 in
def b_F6_is_24 (J : Nat → List qV → List qV → qW → Prop) (Q : qR) : qK := x_int 0 (x_zret Q)
set_option maxRecDepth 100000 in
theorem s_F6_is_24 {p : Program} {l : Launch} {e : Env} {R : Room} {s : State} {m : MethodId} {args : Array Value} {below : List Frame} {meth : Method} {c : Code} {nW : Nat} {dC : Nat → ClassId} {dI : Nat → Nat → Nat} {k : Nat → ClassId} {g : Nat → Nat} {A : Nat → Prop} {J : Nat → List qV → List qV → qW → Prop} {Q : qR} (X : q_X p R s m args meth c cX6_is 3 nW 4 85 RX6 (some .boolean) dC dI k g A) (hJ : ∀ d : Nat, q_Sd p l e R s m args below meth c 3 nW dC dI k g A (MQ below (q_post (dC, dI) k g nW Q A) args s 0 0 A) d (x_cut (is_F6_is d) (J d))) : q_Sd p l e R s m args below meth c 3 nW dC dI k g A (MQ below (q_post (dC, dI) k g nW Q A) args s 0 0 A) 24 (b_F6_is_24 J Q) := by
  unfold b_F6_is_24
  refine s_iconst X ⟨by decide, by decide⟩ dF6_is_24 ?_
  exact s_zret X dF6_is_25
set_option maxRecDepth 100000 in
def b_F6_is_0 (J : Nat → List qV → List qV → qW → Prop) (Q : qR) : qK := x_aload 0 (x_get 6 11 (x_int 1 (x_icmp_ne (b_F6_is_24 J Q) (x_aload 0 (x_get 6 10 (x_aload 0 (x_get 6 9 (x_isub (x_aload 1 (x_callt 1 spr_J0_length_8abf5 (x_icmp_eq (x_int 0 (x_istore 2 (x_cut [0, 1, 2] (J 28)))) (b_F6_is_24 J Q))))))))))))
set_option maxRecDepth 100000 in
theorem s_F6_is_0 {p : Program} {l : Launch} {e : Env} {R : Room} {s : State} {m : MethodId} {args : Array Value} {below : List Frame} {meth : Method} {c : Code} {nW : Nat} {dC : Nat → ClassId} {dI : Nat → Nat → Nat} {k : Nat → ClassId} {g : Nat → Nat} {A : Nat → Prop} {J : Nat → List qV → List qV → qW → Prop} {Q : qR} (X : q_X p R s m args meth c cX6_is 3 nW 4 85 RX6 (some .boolean) dC dI k g A) (hJ : ∀ d : Nat, q_Sd p l e R s m args below meth c 3 nW dC dI k g A (MQ below (q_post (dC, dI) k g nW Q A) args s 0 0 A) d (x_cut (is_F6_is d) (J d))) : q_Sd p l e R s m args below meth c 3 nW dC dI k g A (MQ below (q_post (dC, dI) k g nW Q A) args s 0 0 A) 0 (b_F6_is_0 J Q) := by
  unfold b_F6_is_0
  refine s_aload_n X rfl dF6_is_0 ?_
  refine s_get X (T := TX6) (C := RX6) (N := 15) tu_X6 rfl (by decide) tw_284 dF6_is_1 ?_
  refine s_iconst X ⟨by decide, by decide⟩ dF6_is_4 ?_
  refine s_icmp_ne X (tgt := 24) dF6_is_5 (by decide) ?_ ?_
  · exact s_F6_is_24 X hJ
  · refine s_aload_n X rfl dF6_is_8 ?_
    refine s_get X (T := TX6) (C := RX6) (N := 15) tu_X6 rfl (by decide) tw_283 dF6_is_9 ?_
    refine s_aload_n X rfl dF6_is_12 ?_
    refine s_get X (T := TX6) (C := RX6) (N := 15) tu_X6 rfl (by decide) tw_282 dF6_is_13 ?_
    refine s_isub X dF6_is_16 ?_
    refine s_aload_n X rfl dF6_is_17 ?_
    refine s_callt X (m_J0_length_8abf5 l) mo_J0_length_8abf5 so_J0_length_8abf5 rfl tw_414 tw_415 tw_416 tw_136 tw_417 (by decide +kernel) ⟨by decide, by decide⟩ dF6_is_18 ?_
    refine s_icmp_eq X (tgt := 26) dF6_is_21 (by decide) ?_ ?_
    · refine s_iconst X ⟨by decide, by decide⟩ dF6_is_26 ?_
      refine s_istore_n X rfl (by decide) dF6_is_27 ?_
      exact hJ 28
    · exact s_F6_is_24 X hJ

def spr_F6_is : List qV → qW → (Option qV → Prop) → Prop := fun av w Q => ∃ (rln : Int) (rfa : Int) (rpl : Int) (rst : Int) (rnx : Int) (rtk : Int) (rnm : Int) (rnp : Int) (rnd : Int) (tp : Nat → Int) (i : Nat), av = [q2 0, q2 (i + 2000)] ∧ w = [.inr (6, [q2 2, q2 3, q2 4, q2 5, q2 6, q2 1, q1 rln, q1 rfa, q1 rpl, q1 rst, q1 rnx, q1 rtk, q1 rnm, q1 rnp, q1 rnd]), .inl (1, 600, .inl tp)] ∧ (i < 21) ∧ ((0 ≤ rst ∧ rst ≤ 600) ∧ 0 ≤ rnx ∧ rnx ≤ rln ∧ rln ≤ 600) ∧ (∀ (r : Int) , IsR (tc tp) rst rnx rtk i r → Q (some (q1 r)))
def sp_F6_is : qS := fun av w Q => spr_F6_is av w (fun r => Q r w)
def I_F6_is (rln : Int) (rfa : Int) (rpl : Int) (rst : Int) (rnx : Int) (rtk : Int) (rnm : Int) (rnp : Int) (rnd : Int) (tp : Nat → Int) (i : Nat) : Nat → Nat → List qV → List qV → qW → Prop := fun dz mz vz sz wz => if dz = 28 then (∃ (v2 : Int), vz = [q2 0, q2 (i + 2000), q1 v2] ∧ sz = [] ∧ wz = [.inr (6, [q2 2, q2 3, q2 4, q2 5, q2 6, q2 1, q1 rln, q1 rfa, q1 rpl, q1 rst, q1 rnx, q1 rtk, q1 rnm, q1 rnp, q1 rnd]), .inl (1, 600, .inl tp)] ∧ mz = ((qTn.getD i 0 : Nat) - v2).toNat ∧ (0 ≤ v2 ∧ v2 ≤ (qTn.getD i 0 : Nat)) ∧ (rtk = 1 ∧ rnx - rst = (qTn.getD i 0 : Nat)) ∧ (IsM (tc tp) rst i v2)) else False
set_option maxHeartbeats 4000000 in
set_option maxRecDepth 100000 in
theorem m_F6_is (l : Launch) : q_M l yX6_is cX6_is 3 (some .boolean) 4 85 sp_F6_is := by
  refine q_meth (by decide) (fun av w Q h => by obtain ⟨rln, rfa, rpl, rst, rnx, rtk, rnm, rnp, rnd, tp, i, rfl, rfl, hi, hw9, hQ⟩ := h; exact Nat.le_of_ble_eq_true rfl) ?_
  intro p e R s m args below meth c dC dI k g A av w Q hsp oka okw X
  obtain ⟨rln, rfa, rpl, rst, rnx, rtk, rnm, rnp, rnd, tp, i, rfl, rfl, hi, hw9, hQ⟩ := hsp
  refine s_mono (s_F6_is_0 X (J := fun dz vz sz wz => ∃ mz, I_F6_is rln rfa rpl rst rnx rtk rnm rnp rnd tp i dz mz vz sz wz) (q_loopn (I_F6_is rln rfa rpl rst rnx rtk rnm rnp rnd tp i) (fun dz J => if dz = 28 then b_F6_is_28 J Q else q_F) ?hs ?hv)) ?_
  case hs =>
    intro d J hJ
    by_cases hq_28 : d = 28
    · subst hq_28; exact s_F6_is_28 X hJ
    simp only [hq_28, if_false]
    exact s_F
  case hv =>
    intro dz mz vz sz wz hI okv oks okw hlen
    by_cases hq_28 : dz = 28
    · subst hq_28
      obtain ⟨v2, rfl, rfl, rfl, hn, hp, hk9, hm9⟩ := hI
      have hl9 : qTn.getD i 0 < 100 := qTn_lt ⟨i, hi⟩
      refine Exists.intro i (Exists.intro [] (And.intro hi (And.intro rfl (And.intro (fun v hv => by cases hv) (And.intro rfl ?_)))))
      refine Exists.intro _ (And.intro rfl (And.intro rfl (And.intro (by first | assumption | exact q_rg_up (by assumption) (by omega) | exact q_rg_up (q_rg_up (by assumption) (by omega)) (by omega) | exact q_rg_cpy (by assumption) (by assumption) | omega) (?_))))
      intro zq_30 hq_30
      intro v30 e30
      cases e30
      apply And.intro
      · intro hq_33
        apply And.intro
        · first | exact Or.inl rfl | exact Or.inr rfl | omega
        exact hQ _ (by first | exact IsR_k (by omega) | exact IsR_l (by omega) | exact IsR_b (by omega) (BAt_e hq_43.1 (by omega) (by omega)) hq_48 (by omega) (by omega) | exact IsR_y hk9 (by omega) hm9)
      · intro hq_33
        intro zq_42 hq_42
        first | replace hq_42 := e_add hq_42 (by omega) | replace hq_42 := e_rng hq_42
        refine Exists.intro [0, 1, 2, 3, 4, 5, 6] (Exists.intro [q2 0, q1 _] (Exists.intro ([.inr (6, [q2 2, q2 3, q2 4, q2 5, q2 6, q2 1, q1 _, q1 _, q1 _, q1 _, q1 _, q1 _, q1 _, q1 _, q1 _]), .inl (1, 600, .inl _)]) (And.intro rfl (And.intro rfl (And.intro rfl (And.intro ⟨⟨_, rfl⟩, rfl⟩ ?_))))))
        refine Exists.intro _ (Exists.intro _ (Exists.intro _ (Exists.intro _ (Exists.intro _ (Exists.intro _ (Exists.intro _ (Exists.intro _ (Exists.intro _ (Exists.intro _ (Exists.intro _ (And.intro rfl (And.intro rfl (And.intro (by first | assumption | exact q_rg_up (by assumption) (by omega) | exact q_rg_up (q_rg_up (by assumption) (by omega)) (by omega) | exact q_rg_cpy (by assumption) (by assumption) | omega) (?_))))))))))))))
        intro zq_43 hq_43
        refine Exists.intro i (Exists.intro [q1 _] (And.intro hi (And.intro rfl (And.intro (fun v hv => by cases List.mem_singleton.mp hv; rfl) (And.intro rfl ?_)))))
        refine Exists.intro _ (Exists.intro _ (And.intro rfl (And.intro rfl (And.intro (by first | assumption | exact q_rg_up (by assumption) (by omega) | exact q_rg_up (q_rg_up (by assumption) (by omega)) (by omega) | exact q_rg_cpy (by assumption) (by assumption) | omega) (And.intro (by first | assumption | exact q_rg_up (by assumption) (by omega) | exact q_rg_up (q_rg_up (by assumption) (by omega)) (by omega) | exact q_rg_cpy (by assumption) (by assumption) | omega) (?_))))))
        intro zq_48 hq_48
        intro v48 e48
        cases e48
        apply And.intro
        · intro hq_51
          intro zq_56 hq_56
          first | replace hq_56 := e_add hq_56 (by omega) | replace hq_56 := e_rng hq_56
          exact ⟨_, ⟨_, rfl, rfl, rfl, rfl, (by first | assumption | exact q_rg_up (by assumption) (by omega) | exact q_rg_up (q_rg_up (by assumption) (by omega)) (by omega) | exact q_rg_cpy (by assumption) (by assumption) | omega), (by first | assumption | exact q_rg_up (by assumption) (by omega) | exact q_rg_up (q_rg_up (by assumption) (by omega)) (by omega) | exact q_rg_cpy (by assumption) (by assumption) | omega), (by first | exact IsM_0 | exact IsM_s hm9 (by omega) (by omega) (BAt_e hq_43.1 (by omega) (by omega)) hq_48 (by omega) (by omega))⟩, by omega⟩
        · intro hq_51
          apply And.intro
          · first | exact Or.inl rfl | exact Or.inr rfl | omega
          exact hQ _ (by first | exact IsR_k (by omega) | exact IsR_l (by omega) | exact IsR_b (by omega) (BAt_e hq_43.1 (by omega) (by omega)) hq_48 (by omega) (by omega) | exact IsR_y hk9 (by omega) hm9)
    simp only [I_F6_is, hq_28, if_false] at hI
  rintro lv st w' ⟨rfl, rfl, rfl⟩
  have hl9 : qTn.getD i 0 < 100 := qTn_lt ⟨i, hi⟩
  apply And.intro
  · intro hq_5
    apply And.intro
    · first | exact Or.inl rfl | exact Or.inr rfl | omega
    exact hQ _ (by first | exact IsR_k (by omega) | exact IsR_l (by omega) | exact IsR_b (by omega) (BAt_e hq_43.1 (by omega) (by omega)) hq_48 (by omega) (by omega) | exact IsR_y hk9 (by omega) hm9)
  · intro hq_5
    intro zq_16 hq_16
    first | replace hq_16 := e_sub hq_16 (by omega) | replace hq_16 := e_rng hq_16
    refine Exists.intro i (Exists.intro [] (And.intro hi (And.intro rfl (And.intro (fun v hv => by cases hv) (And.intro rfl ?_)))))
    refine Exists.intro _ (And.intro rfl (And.intro rfl (And.intro (by first | assumption | exact q_rg_up (by assumption) (by omega) | exact q_rg_up (q_rg_up (by assumption) (by omega)) (by omega) | exact q_rg_cpy (by assumption) (by assumption) | omega) (?_))))
    intro zq_18 hq_18
    intro v18 e18
    cases e18
    apply And.intro
    · intro hq_21
      exact ⟨_, _, rfl, rfl, rfl, rfl, (by first | assumption | exact q_rg_up (by assumption) (by omega) | exact q_rg_up (q_rg_up (by assumption) (by omega)) (by omega) | exact q_rg_cpy (by assumption) (by assumption) | omega), (by first | assumption | exact q_rg_up (by assumption) (by omega) | exact q_rg_up (q_rg_up (by assumption) (by omega)) (by omega) | exact q_rg_cpy (by assumption) (by assumption) | omega), (by first | exact IsM_0 | exact IsM_s hm9 (by omega) (by omega) (BAt_e hq_43.1 (by omega) (by omega)) hq_48 (by omega) (by omega))⟩
    · intro hq_21
      apply And.intro
      · first | exact Or.inl rfl | exact Or.inr rfl | omega
      exact hQ _ (by first | exact IsR_k (by omega) | exact IsR_l (by omega) | exact IsR_b (by omega) (BAt_e hq_43.1 (by omega) (by omega)) hq_48 (by omega) (by omega) | exact IsR_y hk9 (by omega) hm9)

theorem dF6_boroughWord_0 : decode cX6_boroughWord 0 = .ok (.aload_n 0, 1) := by decide +kernel
theorem dF6_boroughWord_1 : decode cX6_boroughWord 1 = .ok (.ldc 158, 2) := by decide +kernel
theorem dF6_boroughWord_3 : decode cX6_boroughWord 3 = .ok (.invokevirtual 150, 3) := by decide +kernel
theorem dF6_boroughWord_6 : decode cX6_boroughWord 6 = .ok (.ifCond .eq 5, 3) := by decide +kernel
theorem dF6_boroughWord_9 : decode cX6_boroughWord 9 = .ok (.iconst 0, 1) := by decide +kernel
theorem dF6_boroughWord_10 : decode cX6_boroughWord 10 = .ok (.ireturn, 1) := by decide +kernel
theorem dF6_boroughWord_11 : decode cX6_boroughWord 11 = .ok (.aload_n 0, 1) := by decide +kernel
theorem dF6_boroughWord_12 : decode cX6_boroughWord 12 = .ok (.ldc 160, 2) := by decide +kernel
theorem dF6_boroughWord_14 : decode cX6_boroughWord 14 = .ok (.invokevirtual 150, 3) := by decide +kernel
theorem dF6_boroughWord_17 : decode cX6_boroughWord 17 = .ok (.ifCond .eq 5, 3) := by decide +kernel
theorem dF6_boroughWord_20 : decode cX6_boroughWord 20 = .ok (.iconst 1, 1) := by decide +kernel
theorem dF6_boroughWord_21 : decode cX6_boroughWord 21 = .ok (.ireturn, 1) := by decide +kernel
theorem dF6_boroughWord_22 : decode cX6_boroughWord 22 = .ok (.aload_n 0, 1) := by decide +kernel
theorem dF6_boroughWord_23 : decode cX6_boroughWord 23 = .ok (.ldc 162, 2) := by decide +kernel
theorem dF6_boroughWord_25 : decode cX6_boroughWord 25 = .ok (.invokevirtual 150, 3) := by decide +kernel
theorem dF6_boroughWord_28 : decode cX6_boroughWord 28 = .ok (.ifCond .eq 5, 3) := by decide +kernel
theorem dF6_boroughWord_31 : decode cX6_boroughWord 31 = .ok (.iconst 2, 1) := by decide +kernel
theorem dF6_boroughWord_32 : decode cX6_boroughWord 32 = .ok (.ireturn, 1) := by decide +kernel
theorem dF6_boroughWord_33 : decode cX6_boroughWord 33 = .ok (.aload_n 0, 1) := by decide +kernel
theorem dF6_boroughWord_34 : decode cX6_boroughWord 34 = .ok (.ldc 164, 2) := by decide +kernel
theorem dF6_boroughWord_36 : decode cX6_boroughWord 36 = .ok (.invokevirtual 150, 3) := by decide +kernel
theorem dF6_boroughWord_39 : decode cX6_boroughWord 39 = .ok (.ifCond .eq 5, 3) := by decide +kernel
theorem dF6_boroughWord_42 : decode cX6_boroughWord 42 = .ok (.iconst 3, 1) := by decide +kernel
theorem dF6_boroughWord_43 : decode cX6_boroughWord 43 = .ok (.ireturn, 1) := by decide +kernel
theorem dF6_boroughWord_44 : decode cX6_boroughWord 44 = .ok (.aload_n 0, 1) := by decide +kernel
theorem dF6_boroughWord_45 : decode cX6_boroughWord 45 = .ok (.ldc 166, 2) := by decide +kernel
theorem dF6_boroughWord_47 : decode cX6_boroughWord 47 = .ok (.invokevirtual 150, 3) := by decide +kernel
theorem dF6_boroughWord_50 : decode cX6_boroughWord 50 = .ok (.ifCond .eq 5, 3) := by decide +kernel
theorem dF6_boroughWord_53 : decode cX6_boroughWord 53 = .ok (.iconst 4, 1) := by decide +kernel
theorem dF6_boroughWord_54 : decode cX6_boroughWord 54 = .ok (.ireturn, 1) := by decide +kernel
theorem dF6_boroughWord_55 : decode cX6_boroughWord 55 = .ok (.aload_n 0, 1) := by decide +kernel
theorem dF6_boroughWord_56 : decode cX6_boroughWord 56 = .ok (.ldc 168, 2) := by decide +kernel
theorem dF6_boroughWord_58 : decode cX6_boroughWord 58 = .ok (.invokevirtual 150, 3) := by decide +kernel
theorem dF6_boroughWord_61 : decode cX6_boroughWord 61 = .ok (.ifCond .eq 5, 3) := by decide +kernel
theorem dF6_boroughWord_64 : decode cX6_boroughWord 64 = .ok (.iconst 5, 1) := by decide +kernel
theorem dF6_boroughWord_65 : decode cX6_boroughWord 65 = .ok (.ireturn, 1) := by decide +kernel
theorem dF6_boroughWord_66 : decode cX6_boroughWord 66 = .ok (.aload_n 0, 1) := by decide +kernel
theorem dF6_boroughWord_67 : decode cX6_boroughWord 67 = .ok (.ldc 170, 2) := by decide +kernel
theorem dF6_boroughWord_69 : decode cX6_boroughWord 69 = .ok (.invokevirtual 150, 3) := by decide +kernel
theorem dF6_boroughWord_72 : decode cX6_boroughWord 72 = .ok (.ifCond .eq 6, 3) := by decide +kernel
theorem dF6_boroughWord_75 : decode cX6_boroughWord 75 = .ok (.bipush 6, 2) := by decide +kernel
theorem dF6_boroughWord_77 : decode cX6_boroughWord 77 = .ok (.ireturn, 1) := by decide +kernel
theorem dF6_boroughWord_78 : decode cX6_boroughWord 78 = .ok (.aload_n 0, 1) := by decide +kernel
theorem dF6_boroughWord_79 : decode cX6_boroughWord 79 = .ok (.ldc 172, 2) := by decide +kernel
theorem dF6_boroughWord_81 : decode cX6_boroughWord 81 = .ok (.invokevirtual 150, 3) := by decide +kernel
theorem dF6_boroughWord_84 : decode cX6_boroughWord 84 = .ok (.ifCond .eq 6, 3) := by decide +kernel
theorem dF6_boroughWord_87 : decode cX6_boroughWord 87 = .ok (.bipush 7, 2) := by decide +kernel
theorem dF6_boroughWord_89 : decode cX6_boroughWord 89 = .ok (.ireturn, 1) := by decide +kernel
theorem dF6_boroughWord_90 : decode cX6_boroughWord 90 = .ok (.aload_n 0, 1) := by decide +kernel
theorem dF6_boroughWord_91 : decode cX6_boroughWord 91 = .ok (.ldc 174, 2) := by decide +kernel
theorem dF6_boroughWord_93 : decode cX6_boroughWord 93 = .ok (.invokevirtual 150, 3) := by decide +kernel
theorem dF6_boroughWord_96 : decode cX6_boroughWord 96 = .ok (.ifCond .eq 8, 3) := by decide +kernel
theorem dF6_boroughWord_99 : decode cX6_boroughWord 99 = .ok (.bipush 8, 2) := by decide +kernel
theorem dF6_boroughWord_101 : decode cX6_boroughWord 101 = .ok (.goto 4, 3) := by decide +kernel
theorem dF6_boroughWord_104 : decode cX6_boroughWord 104 = .ok (.iconst (-1), 1) := by decide +kernel
theorem dF6_boroughWord_105 : decode cX6_boroughWord 105 = .ok (.ireturn, 1) := by decide +kernel
def is_F6_boroughWord : Nat → List Nat := fun d => []
set_option maxRecDepth 100000 in
def b_F6_boroughWord_105 (J : Nat → List qV → List qV → qW → Prop) (Q : qR) : qK := x_iret Q
set_option maxRecDepth 100000 in
theorem s_F6_boroughWord_105 {p : Program} {l : Launch} {e : Env} {R : Room} {s : State} {m : MethodId} {args : Array Value} {below : List Frame} {meth : Method} {c : Code} {nW : Nat} {dC : Nat → ClassId} {dI : Nat → Nat → Nat} {k : Nat → ClassId} {g : Nat → Nat} {A : Nat → Prop} {J : Nat → List qV → List qV → qW → Prop} {Q : qR} (X : q_X p R s m args meth c cX6_boroughWord 1 nW 5 107 RX6 (some .int) dC dI k g A) (hJ : ∀ d : Nat, q_Sd p l e R s m args below meth c 1 nW dC dI k g A (MQ below (q_post (dC, dI) k g nW Q A) args s 0 0 A) d (x_cut (is_F6_boroughWord d) (J d))) : q_Sd p l e R s m args below meth c 1 nW dC dI k g A (MQ below (q_post (dC, dI) k g nW Q A) args s 0 0 A) 105 (b_F6_boroughWord_105 J Q) := by
  unfold b_F6_boroughWord_105
  exact s_iret X dF6_boroughWord_105
set_option maxRecDepth 100000 in
def b_F6_boroughWord_90 (J : Nat → List qV → List qV → qW → Prop) (Q : qR) : qK := x_aload 0 (x_ldcs 8 (x_callr (some 6) 2 spr_F6_is (x_if_eq (x_int (-1) (b_F6_boroughWord_105 J Q)) (x_int 8 (b_F6_boroughWord_105 J Q)))))
set_option maxRecDepth 100000 in
theorem s_F6_boroughWord_90 {p : Program} {l : Launch} {e : Env} {R : Room} {s : State} {m : MethodId} {args : Array Value} {below : List Frame} {meth : Method} {c : Code} {nW : Nat} {dC : Nat → ClassId} {dI : Nat → Nat → Nat} {k : Nat → ClassId} {g : Nat → Nat} {A : Nat → Prop} {J : Nat → List qV → List qV → qW → Prop} {Q : qR} (X : q_X p R s m args meth c cX6_boroughWord 1 nW 5 107 RX6 (some .int) dC dI k g A) (hJ : ∀ d : Nat, q_Sd p l e R s m args below meth c 1 nW dC dI k g A (MQ below (q_post (dC, dI) k g nW Q A) args s 0 0 A) d (x_cut (is_F6_boroughWord d) (J d))) : q_Sd p l e R s m args below meth c 1 nW dC dI k g A (MQ below (q_post (dC, dI) k g nW Q A) args s 0 0 A) 90 (b_F6_boroughWord_90 J Q) := by
  unfold b_F6_boroughWord_90
  refine s_aload_n X rfl dF6_boroughWord_90 ?_
  refine s_ldcs X (i := 8) rfl rfl dF6_boroughWord_91 ?_
  refine s_callVr X (m_F6_is l) tw_411 tw_412 tw_1511 tw_128 tw_413 rfl (by decide +kernel) ⟨by decide, by decide⟩ dF6_boroughWord_93 ?_
  refine s_if_eq X (tgt := 104) dF6_boroughWord_96 (by decide) ?_ ?_
  · refine s_iconst X ⟨by decide, by decide⟩ dF6_boroughWord_104 ?_
    exact s_F6_boroughWord_105 X hJ
  · refine s_bipush X ⟨by decide, by decide⟩ (by decide) dF6_boroughWord_99 ?_
    refine s_goto X (tgt := 105) dF6_boroughWord_101 (by decide) ?_
    exact s_F6_boroughWord_105 X hJ
set_option maxRecDepth 100000 in
def b_F6_boroughWord_44 (J : Nat → List qV → List qV → qW → Prop) (Q : qR) : qK := x_aload 0 (x_ldcs 4 (x_callr (some 6) 2 spr_F6_is (x_if_eq (x_aload 0 (x_ldcs 5 (x_callr (some 6) 2 spr_F6_is (x_if_eq (x_aload 0 (x_ldcs 6 (x_callr (some 6) 2 spr_F6_is (x_if_eq (x_aload 0 (x_ldcs 7 (x_callr (some 6) 2 spr_F6_is (x_if_eq (b_F6_boroughWord_90 J Q) (x_int 7 (x_iret Q)))))) (x_int 6 (x_iret Q)))))) (x_int 5 (x_iret Q)))))) (x_int 4 (x_iret Q)))))
set_option maxRecDepth 100000 in
theorem s_F6_boroughWord_44 {p : Program} {l : Launch} {e : Env} {R : Room} {s : State} {m : MethodId} {args : Array Value} {below : List Frame} {meth : Method} {c : Code} {nW : Nat} {dC : Nat → ClassId} {dI : Nat → Nat → Nat} {k : Nat → ClassId} {g : Nat → Nat} {A : Nat → Prop} {J : Nat → List qV → List qV → qW → Prop} {Q : qR} (X : q_X p R s m args meth c cX6_boroughWord 1 nW 5 107 RX6 (some .int) dC dI k g A) (hJ : ∀ d : Nat, q_Sd p l e R s m args below meth c 1 nW dC dI k g A (MQ below (q_post (dC, dI) k g nW Q A) args s 0 0 A) d (x_cut (is_F6_boroughWord d) (J d))) : q_Sd p l e R s m args below meth c 1 nW dC dI k g A (MQ below (q_post (dC, dI) k g nW Q A) args s 0 0 A) 44 (b_F6_boroughWord_44 J Q) := by
  unfold b_F6_boroughWord_44
  refine s_aload_n X rfl dF6_boroughWord_44 ?_
  refine s_ldcs X (i := 4) rfl rfl dF6_boroughWord_45 ?_
  refine s_callVr X (m_F6_is l) tw_411 tw_412 tw_1511 tw_128 tw_413 rfl (by decide +kernel) ⟨by decide, by decide⟩ dF6_boroughWord_47 ?_
  refine s_if_eq X (tgt := 55) dF6_boroughWord_50 (by decide) ?_ ?_
  · refine s_aload_n X rfl dF6_boroughWord_55 ?_
    refine s_ldcs X (i := 5) rfl rfl dF6_boroughWord_56 ?_
    refine s_callVr X (m_F6_is l) tw_411 tw_412 tw_1511 tw_128 tw_413 rfl (by decide +kernel) ⟨by decide, by decide⟩ dF6_boroughWord_58 ?_
    refine s_if_eq X (tgt := 66) dF6_boroughWord_61 (by decide) ?_ ?_
    · refine s_aload_n X rfl dF6_boroughWord_66 ?_
      refine s_ldcs X (i := 6) rfl rfl dF6_boroughWord_67 ?_
      refine s_callVr X (m_F6_is l) tw_411 tw_412 tw_1511 tw_128 tw_413 rfl (by decide +kernel) ⟨by decide, by decide⟩ dF6_boroughWord_69 ?_
      refine s_if_eq X (tgt := 78) dF6_boroughWord_72 (by decide) ?_ ?_
      · refine s_aload_n X rfl dF6_boroughWord_78 ?_
        refine s_ldcs X (i := 7) rfl rfl dF6_boroughWord_79 ?_
        refine s_callVr X (m_F6_is l) tw_411 tw_412 tw_1511 tw_128 tw_413 rfl (by decide +kernel) ⟨by decide, by decide⟩ dF6_boroughWord_81 ?_
        refine s_if_eq X (tgt := 90) dF6_boroughWord_84 (by decide) ?_ ?_
        · exact s_F6_boroughWord_90 X hJ
        · refine s_bipush X ⟨by decide, by decide⟩ (by decide) dF6_boroughWord_87 ?_
          exact s_iret X dF6_boroughWord_89
      · refine s_bipush X ⟨by decide, by decide⟩ (by decide) dF6_boroughWord_75 ?_
        exact s_iret X dF6_boroughWord_77
    · refine s_iconst X ⟨by decide, by decide⟩ dF6_boroughWord_64 ?_
      exact s_iret X dF6_boroughWord_65
  · refine s_iconst X ⟨by decide, by decide⟩ dF6_boroughWord_53 ?_
    exact s_iret X dF6_boroughWord_54
set_option maxRecDepth 100000 in
def b_F6_boroughWord_0 (J : Nat → List qV → List qV → qW → Prop) (Q : qR) : qK := x_aload 0 (x_ldcs 0 (x_callr (some 6) 2 spr_F6_is (x_if_eq (x_aload 0 (x_ldcs 1 (x_callr (some 6) 2 spr_F6_is (x_if_eq (x_aload 0 (x_ldcs 2 (x_callr (some 6) 2 spr_F6_is (x_if_eq (x_aload 0 (x_ldcs 3 (x_callr (some 6) 2 spr_F6_is (x_if_eq (b_F6_boroughWord_44 J Q) (x_int 3 (x_iret Q)))))) (x_int 2 (x_iret Q)))))) (x_int 1 (x_iret Q)))))) (x_int 0 (x_iret Q)))))
set_option maxRecDepth 100000 in
theorem s_F6_boroughWord_0 {p : Program} {l : Launch} {e : Env} {R : Room} {s : State} {m : MethodId} {args : Array Value} {below : List Frame} {meth : Method} {c : Code} {nW : Nat} {dC : Nat → ClassId} {dI : Nat → Nat → Nat} {k : Nat → ClassId} {g : Nat → Nat} {A : Nat → Prop} {J : Nat → List qV → List qV → qW → Prop} {Q : qR} (X : q_X p R s m args meth c cX6_boroughWord 1 nW 5 107 RX6 (some .int) dC dI k g A) (hJ : ∀ d : Nat, q_Sd p l e R s m args below meth c 1 nW dC dI k g A (MQ below (q_post (dC, dI) k g nW Q A) args s 0 0 A) d (x_cut (is_F6_boroughWord d) (J d))) : q_Sd p l e R s m args below meth c 1 nW dC dI k g A (MQ below (q_post (dC, dI) k g nW Q A) args s 0 0 A) 0 (b_F6_boroughWord_0 J Q) := by
  unfold b_F6_boroughWord_0
  refine s_aload_n X rfl dF6_boroughWord_0 ?_
  refine s_ldcs X (i := 0) rfl rfl dF6_boroughWord_1 ?_
  refine s_callVr X (m_F6_is l) tw_411 tw_412 tw_1511 tw_128 tw_413 rfl (by decide +kernel) ⟨by decide, by decide⟩ dF6_boroughWord_3 ?_
  refine s_if_eq X (tgt := 11) dF6_boroughWord_6 (by decide) ?_ ?_
  · refine s_aload_n X rfl dF6_boroughWord_11 ?_
    refine s_ldcs X (i := 1) rfl rfl dF6_boroughWord_12 ?_
    refine s_callVr X (m_F6_is l) tw_411 tw_412 tw_1511 tw_128 tw_413 rfl (by decide +kernel) ⟨by decide, by decide⟩ dF6_boroughWord_14 ?_
    refine s_if_eq X (tgt := 22) dF6_boroughWord_17 (by decide) ?_ ?_
    · refine s_aload_n X rfl dF6_boroughWord_22 ?_
      refine s_ldcs X (i := 2) rfl rfl dF6_boroughWord_23 ?_
      refine s_callVr X (m_F6_is l) tw_411 tw_412 tw_1511 tw_128 tw_413 rfl (by decide +kernel) ⟨by decide, by decide⟩ dF6_boroughWord_25 ?_
      refine s_if_eq X (tgt := 33) dF6_boroughWord_28 (by decide) ?_ ?_
      · refine s_aload_n X rfl dF6_boroughWord_33 ?_
        refine s_ldcs X (i := 3) rfl rfl dF6_boroughWord_34 ?_
        refine s_callVr X (m_F6_is l) tw_411 tw_412 tw_1511 tw_128 tw_413 rfl (by decide +kernel) ⟨by decide, by decide⟩ dF6_boroughWord_36 ?_
        refine s_if_eq X (tgt := 44) dF6_boroughWord_39 (by decide) ?_ ?_
        · exact s_F6_boroughWord_44 X hJ
        · refine s_iconst X ⟨by decide, by decide⟩ dF6_boroughWord_42 ?_
          exact s_iret X dF6_boroughWord_43
      · refine s_iconst X ⟨by decide, by decide⟩ dF6_boroughWord_31 ?_
        exact s_iret X dF6_boroughWord_32
    · refine s_iconst X ⟨by decide, by decide⟩ dF6_boroughWord_20 ?_
      exact s_iret X dF6_boroughWord_21
  · refine s_iconst X ⟨by decide, by decide⟩ dF6_boroughWord_9 ?_
    exact s_iret X dF6_boroughWord_10

def spr_F6_boroughWord : List qV → qW → (Option qV → Prop) → Prop := fun av w Q => ∃ (rln : Int) (rfa : Int) (rpl : Int) (rst : Int) (rnx : Int) (rtk : Int) (rnm : Int) (rnp : Int) (rnd : Int) (tp : Nat → Int), av = [q2 0] ∧ w = [.inr (6, [q2 2, q2 3, q2 4, q2 5, q2 6, q2 1, q1 rln, q1 rfa, q1 rpl, q1 rst, q1 rnx, q1 rtk, q1 rnm, q1 rnp, q1 rnd]), .inl (1, 600, .inl tp)] ∧ ((0 ≤ rst ∧ rst ≤ 600) ∧ 0 ≤ rnx ∧ rnx ≤ rln ∧ rln ≤ 600) ∧ (∀ (r : Int) , r = boP (tc tp) rst rnx rtk → Q (some (q1 r)))
def sp_F6_boroughWord : qS := fun av w Q => spr_F6_boroughWord av w (fun r => Q r w)
set_option maxHeartbeats 4000000 in
set_option maxRecDepth 100000 in
theorem m_F6_boroughWord (l : Launch) : q_M l yX6_boroughWord cX6_boroughWord 1 (some .int) 5 107 sp_F6_boroughWord := by
  refine q_meth (by decide) (fun av w Q h => by obtain ⟨rln, rfa, rpl, rst, rnx, rtk, rnm, rnp, rnd, tp, rfl, rfl, hw9, hQ⟩ := h; exact Nat.le_of_ble_eq_true rfl) ?_
  intro p e R s m args below meth c dC dI k g A av w Q hsp oka okw X
  obtain ⟨rln, rfa, rpl, rst, rnx, rtk, rnm, rnp, rnd, tp, rfl, rfl, hw9, hQ⟩ := hsp
  refine s_mono (s_F6_boroughWord_0 X (J := fun _ _ _ _ => False) (fun d => s_cutF)) ?_
  rintro lv st w' ⟨rfl, rfl, rfl⟩
  refine Exists.intro [0, 1, 2, 3, 4, 5, 6] (Exists.intro [q2 0, q2 (0 + 2000)] (Exists.intro ([.inr (6, [q2 2, q2 3, q2 4, q2 5, q2 6, q2 1, q1 _, q1 _, q1 _, q1 _, q1 _, q1 _, q1 _, q1 _, q1 _]), .inl (1, 600, .inl _)]) (And.intro rfl (And.intro rfl (And.intro rfl (And.intro ⟨⟨_, rfl⟩, rfl⟩ ?_))))))
  refine Exists.intro _ (Exists.intro _ (Exists.intro _ (Exists.intro _ (Exists.intro _ (Exists.intro _ (Exists.intro _ (Exists.intro _ (Exists.intro _ (Exists.intro _ (Exists.intro 0 (And.intro rfl (And.intro rfl (And.intro (by decide) (And.intro (by first | assumption | exact q_rg_up (by assumption) (by omega) | exact q_rg_up (q_rg_up (by assumption) (by omega)) (by omega) | exact q_rg_cpy (by assumption) (by assumption) | omega) (?_)))))))))))))))
  intro zq_3 hq_3
  apply And.intro
  · intro hq_6
    have y3 := IsR_0 hq_3 hq_6
    refine Exists.intro [0, 1, 2, 3, 4, 5, 6] (Exists.intro [q2 0, q2 (1 + 2000)] (Exists.intro ([.inr (6, [q2 2, q2 3, q2 4, q2 5, q2 6, q2 1, q1 _, q1 _, q1 _, q1 _, q1 _, q1 _, q1 _, q1 _, q1 _]), .inl (1, 600, .inl _)]) (And.intro rfl (And.intro rfl (And.intro rfl (And.intro ⟨⟨_, rfl⟩, rfl⟩ ?_))))))
    refine Exists.intro _ (Exists.intro _ (Exists.intro _ (Exists.intro _ (Exists.intro _ (Exists.intro _ (Exists.intro _ (Exists.intro _ (Exists.intro _ (Exists.intro _ (Exists.intro 1 (And.intro rfl (And.intro rfl (And.intro (by decide) (And.intro (by first | assumption | exact q_rg_up (by assumption) (by omega) | exact q_rg_up (q_rg_up (by assumption) (by omega)) (by omega) | exact q_rg_cpy (by assumption) (by assumption) | omega) (?_)))))))))))))))
    intro zq_14 hq_14
    apply And.intro
    · intro hq_17
      have y14 := IsR_0 hq_14 hq_17
      refine Exists.intro [0, 1, 2, 3, 4, 5, 6] (Exists.intro [q2 0, q2 (2 + 2000)] (Exists.intro ([.inr (6, [q2 2, q2 3, q2 4, q2 5, q2 6, q2 1, q1 _, q1 _, q1 _, q1 _, q1 _, q1 _, q1 _, q1 _, q1 _]), .inl (1, 600, .inl _)]) (And.intro rfl (And.intro rfl (And.intro rfl (And.intro ⟨⟨_, rfl⟩, rfl⟩ ?_))))))
      refine Exists.intro _ (Exists.intro _ (Exists.intro _ (Exists.intro _ (Exists.intro _ (Exists.intro _ (Exists.intro _ (Exists.intro _ (Exists.intro _ (Exists.intro _ (Exists.intro 2 (And.intro rfl (And.intro rfl (And.intro (by decide) (And.intro (by first | assumption | exact q_rg_up (by assumption) (by omega) | exact q_rg_up (q_rg_up (by assumption) (by omega)) (by omega) | exact q_rg_cpy (by assumption) (by assumption) | omega) (?_)))))))))))))))
      intro zq_25 hq_25
      apply And.intro
      · intro hq_28
        have y25 := IsR_0 hq_25 hq_28
        refine Exists.intro [0, 1, 2, 3, 4, 5, 6] (Exists.intro [q2 0, q2 (3 + 2000)] (Exists.intro ([.inr (6, [q2 2, q2 3, q2 4, q2 5, q2 6, q2 1, q1 _, q1 _, q1 _, q1 _, q1 _, q1 _, q1 _, q1 _, q1 _]), .inl (1, 600, .inl _)]) (And.intro rfl (And.intro rfl (And.intro rfl (And.intro ⟨⟨_, rfl⟩, rfl⟩ ?_))))))
        refine Exists.intro _ (Exists.intro _ (Exists.intro _ (Exists.intro _ (Exists.intro _ (Exists.intro _ (Exists.intro _ (Exists.intro _ (Exists.intro _ (Exists.intro _ (Exists.intro 3 (And.intro rfl (And.intro rfl (And.intro (by decide) (And.intro (by first | assumption | exact q_rg_up (by assumption) (by omega) | exact q_rg_up (q_rg_up (by assumption) (by omega)) (by omega) | exact q_rg_cpy (by assumption) (by assumption) | omega) (?_)))))))))))))))
        intro zq_36 hq_36
        apply And.intro
        · intro hq_39
          have y36 := IsR_0 hq_36 hq_39
          refine Exists.intro [0, 1, 2, 3, 4, 5, 6] (Exists.intro [q2 0, q2 (4 + 2000)] (Exists.intro ([.inr (6, [q2 2, q2 3, q2 4, q2 5, q2 6, q2 1, q1 _, q1 _, q1 _, q1 _, q1 _, q1 _, q1 _, q1 _, q1 _]), .inl (1, 600, .inl _)]) (And.intro rfl (And.intro rfl (And.intro rfl (And.intro ⟨⟨_, rfl⟩, rfl⟩ ?_))))))
          refine Exists.intro _ (Exists.intro _ (Exists.intro _ (Exists.intro _ (Exists.intro _ (Exists.intro _ (Exists.intro _ (Exists.intro _ (Exists.intro _ (Exists.intro _ (Exists.intro 4 (And.intro rfl (And.intro rfl (And.intro (by decide) (And.intro (by first | assumption | exact q_rg_up (by assumption) (by omega) | exact q_rg_up (q_rg_up (by assumption) (by omega)) (by omega) | exact q_rg_cpy (by assumption) (by assumption) | omega) (?_)))))))))))))))
          intro zq_47 hq_47
          apply And.intro
          · intro hq_50
            have y47 := IsR_0 hq_47 hq_50
            refine Exists.intro [0, 1, 2, 3, 4, 5, 6] (Exists.intro [q2 0, q2 (5 + 2000)] (Exists.intro ([.inr (6, [q2 2, q2 3, q2 4, q2 5, q2 6, q2 1, q1 _, q1 _, q1 _, q1 _, q1 _, q1 _, q1 _, q1 _, q1 _]), .inl (1, 600, .inl _)]) (And.intro rfl (And.intro rfl (And.intro rfl (And.intro ⟨⟨_, rfl⟩, rfl⟩ ?_))))))
            refine Exists.intro _ (Exists.intro _ (Exists.intro _ (Exists.intro _ (Exists.intro _ (Exists.intro _ (Exists.intro _ (Exists.intro _ (Exists.intro _ (Exists.intro _ (Exists.intro 5 (And.intro rfl (And.intro rfl (And.intro (by decide) (And.intro (by first | assumption | exact q_rg_up (by assumption) (by omega) | exact q_rg_up (q_rg_up (by assumption) (by omega)) (by omega) | exact q_rg_cpy (by assumption) (by assumption) | omega) (?_)))))))))))))))
            intro zq_58 hq_58
            apply And.intro
            · intro hq_61
              have y58 := IsR_0 hq_58 hq_61
              refine Exists.intro [0, 1, 2, 3, 4, 5, 6] (Exists.intro [q2 0, q2 (6 + 2000)] (Exists.intro ([.inr (6, [q2 2, q2 3, q2 4, q2 5, q2 6, q2 1, q1 _, q1 _, q1 _, q1 _, q1 _, q1 _, q1 _, q1 _, q1 _]), .inl (1, 600, .inl _)]) (And.intro rfl (And.intro rfl (And.intro rfl (And.intro ⟨⟨_, rfl⟩, rfl⟩ ?_))))))
              refine Exists.intro _ (Exists.intro _ (Exists.intro _ (Exists.intro _ (Exists.intro _ (Exists.intro _ (Exists.intro _ (Exists.intro _ (Exists.intro _ (Exists.intro _ (Exists.intro 6 (And.intro rfl (And.intro rfl (And.intro (by decide) (And.intro (by first | assumption | exact q_rg_up (by assumption) (by omega) | exact q_rg_up (q_rg_up (by assumption) (by omega)) (by omega) | exact q_rg_cpy (by assumption) (by assumption) | omega) (?_)))))))))))))))
              intro zq_69 hq_69
              apply And.intro
              · intro hq_72
                have y69 := IsR_0 hq_69 hq_72
                refine Exists.intro [0, 1, 2, 3, 4, 5, 6] (Exists.intro [q2 0, q2 (7 + 2000)] (Exists.intro ([.inr (6, [q2 2, q2 3, q2 4, q2 5, q2 6, q2 1, q1 _, q1 _, q1 _, q1 _, q1 _, q1 _, q1 _, q1 _, q1 _]), .inl (1, 600, .inl _)]) (And.intro rfl (And.intro rfl (And.intro rfl (And.intro ⟨⟨_, rfl⟩, rfl⟩ ?_))))))
                refine Exists.intro _ (Exists.intro _ (Exists.intro _ (Exists.intro _ (Exists.intro _ (Exists.intro _ (Exists.intro _ (Exists.intro _ (Exists.intro _ (Exists.intro _ (Exists.intro 7 (And.intro rfl (And.intro rfl (And.intro (by decide) (And.intro (by first | assumption | exact q_rg_up (by assumption) (by omega) | exact q_rg_up (q_rg_up (by assumption) (by omega)) (by omega) | exact q_rg_cpy (by assumption) (by assumption) | omega) (?_)))))))))))))))
                intro zq_81 hq_81
                apply And.intro
                · intro hq_84
                  have y81 := IsR_0 hq_81 hq_84
                  refine Exists.intro [0, 1, 2, 3, 4, 5, 6] (Exists.intro [q2 0, q2 (8 + 2000)] (Exists.intro ([.inr (6, [q2 2, q2 3, q2 4, q2 5, q2 6, q2 1, q1 _, q1 _, q1 _, q1 _, q1 _, q1 _, q1 _, q1 _, q1 _]), .inl (1, 600, .inl _)]) (And.intro rfl (And.intro rfl (And.intro rfl (And.intro ⟨⟨_, rfl⟩, rfl⟩ ?_))))))
                  refine Exists.intro _ (Exists.intro _ (Exists.intro _ (Exists.intro _ (Exists.intro _ (Exists.intro _ (Exists.intro _ (Exists.intro _ (Exists.intro _ (Exists.intro _ (Exists.intro 8 (And.intro rfl (And.intro rfl (And.intro (by decide) (And.intro (by first | assumption | exact q_rg_up (by assumption) (by omega) | exact q_rg_up (q_rg_up (by assumption) (by omega)) (by omega) | exact q_rg_cpy (by assumption) (by assumption) | omega) (?_)))))))))))))))
                  intro zq_93 hq_93
                  apply And.intro
                  · intro hq_96
                    have y93 := IsR_0 hq_93 hq_96
                    exact hQ _ (by first | (unfold boP; rw [pif_t y3]) | (unfold boP; rw [pif_f y3, pif_t y14]) | (unfold boP; rw [pif_f y3, pif_f y14, pif_t y25]) | (unfold boP; rw [pif_f y3, pif_f y14, pif_f y25, pif_t y36]) | (unfold boP; rw [pif_f y3, pif_f y14, pif_f y25, pif_f y36, pif_t y47]) | (unfold boP; rw [pif_f y3, pif_f y14, pif_f y25, pif_f y36, pif_f y47, pif_t y58]) | (unfold boP; rw [pif_f y3, pif_f y14, pif_f y25, pif_f y36, pif_f y47, pif_f y58, pif_t y69]) | (unfold boP; rw [pif_f y3, pif_f y14, pif_f y25, pif_f y36, pif_f y47, pif_f y58, pif_f y69, pif_t y81]) | (unfold boP; rw [pif_f y3, pif_f y14, pif_f y25, pif_f y36, pif_f y47, pif_f y58, pif_f y69, pif_f y81, pif_t y93]) | (unfold boP; rw [pif_f y3, pif_f y14, pif_f y25, pif_f y36, pif_f y47, pif_f y58, pif_f y69, pif_f y81, pif_f y93]))
                  · intro hq_96
                    have y93 := IsR_1 hq_93 hq_96
                    exact hQ _ (by first | (unfold boP; rw [pif_t y3]) | (unfold boP; rw [pif_f y3, pif_t y14]) | (unfold boP; rw [pif_f y3, pif_f y14, pif_t y25]) | (unfold boP; rw [pif_f y3, pif_f y14, pif_f y25, pif_t y36]) | (unfold boP; rw [pif_f y3, pif_f y14, pif_f y25, pif_f y36, pif_t y47]) | (unfold boP; rw [pif_f y3, pif_f y14, pif_f y25, pif_f y36, pif_f y47, pif_t y58]) | (unfold boP; rw [pif_f y3, pif_f y14, pif_f y25, pif_f y36, pif_f y47, pif_f y58, pif_t y69]) | (unfold boP; rw [pif_f y3, pif_f y14, pif_f y25, pif_f y36, pif_f y47, pif_f y58, pif_f y69, pif_t y81]) | (unfold boP; rw [pif_f y3, pif_f y14, pif_f y25, pif_f y36, pif_f y47, pif_f y58, pif_f y69, pif_f y81, pif_t y93]) | (unfold boP; rw [pif_f y3, pif_f y14, pif_f y25, pif_f y36, pif_f y47, pif_f y58, pif_f y69, pif_f y81, pif_f y93]))
                · intro hq_84
                  have y81 := IsR_1 hq_81 hq_84
                  exact hQ _ (by first | (unfold boP; rw [pif_t y3]) | (unfold boP; rw [pif_f y3, pif_t y14]) | (unfold boP; rw [pif_f y3, pif_f y14, pif_t y25]) | (unfold boP; rw [pif_f y3, pif_f y14, pif_f y25, pif_t y36]) | (unfold boP; rw [pif_f y3, pif_f y14, pif_f y25, pif_f y36, pif_t y47]) | (unfold boP; rw [pif_f y3, pif_f y14, pif_f y25, pif_f y36, pif_f y47, pif_t y58]) | (unfold boP; rw [pif_f y3, pif_f y14, pif_f y25, pif_f y36, pif_f y47, pif_f y58, pif_t y69]) | (unfold boP; rw [pif_f y3, pif_f y14, pif_f y25, pif_f y36, pif_f y47, pif_f y58, pif_f y69, pif_t y81]) | (unfold boP; rw [pif_f y3, pif_f y14, pif_f y25, pif_f y36, pif_f y47, pif_f y58, pif_f y69, pif_f y81, pif_t y93]) | (unfold boP; rw [pif_f y3, pif_f y14, pif_f y25, pif_f y36, pif_f y47, pif_f y58, pif_f y69, pif_f y81, pif_f y93]))
              · intro hq_72
                have y69 := IsR_1 hq_69 hq_72
                exact hQ _ (by first | (unfold boP; rw [pif_t y3]) | (unfold boP; rw [pif_f y3, pif_t y14]) | (unfold boP; rw [pif_f y3, pif_f y14, pif_t y25]) | (unfold boP; rw [pif_f y3, pif_f y14, pif_f y25, pif_t y36]) | (unfold boP; rw [pif_f y3, pif_f y14, pif_f y25, pif_f y36, pif_t y47]) | (unfold boP; rw [pif_f y3, pif_f y14, pif_f y25, pif_f y36, pif_f y47, pif_t y58]) | (unfold boP; rw [pif_f y3, pif_f y14, pif_f y25, pif_f y36, pif_f y47, pif_f y58, pif_t y69]) | (unfold boP; rw [pif_f y3, pif_f y14, pif_f y25, pif_f y36, pif_f y47, pif_f y58, pif_f y69, pif_t y81]) | (unfold boP; rw [pif_f y3, pif_f y14, pif_f y25, pif_f y36, pif_f y47, pif_f y58, pif_f y69, pif_f y81, pif_t y93]) | (unfold boP; rw [pif_f y3, pif_f y14, pif_f y25, pif_f y36, pif_f y47, pif_f y58, pif_f y69, pif_f y81, pif_f y93]))
            · intro hq_61
              have y58 := IsR_1 hq_58 hq_61
              exact hQ _ (by first | (unfold boP; rw [pif_t y3]) | (unfold boP; rw [pif_f y3, pif_t y14]) | (unfold boP; rw [pif_f y3, pif_f y14, pif_t y25]) | (unfold boP; rw [pif_f y3, pif_f y14, pif_f y25, pif_t y36]) | (unfold boP; rw [pif_f y3, pif_f y14, pif_f y25, pif_f y36, pif_t y47]) | (unfold boP; rw [pif_f y3, pif_f y14, pif_f y25, pif_f y36, pif_f y47, pif_t y58]) | (unfold boP; rw [pif_f y3, pif_f y14, pif_f y25, pif_f y36, pif_f y47, pif_f y58, pif_t y69]) | (unfold boP; rw [pif_f y3, pif_f y14, pif_f y25, pif_f y36, pif_f y47, pif_f y58, pif_f y69, pif_t y81]) | (unfold boP; rw [pif_f y3, pif_f y14, pif_f y25, pif_f y36, pif_f y47, pif_f y58, pif_f y69, pif_f y81, pif_t y93]) | (unfold boP; rw [pif_f y3, pif_f y14, pif_f y25, pif_f y36, pif_f y47, pif_f y58, pif_f y69, pif_f y81, pif_f y93]))
          · intro hq_50
            have y47 := IsR_1 hq_47 hq_50
            exact hQ _ (by first | (unfold boP; rw [pif_t y3]) | (unfold boP; rw [pif_f y3, pif_t y14]) | (unfold boP; rw [pif_f y3, pif_f y14, pif_t y25]) | (unfold boP; rw [pif_f y3, pif_f y14, pif_f y25, pif_t y36]) | (unfold boP; rw [pif_f y3, pif_f y14, pif_f y25, pif_f y36, pif_t y47]) | (unfold boP; rw [pif_f y3, pif_f y14, pif_f y25, pif_f y36, pif_f y47, pif_t y58]) | (unfold boP; rw [pif_f y3, pif_f y14, pif_f y25, pif_f y36, pif_f y47, pif_f y58, pif_t y69]) | (unfold boP; rw [pif_f y3, pif_f y14, pif_f y25, pif_f y36, pif_f y47, pif_f y58, pif_f y69, pif_t y81]) | (unfold boP; rw [pif_f y3, pif_f y14, pif_f y25, pif_f y36, pif_f y47, pif_f y58, pif_f y69, pif_f y81, pif_t y93]) | (unfold boP; rw [pif_f y3, pif_f y14, pif_f y25, pif_f y36, pif_f y47, pif_f y58, pif_f y69, pif_f y81, pif_f y93]))
        · intro hq_39
          have y36 := IsR_1 hq_36 hq_39
          exact hQ _ (by first | (unfold boP; rw [pif_t y3]) | (unfold boP; rw [pif_f y3, pif_t y14]) | (unfold boP; rw [pif_f y3, pif_f y14, pif_t y25]) | (unfold boP; rw [pif_f y3, pif_f y14, pif_f y25, pif_t y36]) | (unfold boP; rw [pif_f y3, pif_f y14, pif_f y25, pif_f y36, pif_t y47]) | (unfold boP; rw [pif_f y3, pif_f y14, pif_f y25, pif_f y36, pif_f y47, pif_t y58]) | (unfold boP; rw [pif_f y3, pif_f y14, pif_f y25, pif_f y36, pif_f y47, pif_f y58, pif_t y69]) | (unfold boP; rw [pif_f y3, pif_f y14, pif_f y25, pif_f y36, pif_f y47, pif_f y58, pif_f y69, pif_t y81]) | (unfold boP; rw [pif_f y3, pif_f y14, pif_f y25, pif_f y36, pif_f y47, pif_f y58, pif_f y69, pif_f y81, pif_t y93]) | (unfold boP; rw [pif_f y3, pif_f y14, pif_f y25, pif_f y36, pif_f y47, pif_f y58, pif_f y69, pif_f y81, pif_f y93]))
      · intro hq_28
        have y25 := IsR_1 hq_25 hq_28
        exact hQ _ (by first | (unfold boP; rw [pif_t y3]) | (unfold boP; rw [pif_f y3, pif_t y14]) | (unfold boP; rw [pif_f y3, pif_f y14, pif_t y25]) | (unfold boP; rw [pif_f y3, pif_f y14, pif_f y25, pif_t y36]) | (unfold boP; rw [pif_f y3, pif_f y14, pif_f y25, pif_f y36, pif_t y47]) | (unfold boP; rw [pif_f y3, pif_f y14, pif_f y25, pif_f y36, pif_f y47, pif_t y58]) | (unfold boP; rw [pif_f y3, pif_f y14, pif_f y25, pif_f y36, pif_f y47, pif_f y58, pif_t y69]) | (unfold boP; rw [pif_f y3, pif_f y14, pif_f y25, pif_f y36, pif_f y47, pif_f y58, pif_f y69, pif_t y81]) | (unfold boP; rw [pif_f y3, pif_f y14, pif_f y25, pif_f y36, pif_f y47, pif_f y58, pif_f y69, pif_f y81, pif_t y93]) | (unfold boP; rw [pif_f y3, pif_f y14, pif_f y25, pif_f y36, pif_f y47, pif_f y58, pif_f y69, pif_f y81, pif_f y93]))
    · intro hq_17
      have y14 := IsR_1 hq_14 hq_17
      exact hQ _ (by first | (unfold boP; rw [pif_t y3]) | (unfold boP; rw [pif_f y3, pif_t y14]) | (unfold boP; rw [pif_f y3, pif_f y14, pif_t y25]) | (unfold boP; rw [pif_f y3, pif_f y14, pif_f y25, pif_t y36]) | (unfold boP; rw [pif_f y3, pif_f y14, pif_f y25, pif_f y36, pif_t y47]) | (unfold boP; rw [pif_f y3, pif_f y14, pif_f y25, pif_f y36, pif_f y47, pif_t y58]) | (unfold boP; rw [pif_f y3, pif_f y14, pif_f y25, pif_f y36, pif_f y47, pif_f y58, pif_t y69]) | (unfold boP; rw [pif_f y3, pif_f y14, pif_f y25, pif_f y36, pif_f y47, pif_f y58, pif_f y69, pif_t y81]) | (unfold boP; rw [pif_f y3, pif_f y14, pif_f y25, pif_f y36, pif_f y47, pif_f y58, pif_f y69, pif_f y81, pif_t y93]) | (unfold boP; rw [pif_f y3, pif_f y14, pif_f y25, pif_f y36, pif_f y47, pif_f y58, pif_f y69, pif_f y81, pif_f y93]))
  · intro hq_6
    have y3 := IsR_1 hq_3 hq_6
    exact hQ _ (by first | (unfold boP; rw [pif_t y3]) | (unfold boP; rw [pif_f y3, pif_t y14]) | (unfold boP; rw [pif_f y3, pif_f y14, pif_t y25]) | (unfold boP; rw [pif_f y3, pif_f y14, pif_f y25, pif_t y36]) | (unfold boP; rw [pif_f y3, pif_f y14, pif_f y25, pif_f y36, pif_t y47]) | (unfold boP; rw [pif_f y3, pif_f y14, pif_f y25, pif_f y36, pif_f y47, pif_t y58]) | (unfold boP; rw [pif_f y3, pif_f y14, pif_f y25, pif_f y36, pif_f y47, pif_f y58, pif_t y69]) | (unfold boP; rw [pif_f y3, pif_f y14, pif_f y25, pif_f y36, pif_f y47, pif_f y58, pif_f y69, pif_t y81]) | (unfold boP; rw [pif_f y3, pif_f y14, pif_f y25, pif_f y36, pif_f y47, pif_f y58, pif_f y69, pif_f y81, pif_t y93]) | (unfold boP; rw [pif_f y3, pif_f y14, pif_f y25, pif_f y36, pif_f y47, pif_f y58, pif_f y69, pif_f y81, pif_f y93]))

theorem dF6_yearWord_0 : decode cX6_yearWord 0 = .ok (.aload_n 0, 1) := by decide +kernel
theorem dF6_yearWord_1 : decode cX6_yearWord 1 = .ok (.ldc 176, 2) := by decide +kernel
theorem dF6_yearWord_3 : decode cX6_yearWord 3 = .ok (.invokevirtual 150, 3) := by decide +kernel
theorem dF6_yearWord_6 : decode cX6_yearWord 6 = .ok (.ifCond .eq 6, 3) := by decide +kernel
theorem dF6_yearWord_9 : decode cX6_yearWord 9 = .ok (.bipush 9, 2) := by decide +kernel
theorem dF6_yearWord_11 : decode cX6_yearWord 11 = .ok (.ireturn, 1) := by decide +kernel
theorem dF6_yearWord_12 : decode cX6_yearWord 12 = .ok (.aload_n 0, 1) := by decide +kernel
theorem dF6_yearWord_13 : decode cX6_yearWord 13 = .ok (.ldc 178, 2) := by decide +kernel
theorem dF6_yearWord_15 : decode cX6_yearWord 15 = .ok (.invokevirtual 150, 3) := by decide +kernel
theorem dF6_yearWord_18 : decode cX6_yearWord 18 = .ok (.ifCond .eq 6, 3) := by decide +kernel
theorem dF6_yearWord_21 : decode cX6_yearWord 21 = .ok (.bipush 10, 2) := by decide +kernel
theorem dF6_yearWord_23 : decode cX6_yearWord 23 = .ok (.ireturn, 1) := by decide +kernel
theorem dF6_yearWord_24 : decode cX6_yearWord 24 = .ok (.aload_n 0, 1) := by decide +kernel
theorem dF6_yearWord_25 : decode cX6_yearWord 25 = .ok (.ldc 180, 2) := by decide +kernel
theorem dF6_yearWord_27 : decode cX6_yearWord 27 = .ok (.invokevirtual 150, 3) := by decide +kernel
theorem dF6_yearWord_30 : decode cX6_yearWord 30 = .ok (.ifCond .eq 6, 3) := by decide +kernel
theorem dF6_yearWord_33 : decode cX6_yearWord 33 = .ok (.bipush 11, 2) := by decide +kernel
theorem dF6_yearWord_35 : decode cX6_yearWord 35 = .ok (.ireturn, 1) := by decide +kernel
theorem dF6_yearWord_36 : decode cX6_yearWord 36 = .ok (.aload_n 0, 1) := by decide +kernel
theorem dF6_yearWord_37 : decode cX6_yearWord 37 = .ok (.ldc 182, 2) := by decide +kernel
theorem dF6_yearWord_39 : decode cX6_yearWord 39 = .ok (.invokevirtual 150, 3) := by decide +kernel
theorem dF6_yearWord_42 : decode cX6_yearWord 42 = .ok (.ifCond .eq 6, 3) := by decide +kernel
theorem dF6_yearWord_45 : decode cX6_yearWord 45 = .ok (.bipush 12, 2) := by decide +kernel
theorem dF6_yearWord_47 : decode cX6_yearWord 47 = .ok (.ireturn, 1) := by decide +kernel
theorem dF6_yearWord_48 : decode cX6_yearWord 48 = .ok (.aload_n 0, 1) := by decide +kernel
theorem dF6_yearWord_49 : decode cX6_yearWord 49 = .ok (.ldc 184, 2) := by decide +kernel
theorem dF6_yearWord_51 : decode cX6_yearWord 51 = .ok (.invokevirtual 150, 3) := by decide +kernel
theorem dF6_yearWord_54 : decode cX6_yearWord 54 = .ok (.ifCond .eq 8, 3) := by decide +kernel
theorem dF6_yearWord_57 : decode cX6_yearWord 57 = .ok (.bipush 13, 2) := by decide +kernel
theorem dF6_yearWord_59 : decode cX6_yearWord 59 = .ok (.goto 4, 3) := by decide +kernel
theorem dF6_yearWord_62 : decode cX6_yearWord 62 = .ok (.iconst (-1), 1) := by decide +kernel
theorem dF6_yearWord_63 : decode cX6_yearWord 63 = .ok (.ireturn, 1) := by decide +kernel
def is_F6_yearWord : Nat → List Nat := fun d => []
set_option maxRecDepth 100000 in
def b_F6_yearWord_63 (J : Nat → List qV → List qV → qW → Prop) (Q : qR) : qK := x_iret Q
set_option maxRecDepth 100000 in
theorem s_F6_yearWord_63 {p : Program} {l : Launch} {e : Env} {R : Room} {s : State} {m : MethodId} {args : Array Value} {below : List Frame} {meth : Method} {c : Code} {nW : Nat} {dC : Nat → ClassId} {dI : Nat → Nat → Nat} {k : Nat → ClassId} {g : Nat → Nat} {A : Nat → Prop} {J : Nat → List qV → List qV → qW → Prop} {Q : qR} (X : q_X p R s m args meth c cX6_yearWord 1 nW 5 107 RX6 (some .int) dC dI k g A) (hJ : ∀ d : Nat, q_Sd p l e R s m args below meth c 1 nW dC dI k g A (MQ below (q_post (dC, dI) k g nW Q A) args s 0 0 A) d (x_cut (is_F6_yearWord d) (J d))) : q_Sd p l e R s m args below meth c 1 nW dC dI k g A (MQ below (q_post (dC, dI) k g nW Q A) args s 0 0 A) 63 (b_F6_yearWord_63 J Q) := by
  unfold b_F6_yearWord_63
  exact s_iret X dF6_yearWord_63
set_option maxRecDepth 100000 in
def b_F6_yearWord_48 (J : Nat → List qV → List qV → qW → Prop) (Q : qR) : qK := x_aload 0 (x_ldcs 13 (x_callr (some 6) 2 spr_F6_is (x_if_eq (x_int (-1) (b_F6_yearWord_63 J Q)) (x_int 13 (b_F6_yearWord_63 J Q)))))
set_option maxRecDepth 100000 in
theorem s_F6_yearWord_48 {p : Program} {l : Launch} {e : Env} {R : Room} {s : State} {m : MethodId} {args : Array Value} {below : List Frame} {meth : Method} {c : Code} {nW : Nat} {dC : Nat → ClassId} {dI : Nat → Nat → Nat} {k : Nat → ClassId} {g : Nat → Nat} {A : Nat → Prop} {J : Nat → List qV → List qV → qW → Prop} {Q : qR} (X : q_X p R s m args meth c cX6_yearWord 1 nW 5 107 RX6 (some .int) dC dI k g A) (hJ : ∀ d : Nat, q_Sd p l e R s m args below meth c 1 nW dC dI k g A (MQ below (q_post (dC, dI) k g nW Q A) args s 0 0 A) d (x_cut (is_F6_yearWord d) (J d))) : q_Sd p l e R s m args below meth c 1 nW dC dI k g A (MQ below (q_post (dC, dI) k g nW Q A) args s 0 0 A) 48 (b_F6_yearWord_48 J Q) := by
  unfold b_F6_yearWord_48
  refine s_aload_n X rfl dF6_yearWord_48 ?_
  refine s_ldcs X (i := 13) rfl rfl dF6_yearWord_49 ?_
  refine s_callVr X (m_F6_is l) tw_411 tw_412 tw_1511 tw_128 tw_413 rfl (by decide +kernel) ⟨by decide, by decide⟩ dF6_yearWord_51 ?_
  refine s_if_eq X (tgt := 62) dF6_yearWord_54 (by decide) ?_ ?_
  · refine s_iconst X ⟨by decide, by decide⟩ dF6_yearWord_62 ?_
    exact s_F6_yearWord_63 X hJ
  · refine s_bipush X ⟨by decide, by decide⟩ (by decide) dF6_yearWord_57 ?_
    refine s_goto X (tgt := 63) dF6_yearWord_59 (by decide) ?_
    exact s_F6_yearWord_63 X hJ
set_option maxRecDepth 100000 in
def b_F6_yearWord_0 (J : Nat → List qV → List qV → qW → Prop) (Q : qR) : qK := x_aload 0 (x_ldcs 9 (x_callr (some 6) 2 spr_F6_is (x_if_eq (x_aload 0 (x_ldcs 10 (x_callr (some 6) 2 spr_F6_is (x_if_eq (x_aload 0 (x_ldcs 11 (x_callr (some 6) 2 spr_F6_is (x_if_eq (x_aload 0 (x_ldcs 12 (x_callr (some 6) 2 spr_F6_is (x_if_eq (b_F6_yearWord_48 J Q) (x_int 12 (x_iret Q)))))) (x_int 11 (x_iret Q)))))) (x_int 10 (x_iret Q)))))) (x_int 9 (x_iret Q)))))
set_option maxRecDepth 100000 in
theorem s_F6_yearWord_0 {p : Program} {l : Launch} {e : Env} {R : Room} {s : State} {m : MethodId} {args : Array Value} {below : List Frame} {meth : Method} {c : Code} {nW : Nat} {dC : Nat → ClassId} {dI : Nat → Nat → Nat} {k : Nat → ClassId} {g : Nat → Nat} {A : Nat → Prop} {J : Nat → List qV → List qV → qW → Prop} {Q : qR} (X : q_X p R s m args meth c cX6_yearWord 1 nW 5 107 RX6 (some .int) dC dI k g A) (hJ : ∀ d : Nat, q_Sd p l e R s m args below meth c 1 nW dC dI k g A (MQ below (q_post (dC, dI) k g nW Q A) args s 0 0 A) d (x_cut (is_F6_yearWord d) (J d))) : q_Sd p l e R s m args below meth c 1 nW dC dI k g A (MQ below (q_post (dC, dI) k g nW Q A) args s 0 0 A) 0 (b_F6_yearWord_0 J Q) := by
  unfold b_F6_yearWord_0
  refine s_aload_n X rfl dF6_yearWord_0 ?_
  refine s_ldcs X (i := 9) rfl rfl dF6_yearWord_1 ?_
  refine s_callVr X (m_F6_is l) tw_411 tw_412 tw_1511 tw_128 tw_413 rfl (by decide +kernel) ⟨by decide, by decide⟩ dF6_yearWord_3 ?_
  refine s_if_eq X (tgt := 12) dF6_yearWord_6 (by decide) ?_ ?_
  · refine s_aload_n X rfl dF6_yearWord_12 ?_
    refine s_ldcs X (i := 10) rfl rfl dF6_yearWord_13 ?_
    refine s_callVr X (m_F6_is l) tw_411 tw_412 tw_1511 tw_128 tw_413 rfl (by decide +kernel) ⟨by decide, by decide⟩ dF6_yearWord_15 ?_
    refine s_if_eq X (tgt := 24) dF6_yearWord_18 (by decide) ?_ ?_
    · refine s_aload_n X rfl dF6_yearWord_24 ?_
      refine s_ldcs X (i := 11) rfl rfl dF6_yearWord_25 ?_
      refine s_callVr X (m_F6_is l) tw_411 tw_412 tw_1511 tw_128 tw_413 rfl (by decide +kernel) ⟨by decide, by decide⟩ dF6_yearWord_27 ?_
      refine s_if_eq X (tgt := 36) dF6_yearWord_30 (by decide) ?_ ?_
      · refine s_aload_n X rfl dF6_yearWord_36 ?_
        refine s_ldcs X (i := 12) rfl rfl dF6_yearWord_37 ?_
        refine s_callVr X (m_F6_is l) tw_411 tw_412 tw_1511 tw_128 tw_413 rfl (by decide +kernel) ⟨by decide, by decide⟩ dF6_yearWord_39 ?_
        refine s_if_eq X (tgt := 48) dF6_yearWord_42 (by decide) ?_ ?_
        · exact s_F6_yearWord_48 X hJ
        · refine s_bipush X ⟨by decide, by decide⟩ (by decide) dF6_yearWord_45 ?_
          exact s_iret X dF6_yearWord_47
      · refine s_bipush X ⟨by decide, by decide⟩ (by decide) dF6_yearWord_33 ?_
        exact s_iret X dF6_yearWord_35
    · refine s_bipush X ⟨by decide, by decide⟩ (by decide) dF6_yearWord_21 ?_
      exact s_iret X dF6_yearWord_23
  · refine s_bipush X ⟨by decide, by decide⟩ (by decide) dF6_yearWord_9 ?_
    exact s_iret X dF6_yearWord_11

def spr_F6_yearWord : List qV → qW → (Option qV → Prop) → Prop := fun av w Q => ∃ (rln : Int) (rfa : Int) (rpl : Int) (rst : Int) (rnx : Int) (rtk : Int) (rnm : Int) (rnp : Int) (rnd : Int) (tp : Nat → Int), av = [q2 0] ∧ w = [.inr (6, [q2 2, q2 3, q2 4, q2 5, q2 6, q2 1, q1 rln, q1 rfa, q1 rpl, q1 rst, q1 rnx, q1 rtk, q1 rnm, q1 rnp, q1 rnd]), .inl (1, 600, .inl tp)] ∧ ((0 ≤ rst ∧ rst ≤ 600) ∧ 0 ≤ rnx ∧ rnx ≤ rln ∧ rln ≤ 600) ∧ (∀ (r : Int) , r = yeP (tc tp) rst rnx rtk → Q (some (q1 r)))
def sp_F6_yearWord : qS := fun av w Q => spr_F6_yearWord av w (fun r => Q r w)
set_option maxHeartbeats 4000000 in
set_option maxRecDepth 100000 in
theorem m_F6_yearWord (l : Launch) : q_M l yX6_yearWord cX6_yearWord 1 (some .int) 5 107 sp_F6_yearWord := by
  refine q_meth (by decide) (fun av w Q h => by obtain ⟨rln, rfa, rpl, rst, rnx, rtk, rnm, rnp, rnd, tp, rfl, rfl, hw9, hQ⟩ := h; exact Nat.le_of_ble_eq_true rfl) ?_
  intro p e R s m args below meth c dC dI k g A av w Q hsp oka okw X
  obtain ⟨rln, rfa, rpl, rst, rnx, rtk, rnm, rnp, rnd, tp, rfl, rfl, hw9, hQ⟩ := hsp
  refine s_mono (s_F6_yearWord_0 X (J := fun _ _ _ _ => False) (fun d => s_cutF)) ?_
  rintro lv st w' ⟨rfl, rfl, rfl⟩
  refine Exists.intro [0, 1, 2, 3, 4, 5, 6] (Exists.intro [q2 0, q2 (9 + 2000)] (Exists.intro ([.inr (6, [q2 2, q2 3, q2 4, q2 5, q2 6, q2 1, q1 _, q1 _, q1 _, q1 _, q1 _, q1 _, q1 _, q1 _, q1 _]), .inl (1, 600, .inl _)]) (And.intro rfl (And.intro rfl (And.intro rfl (And.intro ⟨⟨_, rfl⟩, rfl⟩ ?_))))))
  refine Exists.intro _ (Exists.intro _ (Exists.intro _ (Exists.intro _ (Exists.intro _ (Exists.intro _ (Exists.intro _ (Exists.intro _ (Exists.intro _ (Exists.intro _ (Exists.intro 9 (And.intro rfl (And.intro rfl (And.intro (by decide) (And.intro (by first | assumption | exact q_rg_up (by assumption) (by omega) | exact q_rg_up (q_rg_up (by assumption) (by omega)) (by omega) | exact q_rg_cpy (by assumption) (by assumption) | omega) (?_)))))))))))))))
  intro zq_3 hq_3
  apply And.intro
  · intro hq_6
    have y3 := IsR_0 hq_3 hq_6
    refine Exists.intro [0, 1, 2, 3, 4, 5, 6] (Exists.intro [q2 0, q2 (10 + 2000)] (Exists.intro ([.inr (6, [q2 2, q2 3, q2 4, q2 5, q2 6, q2 1, q1 _, q1 _, q1 _, q1 _, q1 _, q1 _, q1 _, q1 _, q1 _]), .inl (1, 600, .inl _)]) (And.intro rfl (And.intro rfl (And.intro rfl (And.intro ⟨⟨_, rfl⟩, rfl⟩ ?_))))))
    refine Exists.intro _ (Exists.intro _ (Exists.intro _ (Exists.intro _ (Exists.intro _ (Exists.intro _ (Exists.intro _ (Exists.intro _ (Exists.intro _ (Exists.intro _ (Exists.intro 10 (And.intro rfl (And.intro rfl (And.intro (by decide) (And.intro (by first | assumption | exact q_rg_up (by assumption) (by omega) | exact q_rg_up (q_rg_up (by assumption) (by omega)) (by omega) | exact q_rg_cpy (by assumption) (by assumption) | omega) (?_)))))))))))))))
    intro zq_15 hq_15
    apply And.intro
    · intro hq_18
      have y15 := IsR_0 hq_15 hq_18
      refine Exists.intro [0, 1, 2, 3, 4, 5, 6] (Exists.intro [q2 0, q2 (11 + 2000)] (Exists.intro ([.inr (6, [q2 2, q2 3, q2 4, q2 5, q2 6, q2 1, q1 _, q1 _, q1 _, q1 _, q1 _, q1 _, q1 _, q1 _, q1 _]), .inl (1, 600, .inl _)]) (And.intro rfl (And.intro rfl (And.intro rfl (And.intro ⟨⟨_, rfl⟩, rfl⟩ ?_))))))
      refine Exists.intro _ (Exists.intro _ (Exists.intro _ (Exists.intro _ (Exists.intro _ (Exists.intro _ (Exists.intro _ (Exists.intro _ (Exists.intro _ (Exists.intro _ (Exists.intro 11 (And.intro rfl (And.intro rfl (And.intro (by decide) (And.intro (by first | assumption | exact q_rg_up (by assumption) (by omega) | exact q_rg_up (q_rg_up (by assumption) (by omega)) (by omega) | exact q_rg_cpy (by assumption) (by assumption) | omega) (?_)))))))))))))))
      intro zq_27 hq_27
      apply And.intro
      · intro hq_30
        have y27 := IsR_0 hq_27 hq_30
        refine Exists.intro [0, 1, 2, 3, 4, 5, 6] (Exists.intro [q2 0, q2 (12 + 2000)] (Exists.intro ([.inr (6, [q2 2, q2 3, q2 4, q2 5, q2 6, q2 1, q1 _, q1 _, q1 _, q1 _, q1 _, q1 _, q1 _, q1 _, q1 _]), .inl (1, 600, .inl _)]) (And.intro rfl (And.intro rfl (And.intro rfl (And.intro ⟨⟨_, rfl⟩, rfl⟩ ?_))))))
        refine Exists.intro _ (Exists.intro _ (Exists.intro _ (Exists.intro _ (Exists.intro _ (Exists.intro _ (Exists.intro _ (Exists.intro _ (Exists.intro _ (Exists.intro _ (Exists.intro 12 (And.intro rfl (And.intro rfl (And.intro (by decide) (And.intro (by first | assumption | exact q_rg_up (by assumption) (by omega) | exact q_rg_up (q_rg_up (by assumption) (by omega)) (by omega) | exact q_rg_cpy (by assumption) (by assumption) | omega) (?_)))))))))))))))
        intro zq_39 hq_39
        apply And.intro
        · intro hq_42
          have y39 := IsR_0 hq_39 hq_42
          refine Exists.intro [0, 1, 2, 3, 4, 5, 6] (Exists.intro [q2 0, q2 (13 + 2000)] (Exists.intro ([.inr (6, [q2 2, q2 3, q2 4, q2 5, q2 6, q2 1, q1 _, q1 _, q1 _, q1 _, q1 _, q1 _, q1 _, q1 _, q1 _]), .inl (1, 600, .inl _)]) (And.intro rfl (And.intro rfl (And.intro rfl (And.intro ⟨⟨_, rfl⟩, rfl⟩ ?_))))))
          refine Exists.intro _ (Exists.intro _ (Exists.intro _ (Exists.intro _ (Exists.intro _ (Exists.intro _ (Exists.intro _ (Exists.intro _ (Exists.intro _ (Exists.intro _ (Exists.intro 13 (And.intro rfl (And.intro rfl (And.intro (by decide) (And.intro (by first | assumption | exact q_rg_up (by assumption) (by omega) | exact q_rg_up (q_rg_up (by assumption) (by omega)) (by omega) | exact q_rg_cpy (by assumption) (by assumption) | omega) (?_)))))))))))))))
          intro zq_51 hq_51
          apply And.intro
          · intro hq_54
            have y51 := IsR_0 hq_51 hq_54
            exact hQ _ (by first | (unfold yeP; rw [pif_t y3]) | (unfold yeP; rw [pif_f y3, pif_t y15]) | (unfold yeP; rw [pif_f y3, pif_f y15, pif_t y27]) | (unfold yeP; rw [pif_f y3, pif_f y15, pif_f y27, pif_t y39]) | (unfold yeP; rw [pif_f y3, pif_f y15, pif_f y27, pif_f y39, pif_t y51]) | (unfold yeP; rw [pif_f y3, pif_f y15, pif_f y27, pif_f y39, pif_f y51]))
          · intro hq_54
            have y51 := IsR_1 hq_51 hq_54
            exact hQ _ (by first | (unfold yeP; rw [pif_t y3]) | (unfold yeP; rw [pif_f y3, pif_t y15]) | (unfold yeP; rw [pif_f y3, pif_f y15, pif_t y27]) | (unfold yeP; rw [pif_f y3, pif_f y15, pif_f y27, pif_t y39]) | (unfold yeP; rw [pif_f y3, pif_f y15, pif_f y27, pif_f y39, pif_t y51]) | (unfold yeP; rw [pif_f y3, pif_f y15, pif_f y27, pif_f y39, pif_f y51]))
        · intro hq_42
          have y39 := IsR_1 hq_39 hq_42
          exact hQ _ (by first | (unfold yeP; rw [pif_t y3]) | (unfold yeP; rw [pif_f y3, pif_t y15]) | (unfold yeP; rw [pif_f y3, pif_f y15, pif_t y27]) | (unfold yeP; rw [pif_f y3, pif_f y15, pif_f y27, pif_t y39]) | (unfold yeP; rw [pif_f y3, pif_f y15, pif_f y27, pif_f y39, pif_t y51]) | (unfold yeP; rw [pif_f y3, pif_f y15, pif_f y27, pif_f y39, pif_f y51]))
      · intro hq_30
        have y27 := IsR_1 hq_27 hq_30
        exact hQ _ (by first | (unfold yeP; rw [pif_t y3]) | (unfold yeP; rw [pif_f y3, pif_t y15]) | (unfold yeP; rw [pif_f y3, pif_f y15, pif_t y27]) | (unfold yeP; rw [pif_f y3, pif_f y15, pif_f y27, pif_t y39]) | (unfold yeP; rw [pif_f y3, pif_f y15, pif_f y27, pif_f y39, pif_t y51]) | (unfold yeP; rw [pif_f y3, pif_f y15, pif_f y27, pif_f y39, pif_f y51]))
    · intro hq_18
      have y15 := IsR_1 hq_15 hq_18
      exact hQ _ (by first | (unfold yeP; rw [pif_t y3]) | (unfold yeP; rw [pif_f y3, pif_t y15]) | (unfold yeP; rw [pif_f y3, pif_f y15, pif_t y27]) | (unfold yeP; rw [pif_f y3, pif_f y15, pif_f y27, pif_t y39]) | (unfold yeP; rw [pif_f y3, pif_f y15, pif_f y27, pif_f y39, pif_t y51]) | (unfold yeP; rw [pif_f y3, pif_f y15, pif_f y27, pif_f y39, pif_f y51]))
  · intro hq_6
    have y3 := IsR_1 hq_3 hq_6
    exact hQ _ (by first | (unfold yeP; rw [pif_t y3]) | (unfold yeP; rw [pif_f y3, pif_t y15]) | (unfold yeP; rw [pif_f y3, pif_f y15, pif_t y27]) | (unfold yeP; rw [pif_f y3, pif_f y15, pif_f y27, pif_t y39]) | (unfold yeP; rw [pif_f y3, pif_f y15, pif_f y27, pif_f y39, pif_t y51]) | (unfold yeP; rw [pif_f y3, pif_f y15, pif_f y27, pif_f y39, pif_f y51]))

theorem dF6_offenceWord_0 : decode cX6_offenceWord 0 = .ok (.aload_n 0, 1) := by decide +kernel
theorem dF6_offenceWord_1 : decode cX6_offenceWord 1 = .ok (.ldc 186, 2) := by decide +kernel
theorem dF6_offenceWord_3 : decode cX6_offenceWord 3 = .ok (.invokevirtual 150, 3) := by decide +kernel
theorem dF6_offenceWord_6 : decode cX6_offenceWord 6 = .ok (.ifCond .eq 5, 3) := by decide +kernel
theorem dF6_offenceWord_9 : decode cX6_offenceWord 9 = .ok (.iconst 0, 1) := by decide +kernel
theorem dF6_offenceWord_10 : decode cX6_offenceWord 10 = .ok (.ireturn, 1) := by decide +kernel
theorem dF6_offenceWord_11 : decode cX6_offenceWord 11 = .ok (.aload_n 0, 1) := by decide +kernel
theorem dF6_offenceWord_12 : decode cX6_offenceWord 12 = .ok (.ldc 188, 2) := by decide +kernel
theorem dF6_offenceWord_14 : decode cX6_offenceWord 14 = .ok (.invokevirtual 150, 3) := by decide +kernel
theorem dF6_offenceWord_17 : decode cX6_offenceWord 17 = .ok (.ifCond .eq 5, 3) := by decide +kernel
theorem dF6_offenceWord_20 : decode cX6_offenceWord 20 = .ok (.iconst 1, 1) := by decide +kernel
theorem dF6_offenceWord_21 : decode cX6_offenceWord 21 = .ok (.ireturn, 1) := by decide +kernel
theorem dF6_offenceWord_22 : decode cX6_offenceWord 22 = .ok (.aload_n 0, 1) := by decide +kernel
theorem dF6_offenceWord_23 : decode cX6_offenceWord 23 = .ok (.ldc 190, 2) := by decide +kernel
theorem dF6_offenceWord_25 : decode cX6_offenceWord 25 = .ok (.invokevirtual 150, 3) := by decide +kernel
theorem dF6_offenceWord_28 : decode cX6_offenceWord 28 = .ok (.ifCond .eq 5, 3) := by decide +kernel
theorem dF6_offenceWord_31 : decode cX6_offenceWord 31 = .ok (.iconst 2, 1) := by decide +kernel
theorem dF6_offenceWord_32 : decode cX6_offenceWord 32 = .ok (.ireturn, 1) := by decide +kernel
theorem dF6_offenceWord_33 : decode cX6_offenceWord 33 = .ok (.aload_n 0, 1) := by decide +kernel
theorem dF6_offenceWord_34 : decode cX6_offenceWord 34 = .ok (.ldc 192, 2) := by decide +kernel
theorem dF6_offenceWord_36 : decode cX6_offenceWord 36 = .ok (.invokevirtual 150, 3) := by decide +kernel
theorem dF6_offenceWord_39 : decode cX6_offenceWord 39 = .ok (.ifCond .eq 7, 3) := by decide +kernel
theorem dF6_offenceWord_42 : decode cX6_offenceWord 42 = .ok (.iconst 3, 1) := by decide +kernel
theorem dF6_offenceWord_43 : decode cX6_offenceWord 43 = .ok (.goto 4, 3) := by decide +kernel
theorem dF6_offenceWord_46 : decode cX6_offenceWord 46 = .ok (.iconst (-1), 1) := by decide +kernel
theorem dF6_offenceWord_47 : decode cX6_offenceWord 47 = .ok (.ireturn, 1) := by decide +kernel
def is_F6_offenceWord : Nat → List Nat := fun d => []
set_option maxRecDepth 100000 in
def b_F6_offenceWord_47 (J : Nat → List qV → List qV → qW → Prop) (Q : qR) : qK := x_iret Q
set_option maxRecDepth 100000 in
theorem s_F6_offenceWord_47 {p : Program} {l : Launch} {e : Env} {R : Room} {s : State} {m : MethodId} {args : Array Value} {below : List Frame} {meth : Method} {c : Code} {nW : Nat} {dC : Nat → ClassId} {dI : Nat → Nat → Nat} {k : Nat → ClassId} {g : Nat → Nat} {A : Nat → Prop} {J : Nat → List qV → List qV → qW → Prop} {Q : qR} (X : q_X p R s m args meth c cX6_offenceWord 1 nW 5 107 RX6 (some .int) dC dI k g A) (hJ : ∀ d : Nat, q_Sd p l e R s m args below meth c 1 nW dC dI k g A (MQ below (q_post (dC, dI) k g nW Q A) args s 0 0 A) d (x_cut (is_F6_offenceWord d) (J d))) : q_Sd p l e R s m args below meth c 1 nW dC dI k g A (MQ below (q_post (dC, dI) k g nW Q A) args s 0 0 A) 47 (b_F6_offenceWord_47 J Q) := by
  unfold b_F6_offenceWord_47
  exact s_iret X dF6_offenceWord_47
set_option maxRecDepth 100000 in
def b_F6_offenceWord_46 (J : Nat → List qV → List qV → qW → Prop) (Q : qR) : qK := x_int (-1) (b_F6_offenceWord_47 J Q)
set_option maxRecDepth 100000 in
theorem s_F6_offenceWord_46 {p : Program} {l : Launch} {e : Env} {R : Room} {s : State} {m : MethodId} {args : Array Value} {below : List Frame} {meth : Method} {c : Code} {nW : Nat} {dC : Nat → ClassId} {dI : Nat → Nat → Nat} {k : Nat → ClassId} {g : Nat → Nat} {A : Nat → Prop} {J : Nat → List qV → List qV → qW → Prop} {Q : qR} (X : q_X p R s m args meth c cX6_offenceWord 1 nW 5 107 RX6 (some .int) dC dI k g A) (hJ : ∀ d : Nat, q_Sd p l e R s m args below meth c 1 nW dC dI k g A (MQ below (q_post (dC, dI) k g nW Q A) args s 0 0 A) d (x_cut (is_F6_offenceWord d) (J d))) : q_Sd p l e R s m args below meth c 1 nW dC dI k g A (MQ below (q_post (dC, dI) k g nW Q A) args s 0 0 A) 46 (b_F6_offenceWord_46 J Q) := by
  unfold b_F6_offenceWord_46
  refine s_iconst X ⟨by decide, by decide⟩ dF6_offenceWord_46 ?_
  exact s_F6_offenceWord_47 X hJ
set_option maxRecDepth 100000 in
def b_F6_offenceWord_0 (J : Nat → List qV → List qV → qW → Prop) (Q : qR) : qK := x_aload 0 (x_ldcs 17 (x_callr (some 6) 2 spr_F6_is (x_if_eq (x_aload 0 (x_ldcs 18 (x_callr (some 6) 2 spr_F6_is (x_if_eq (x_aload 0 (x_ldcs 19 (x_callr (some 6) 2 spr_F6_is (x_if_eq (x_aload 0 (x_ldcs 20 (x_callr (some 6) 2 spr_F6_is (x_if_eq (b_F6_offenceWord_46 J Q) (x_int 3 (b_F6_offenceWord_47 J Q)))))) (x_int 2 (x_iret Q)))))) (x_int 1 (x_iret Q)))))) (x_int 0 (x_iret Q)))))
set_option maxRecDepth 100000 in
theorem s_F6_offenceWord_0 {p : Program} {l : Launch} {e : Env} {R : Room} {s : State} {m : MethodId} {args : Array Value} {below : List Frame} {meth : Method} {c : Code} {nW : Nat} {dC : Nat → ClassId} {dI : Nat → Nat → Nat} {k : Nat → ClassId} {g : Nat → Nat} {A : Nat → Prop} {J : Nat → List qV → List qV → qW → Prop} {Q : qR} (X : q_X p R s m args meth c cX6_offenceWord 1 nW 5 107 RX6 (some .int) dC dI k g A) (hJ : ∀ d : Nat, q_Sd p l e R s m args below meth c 1 nW dC dI k g A (MQ below (q_post (dC, dI) k g nW Q A) args s 0 0 A) d (x_cut (is_F6_offenceWord d) (J d))) : q_Sd p l e R s m args below meth c 1 nW dC dI k g A (MQ below (q_post (dC, dI) k g nW Q A) args s 0 0 A) 0 (b_F6_offenceWord_0 J Q) := by
  unfold b_F6_offenceWord_0
  refine s_aload_n X rfl dF6_offenceWord_0 ?_
  refine s_ldcs X (i := 17) rfl rfl dF6_offenceWord_1 ?_
  refine s_callVr X (m_F6_is l) tw_411 tw_412 tw_1511 tw_128 tw_413 rfl (by decide +kernel) ⟨by decide, by decide⟩ dF6_offenceWord_3 ?_
  refine s_if_eq X (tgt := 11) dF6_offenceWord_6 (by decide) ?_ ?_
  · refine s_aload_n X rfl dF6_offenceWord_11 ?_
    refine s_ldcs X (i := 18) rfl rfl dF6_offenceWord_12 ?_
    refine s_callVr X (m_F6_is l) tw_411 tw_412 tw_1511 tw_128 tw_413 rfl (by decide +kernel) ⟨by decide, by decide⟩ dF6_offenceWord_14 ?_
    refine s_if_eq X (tgt := 22) dF6_offenceWord_17 (by decide) ?_ ?_
    · refine s_aload_n X rfl dF6_offenceWord_22 ?_
      refine s_ldcs X (i := 19) rfl rfl dF6_offenceWord_23 ?_
      refine s_callVr X (m_F6_is l) tw_411 tw_412 tw_1511 tw_128 tw_413 rfl (by decide +kernel) ⟨by decide, by decide⟩ dF6_offenceWord_25 ?_
      refine s_if_eq X (tgt := 33) dF6_offenceWord_28 (by decide) ?_ ?_
      · refine s_aload_n X rfl dF6_offenceWord_33 ?_
        refine s_ldcs X (i := 20) rfl rfl dF6_offenceWord_34 ?_
        refine s_callVr X (m_F6_is l) tw_411 tw_412 tw_1511 tw_128 tw_413 rfl (by decide +kernel) ⟨by decide, by decide⟩ dF6_offenceWord_36 ?_
        refine s_if_eq X (tgt := 46) dF6_offenceWord_39 (by decide) ?_ ?_
        · exact s_F6_offenceWord_46 X hJ
        · refine s_iconst X ⟨by decide, by decide⟩ dF6_offenceWord_42 ?_
          refine s_goto X (tgt := 47) dF6_offenceWord_43 (by decide) ?_
          exact s_F6_offenceWord_47 X hJ
      · refine s_iconst X ⟨by decide, by decide⟩ dF6_offenceWord_31 ?_
        exact s_iret X dF6_offenceWord_32
    · refine s_iconst X ⟨by decide, by decide⟩ dF6_offenceWord_20 ?_
      exact s_iret X dF6_offenceWord_21
  · refine s_iconst X ⟨by decide, by decide⟩ dF6_offenceWord_9 ?_
    exact s_iret X dF6_offenceWord_10

def spr_F6_offenceWord : List qV → qW → (Option qV → Prop) → Prop := fun av w Q => ∃ (rln : Int) (rfa : Int) (rpl : Int) (rst : Int) (rnx : Int) (rtk : Int) (rnm : Int) (rnp : Int) (rnd : Int) (tp : Nat → Int), av = [q2 0] ∧ w = [.inr (6, [q2 2, q2 3, q2 4, q2 5, q2 6, q2 1, q1 rln, q1 rfa, q1 rpl, q1 rst, q1 rnx, q1 rtk, q1 rnm, q1 rnp, q1 rnd]), .inl (1, 600, .inl tp)] ∧ ((0 ≤ rst ∧ rst ≤ 600) ∧ 0 ≤ rnx ∧ rnx ≤ rln ∧ rln ≤ 600) ∧ (∀ (r : Int) , r = ofP (tc tp) rst rnx rtk → Q (some (q1 r)))
def sp_F6_offenceWord : qS := fun av w Q => spr_F6_offenceWord av w (fun r => Q r w)
set_option maxHeartbeats 4000000 in
set_option maxRecDepth 100000 in
theorem m_F6_offenceWord (l : Launch) : q_M l yX6_offenceWord cX6_offenceWord 1 (some .int) 5 107 sp_F6_offenceWord := by
  refine q_meth (by decide) (fun av w Q h => by obtain ⟨rln, rfa, rpl, rst, rnx, rtk, rnm, rnp, rnd, tp, rfl, rfl, hw9, hQ⟩ := h; exact Nat.le_of_ble_eq_true rfl) ?_
  intro p e R s m args below meth c dC dI k g A av w Q hsp oka okw X
  obtain ⟨rln, rfa, rpl, rst, rnx, rtk, rnm, rnp, rnd, tp, rfl, rfl, hw9, hQ⟩ := hsp
  refine s_mono (s_F6_offenceWord_0 X (J := fun _ _ _ _ => False) (fun d => s_cutF)) ?_
  rintro lv st w' ⟨rfl, rfl, rfl⟩
  refine Exists.intro [0, 1, 2, 3, 4, 5, 6] (Exists.intro [q2 0, q2 (17 + 2000)] (Exists.intro ([.inr (6, [q2 2, q2 3, q2 4, q2 5, q2 6, q2 1, q1 _, q1 _, q1 _, q1 _, q1 _, q1 _, q1 _, q1 _, q1 _]), .inl (1, 600, .inl _)]) (And.intro rfl (And.intro rfl (And.intro rfl (And.intro ⟨⟨_, rfl⟩, rfl⟩ ?_))))))
  refine Exists.intro _ (Exists.intro _ (Exists.intro _ (Exists.intro _ (Exists.intro _ (Exists.intro _ (Exists.intro _ (Exists.intro _ (Exists.intro _ (Exists.intro _ (Exists.intro 17 (And.intro rfl (And.intro rfl (And.intro (by decide) (And.intro (by first | assumption | exact q_rg_up (by assumption) (by omega) | exact q_rg_up (q_rg_up (by assumption) (by omega)) (by omega) | exact q_rg_cpy (by assumption) (by assumption) | omega) (?_)))))))))))))))
  intro zq_3 hq_3
  apply And.intro
  · intro hq_6
    have y3 := IsR_0 hq_3 hq_6
    refine Exists.intro [0, 1, 2, 3, 4, 5, 6] (Exists.intro [q2 0, q2 (18 + 2000)] (Exists.intro ([.inr (6, [q2 2, q2 3, q2 4, q2 5, q2 6, q2 1, q1 _, q1 _, q1 _, q1 _, q1 _, q1 _, q1 _, q1 _, q1 _]), .inl (1, 600, .inl _)]) (And.intro rfl (And.intro rfl (And.intro rfl (And.intro ⟨⟨_, rfl⟩, rfl⟩ ?_))))))
    refine Exists.intro _ (Exists.intro _ (Exists.intro _ (Exists.intro _ (Exists.intro _ (Exists.intro _ (Exists.intro _ (Exists.intro _ (Exists.intro _ (Exists.intro _ (Exists.intro 18 (And.intro rfl (And.intro rfl (And.intro (by decide) (And.intro (by first | assumption | exact q_rg_up (by assumption) (by omega) | exact q_rg_up (q_rg_up (by assumption) (by omega)) (by omega) | exact q_rg_cpy (by assumption) (by assumption) | omega) (?_)))))))))))))))
    intro zq_14 hq_14
    apply And.intro
    · intro hq_17
      have y14 := IsR_0 hq_14 hq_17
      refine Exists.intro [0, 1, 2, 3, 4, 5, 6] (Exists.intro [q2 0, q2 (19 + 2000)] (Exists.intro ([.inr (6, [q2 2, q2 3, q2 4, q2 5, q2 6, q2 1, q1 _, q1 _, q1 _, q1 _, q1 _, q1 _, q1 _, q1 _, q1 _]), .inl (1, 600, .inl _)]) (And.intro rfl (And.intro rfl (And.intro rfl (And.intro ⟨⟨_, rfl⟩, rfl⟩ ?_))))))
      refine Exists.intro _ (Exists.intro _ (Exists.intro _ (Exists.intro _ (Exists.intro _ (Exists.intro _ (Exists.intro _ (Exists.intro _ (Exists.intro _ (Exists.intro _ (Exists.intro 19 (And.intro rfl (And.intro rfl (And.intro (by decide) (And.intro (by first | assumption | exact q_rg_up (by assumption) (by omega) | exact q_rg_up (q_rg_up (by assumption) (by omega)) (by omega) | exact q_rg_cpy (by assumption) (by assumption) | omega) (?_)))))))))))))))
      intro zq_25 hq_25
      apply And.intro
      · intro hq_28
        have y25 := IsR_0 hq_25 hq_28
        refine Exists.intro [0, 1, 2, 3, 4, 5, 6] (Exists.intro [q2 0, q2 (20 + 2000)] (Exists.intro ([.inr (6, [q2 2, q2 3, q2 4, q2 5, q2 6, q2 1, q1 _, q1 _, q1 _, q1 _, q1 _, q1 _, q1 _, q1 _, q1 _]), .inl (1, 600, .inl _)]) (And.intro rfl (And.intro rfl (And.intro rfl (And.intro ⟨⟨_, rfl⟩, rfl⟩ ?_))))))
        refine Exists.intro _ (Exists.intro _ (Exists.intro _ (Exists.intro _ (Exists.intro _ (Exists.intro _ (Exists.intro _ (Exists.intro _ (Exists.intro _ (Exists.intro _ (Exists.intro 20 (And.intro rfl (And.intro rfl (And.intro (by decide) (And.intro (by first | assumption | exact q_rg_up (by assumption) (by omega) | exact q_rg_up (q_rg_up (by assumption) (by omega)) (by omega) | exact q_rg_cpy (by assumption) (by assumption) | omega) (?_)))))))))))))))
        intro zq_36 hq_36
        apply And.intro
        · intro hq_39
          have y36 := IsR_0 hq_36 hq_39
          exact hQ _ (by first | (unfold ofP; rw [pif_t y3]) | (unfold ofP; rw [pif_f y3, pif_t y14]) | (unfold ofP; rw [pif_f y3, pif_f y14, pif_t y25]) | (unfold ofP; rw [pif_f y3, pif_f y14, pif_f y25, pif_t y36]) | (unfold ofP; rw [pif_f y3, pif_f y14, pif_f y25, pif_f y36]))
        · intro hq_39
          have y36 := IsR_1 hq_36 hq_39
          exact hQ _ (by first | (unfold ofP; rw [pif_t y3]) | (unfold ofP; rw [pif_f y3, pif_t y14]) | (unfold ofP; rw [pif_f y3, pif_f y14, pif_t y25]) | (unfold ofP; rw [pif_f y3, pif_f y14, pif_f y25, pif_t y36]) | (unfold ofP; rw [pif_f y3, pif_f y14, pif_f y25, pif_f y36]))
      · intro hq_28
        have y25 := IsR_1 hq_25 hq_28
        exact hQ _ (by first | (unfold ofP; rw [pif_t y3]) | (unfold ofP; rw [pif_f y3, pif_t y14]) | (unfold ofP; rw [pif_f y3, pif_f y14, pif_t y25]) | (unfold ofP; rw [pif_f y3, pif_f y14, pif_f y25, pif_t y36]) | (unfold ofP; rw [pif_f y3, pif_f y14, pif_f y25, pif_f y36]))
    · intro hq_17
      have y14 := IsR_1 hq_14 hq_17
      exact hQ _ (by first | (unfold ofP; rw [pif_t y3]) | (unfold ofP; rw [pif_f y3, pif_t y14]) | (unfold ofP; rw [pif_f y3, pif_f y14, pif_t y25]) | (unfold ofP; rw [pif_f y3, pif_f y14, pif_f y25, pif_t y36]) | (unfold ofP; rw [pif_f y3, pif_f y14, pif_f y25, pif_f y36]))
  · intro hq_6
    have y3 := IsR_1 hq_3 hq_6
    exact hQ _ (by first | (unfold ofP; rw [pif_t y3]) | (unfold ofP; rw [pif_f y3, pif_t y14]) | (unfold ofP; rw [pif_f y3, pif_f y14, pif_t y25]) | (unfold ofP; rw [pif_f y3, pif_f y14, pif_f y25, pif_t y36]) | (unfold ofP; rw [pif_f y3, pif_f y14, pif_f y25, pif_f y36]))
