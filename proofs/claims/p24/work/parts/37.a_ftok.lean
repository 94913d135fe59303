/-! words of the loops over tokens -/
def BAt (t : Nat → Int) (n a r : Int) : Prop := 0 ≤ a ∧ a < n → r = byt t a
theorem BAt_e {t : Nat → Int} {n a r : Int} (h : BAt t n a r) (hq_0 : 0 ≤ a) (hq_1 : a < n) : r = byt t a := h ⟨hq_0, hq_1⟩
def RunA (P : Int → Prop) (t : Nat → Int) (p q : Int) : Prop := ∀ i : Int, p ≤ i → i < q → P (byt t i)
theorem RunA_0 {P : Int → Prop} {t : Nat → Int} {p : Int} : RunA P t p p := fun i a b => by omega
theorem RunA_1 {P : Int → Prop} {t : Nat → Int} {p q a : Int} (ha : a = byt t p) (hq : q = p + 1) (h : P a) : RunA P t p q := fun i b c => by
  rw [show i = p by omega, ← ha]; exact h
theorem RunA_s {P : Int → Prop} {t : Nat → Int} {p q q' r : Int} (h : RunA P t p q) (hq : q' = q + 1) (hr : r = byt t q) (hP : P r) : RunA P t p q' := fun i a b => by
  by_cases e : i = q
  · rw [e, ← hr]; exact hP
  · exact h i a (by omega)
theorem Run_o {P : Int → Prop} {t : Nat → Int} {n p q : Int} (h : RunA P t p q) (hq_1 : p ≤ q) (hq_2 : q ≤ n) (hq_3 : q < n → ¬ P (byt t q)) : Run P t n p q := ⟨hq_1, hq_2, h, hq_3⟩
theorem dj9 {z : Int} {X Y : Prop} (h : z = 1 ∧ X ∨ z = 0 ∧ Y) (hq_0 : ¬ z = 0) : X := by
  rcases h with ⟨-, h⟩ | ⟨h, -⟩
  · exact h
  · exact absurd h hq_0
theorem dj8 {P : Int → Prop} {t : Nat → Int} {z r q : Int} (h : z = 1 ∧ P r ∨ z = 0 ∧ ¬ P r) (hq_0 : z = 0) (hr : r = byt t q) : ¬ P (byt t q) := by
  rcases h with ⟨h, -⟩ | ⟨-, h⟩
  · exact absurd (h.symm.trans hq_0) (by decide)
  · rw [← hr]; exact h
def NumD (t : Nat → Int) (b e v : Int) : Prop := (e = b + 1 → v = byt t b - 48) ∧ (e = b + 2 → v = 10 * (byt t b - 48) + (byt t (b + 1) - 48)) ∧ 0 ≤ v ∧ v ≤ 1000
theorem NumD_r {t : Nat → Int} {b e v : Int} (h : NumD t b e v) : 0 ≤ v ∧ v ≤ 1000 := h.2.2
theorem NumD_1 {t : Nat → Int} {b e a v : Int} (ha : a = byt t b) (he : e = b + 1) (hv : v = a - 48) (hr : 48 ≤ a ∧ a ≤ 57) : NumD t b e v := by
  refine ⟨fun _ => by rw [hv, ha], fun h => by omega, by omega, by omega⟩
theorem NumD_s {t : Nat → Int} {b e e' v v' r : Int} (h : NumD t b e v) (hb : RunA isD t b e) (he : b < e) (he' : e' = e + 1) (hr : r = byt t e) (hd : 48 ≤ r ∧ r ≤ 57) (hv : v' = 10 * v + r - 48 ∧ 10 * v + r - 48 ≤ 1000 ∨ v' = 1000 ∧ 1000 < 10 * v + r - 48) : NumD t b e' v' := by
  obtain ⟨hq_1, hq_2, hq_3, hq_4⟩ := h
  refine ⟨fun hq_9 => by omega, fun hq_9 => ?_, by omega, by omega⟩
  have e1 : e = b + 1 := by omega
  have hq_5 := hq_1 e1
  have hq_6 : 48 ≤ byt t b ∧ byt t b ≤ 57 := hb b (Int.le_refl b) he
  rw [e1] at hr
  omega
/-- the class's token: where it begins and ends, its kind, its number -/
def AdvR (t : Nat → Int) (n p b e k v : Int) : Prop := b = tB t n p ∧ e = tE t n p ∧ k = tK t n p ∧ (k = 2 → v = tV t n p)
theorem NoS {t : Nat → Int} {q r1 r2 : Int} (hq_1 : ¬ r1 = 10) (hq_2 : ¬ r2 = 32) (e1 : r1 = byt t q) (e2 : r2 = byt t q) : ¬ isS (byt t q) := by
  rintro (h | h)
  · exact hq_1 (e1.trans h)
  · exact hq_2 (e2.trans h)
theorem AdvE {t : Nat → Int} {n p b v : Int} (h : Run isS t n p b) (hn : ¬ b < n) : AdvR t n p b b 0 v := by
  have hb : tB t n p = b := rn_eq h
  refine ⟨hb.symm, ?_, ?_, fun hq_9 => absurd hq_9 (by decide)⟩
  · unfold tE; rw [hb, if_neg hn]
  · unfold tK; rw [hb, if_neg hn]
theorem AdvW {t : Nat → Int} {n p b e v : Int} (hb : b = tB t n p) (hn : b < n) (hl : isL (byt t b)) (hr : Run isL t n b e) : AdvR t n p b e 1 v := by
  refine ⟨hb, ?_, ?_, fun hq_9 => absurd hq_9 (by decide)⟩
  · unfold tE; rw [← hb, if_pos hn, if_pos hl, rn_eq hr]
  · unfold tK; rw [← hb, if_pos hn, if_pos hl]
theorem AdvD {t : Nat → Int} {n p b e k v : Int} (hb : b = tB t n p) (hn : b < n) (hd : isD (byt t b)) (hr : Run isD t n b e) (hk : e - b ≤ 2 ∧ k = 2 ∨ 2 < e - b ∧ k = 4) (hv : NumD t b e v) : AdvR t n p b e k v := by
  have hl : ¬ isL (byt t b) := fun h => by omega
  have hE : tE t n p = e := by unfold tE; rw [← hb, if_pos hn, if_neg hl, if_pos hd, rn_eq hr]
  have hlt : b < e := by
    by_cases c : b < e
    · exact c
    · have e1 : e = b := by have := hr.1; omega
      have hq_4 := hr.2.2.2
      rw [e1] at hq_4
      exact absurd hd (hq_4 hn)
  refine ⟨hb, hE.symm, ?_, fun hq_9 => ?_⟩
  · unfold tK
    rw [hE, ← hb, if_pos hn, if_neg hl, if_pos hd]
    rcases hk with ⟨hq_1, hq_2⟩ | ⟨hq_1, hq_2⟩
    · rw [if_pos hq_1, hq_2]
    · rw [if_neg (by omega), hq_2]
  · have hq_2 : e - b ≤ 2 := by omega
    unfold tV
    rw [hE, ← hb]
    by_cases c : e = b + 1
    · rw [if_pos c]; exact hv.1 c
    · rw [if_neg c]; exact hv.2.1 (by omega)
theorem AdvS {t : Nat → Int} {n p b e k v : Int} (hb : b = tB t n p) (hn : b < n) (hl : ¬ isL (byt t b)) (hd : ¬ isD (byt t b)) (he : e = b + 1) (hk : byt t b = 59 ∧ k = 3 ∨ ¬ byt t b = 59 ∧ k = 4) : AdvR t n p b e k v := by
  refine ⟨hb, ?_, ?_, fun hq_9 => by omega⟩
  · unfold tE; rw [← hb, if_pos hn, if_neg hl, if_neg hd, he]
  · unfold tK
    rw [← hb, if_pos hn, if_neg hl, if_neg hd]
    rcases hk with ⟨hq_1, hq_2⟩ | ⟨hq_1, hq_2⟩
    · rw [if_pos hq_1, hq_2]
    · rw [if_neg hq_1, hq_2]

theorem dF6_byteAt_0 : decode cX6_byteAt 0 = .ok (.iload_n 1, 1) := by decide +kernel
theorem dF6_byteAt_1 : decode cX6_byteAt 1 = .ok (.ifCond .lt 33, 3) := by decide +kernel
theorem dF6_byteAt_4 : decode cX6_byteAt 4 = .ok (.iload_n 1, 1) := by decide +kernel
theorem dF6_byteAt_5 : decode cX6_byteAt 5 = .ok (.aload_n 0, 1) := by decide +kernel
theorem dF6_byteAt_6 : decode cX6_byteAt 6 = .ok (.getfield 51, 3) := by decide +kernel
theorem dF6_byteAt_9 : decode cX6_byteAt 9 = .ok (.if_icmp .ge 25, 3) := by decide +kernel
theorem dF6_byteAt_12 : decode cX6_byteAt 12 = .ok (.iload_n 1, 1) := by decide +kernel
theorem dF6_byteAt_13 : decode cX6_byteAt 13 = .ok (.aload_n 0, 1) := by decide +kernel
theorem dF6_byteAt_14 : decode cX6_byteAt 14 = .ok (.getfield 43, 3) := by decide +kernel
theorem dF6_byteAt_17 : decode cX6_byteAt 17 = .ok (.arraylength, 1) := by decide +kernel
theorem dF6_byteAt_18 : decode cX6_byteAt 18 = .ok (.if_icmp .ge 16, 3) := by decide +kernel
theorem dF6_byteAt_21 : decode cX6_byteAt 21 = .ok (.aload_n 0, 1) := by decide +kernel
theorem dF6_byteAt_22 : decode cX6_byteAt 22 = .ok (.getfield 43, 3) := by decide +kernel
theorem dF6_byteAt_25 : decode cX6_byteAt 25 = .ok (.iload_n 1, 1) := by decide +kernel
theorem dF6_byteAt_26 : decode cX6_byteAt 26 = .ok (.baload, 1) := by decide +kernel
theorem dF6_byteAt_27 : decode cX6_byteAt 27 = .ok (.sipush 255, 3) := by decide +kernel
theorem dF6_byteAt_30 : decode cX6_byteAt 30 = .ok (.iand, 1) := by decide +kernel
theorem dF6_byteAt_31 : decode cX6_byteAt 31 = .ok (.goto 4, 3) := by decide +kernel
theorem dF6_byteAt_34 : decode cX6_byteAt 34 = .ok (.iconst 0, 1) := by decide +kernel
theorem dF6_byteAt_35 : decode cX6_byteAt 35 = .ok (.ireturn, 1) := by decide +kernel
def is_F6_byteAt : Nat → List Nat := fun d => []
set_option maxRecDepth 100000 in
def b_F6_byteAt_35 (J : Nat → List qV → List qV → qW → Prop) (Q : qR) : qK := x_iret Q
set_option maxRecDepth 100000 in
theorem s_F6_byteAt_35 {p : Program} {l : Launch} {e : Env} {R : Room} {s : State} {m : MethodId} {args : Array Value} {below : List Frame} {meth : Method} {c : Code} {nW : Nat} {dC : Nat → ClassId} {dI : Nat → Nat → Nat} {k : Nat → ClassId} {g : Nat → Nat} {A : Nat → Prop} {J : Nat → List qV → List qV → qW → Prop} {Q : qR} (X : q_X p R s m args meth c cX6_byteAt 2 nW 0 0 RX6 (some .int) dC dI k g A) (hJ : ∀ d : Nat, q_Sd p l e R s m args below meth c 2 nW dC dI k g A (MQ below (q_post (dC, dI) k g nW Q A) args s 0 0 A) d (x_cut (is_F6_byteAt d) (J d))) : q_Sd p l e R s m args below meth c 2 nW dC dI k g A (MQ below (q_post (dC, dI) k g nW Q A) args s 0 0 A) 35 (b_F6_byteAt_35 J Q) := by
  unfold b_F6_byteAt_35
  exact s_iret X dF6_byteAt_35
set_option maxRecDepth 100000 in
def b_F6_byteAt_34 (J : Nat → List qV → List qV → qW → Prop) (Q : qR) : qK := x_int 0 (b_F6_byteAt_35 J Q)
set_option maxRecDepth 100000 in
theorem s_F6_byteAt_34 {p : Program} {l : Launch} {e : Env} {R : Room} {s : State} {m : MethodId} {args : Array Value} {below : List Frame} {meth : Method} {c : Code} {nW : Nat} {dC : Nat → ClassId} {dI : Nat → Nat → Nat} {k : Nat → ClassId} {g : Nat → Nat} {A : Nat → Prop} {J : Nat → List qV → List qV → qW → Prop} {Q : qR} (X : q_X p R s m args meth c cX6_byteAt 2 nW 0 0 RX6 (some .int) dC dI k g A) (hJ : ∀ d : Nat, q_Sd p l e R s m args below meth c 2 nW dC dI k g A (MQ below (q_post (dC, dI) k g nW Q A) args s 0 0 A) d (x_cut (is_F6_byteAt d) (J d))) : q_Sd p l e R s m args below meth c 2 nW dC dI k g A (MQ below (q_post (dC, dI) k g nW Q A) args s 0 0 A) 34 (b_F6_byteAt_34 J Q) := by
  unfold b_F6_byteAt_34
  refine s_iconst X ⟨by decide, by decide⟩ dF6_byteAt_34 ?_
  exact s_F6_byteAt_35 X hJ
set_option maxRecDepth 100000 in
def b_F6_byteAt_0 (J : Nat → List qV → List qV → qW → Prop) (Q : qR) : qK := x_iload 1 (x_if_lt (b_F6_byteAt_34 J Q) (x_iload 1 (x_aload 0 (x_get 6 6 (x_icmp_ge (b_F6_byteAt_34 J Q) (x_iload 1 (x_aload 0 (x_get 6 5 (x_alen (x_icmp_ge (b_F6_byteAt_34 J Q) (x_aload 0 (x_get 6 5 (x_iload 1 (x_bald (x_int 255 (x_iand (b_F6_byteAt_35 J Q)))))))))))))))))
set_option maxRecDepth 100000 in
theorem s_F6_byteAt_0 {p : Program} {l : Launch} {e : Env} {R : Room} {s : State} {m : MethodId} {args : Array Value} {below : List Frame} {meth : Method} {c : Code} {nW : Nat} {dC : Nat → ClassId} {dI : Nat → Nat → Nat} {k : Nat → ClassId} {g : Nat → Nat} {A : Nat → Prop} {J : Nat → List qV → List qV → qW → Prop} {Q : qR} (X : q_X p R s m args meth c cX6_byteAt 2 nW 0 0 RX6 (some .int) dC dI k g A) (hJ : ∀ d : Nat, q_Sd p l e R s m args below meth c 2 nW dC dI k g A (MQ below (q_post (dC, dI) k g nW Q A) args s 0 0 A) d (x_cut (is_F6_byteAt d) (J d))) : q_Sd p l e R s m args below meth c 2 nW dC dI k g A (MQ below (q_post (dC, dI) k g nW Q A) args s 0 0 A) 0 (b_F6_byteAt_0 J Q) := by
  unfold b_F6_byteAt_0
  refine s_iload_n X rfl dF6_byteAt_0 ?_
  refine s_if_lt X (tgt := 34) dF6_byteAt_1 (by decide) ?_ ?_
  · exact s_F6_byteAt_34 X hJ
  · refine s_iload_n X rfl dF6_byteAt_4 ?_
    refine s_aload_n X rfl dF6_byteAt_5 ?_
    refine s_get X (T := TX6) (C := RX6) (N := 15) tu_X6 rfl (by decide) tw_277 dF6_byteAt_6 ?_
    refine s_icmp_ge X (tgt := 34) dF6_byteAt_9 (by decide) ?_ ?_
    · exact s_F6_byteAt_34 X hJ
    · refine s_iload_n X rfl dF6_byteAt_12 ?_
      refine s_aload_n X rfl dF6_byteAt_13 ?_
      refine s_get X (T := TX6) (C := RX6) (N := 15) tu_X6 rfl (by decide) tw_276 dF6_byteAt_14 ?_
      refine s_alen X dF6_byteAt_17 ?_
      refine s_icmp_ge X (tgt := 34) dF6_byteAt_18 (by decide) ?_ ?_
      · exact s_F6_byteAt_34 X hJ
      · refine s_aload_n X rfl dF6_byteAt_21 ?_
        refine s_get X (T := TX6) (C := RX6) (N := 15) tu_X6 rfl (by decide) tw_276 dF6_byteAt_22 ?_
        refine s_iload_n X rfl dF6_byteAt_25 ?_
        refine s_bald X dF6_byteAt_26 ?_
        refine s_sipush X ⟨by decide, by decide⟩ (by decide) dF6_byteAt_27 ?_
        refine s_iand X dF6_byteAt_30 ?_
        refine s_goto X (tgt := 35) dF6_byteAt_31 (by decide) ?_
        exact s_F6_byteAt_35 X hJ

def spr_F6_byteAt : List qV → qW → (Option qV → Prop) → Prop := fun av w Q => ∃ (rln : Int) (rfa : Int) (rpl : Int) (rst : Int) (rnx : Int) (rtk : Int) (rnm : Int) (rnp : Int) (rnd : Int) (tp : Nat → Int) (a : Int), av = [q2 0, q1 a] ∧ w = [.inr (6, [q2 2, q2 3, q2 4, q2 5, q2 6, q2 1, q1 rln, q1 rfa, q1 rpl, q1 rst, q1 rnx, q1 rtk, q1 rnm, q1 rnp, q1 rnd]), .inl (1, 600, .inl tp)] ∧ (rln ≤ 600) ∧ (∀ (r : Int) , (BAt (tc tp) rln a r ∧ (0 ≤ r ∧ r ≤ 255)) → Q (some (q1 r)))
def sp_F6_byteAt : qS := fun av w Q => spr_F6_byteAt av w (fun r => Q r w)
set_option maxHeartbeats 4000000 in
set_option maxRecDepth 100000 in
theorem m_F6_byteAt (l : Launch) : q_M l yX6_byteAt cX6_byteAt 2 (some .int) 0 0 sp_F6_byteAt := by
  refine q_meth (by decide) (fun av w Q h => by obtain ⟨rln, rfa, rpl, rst, rnx, rtk, rnm, rnp, rnd, tp, a, rfl, rfl, hl9, hQ⟩ := h; exact Nat.le_of_ble_eq_true rfl) ?_
  intro p e R s m args below meth c dC dI k g A av w Q hsp oka okw X
  obtain ⟨rln, rfa, rpl, rst, rnx, rtk, rnm, rnp, rnd, tp, a, rfl, rfl, hl9, hQ⟩ := hsp
  have o_a : -2147483648 ≤ a ∧ a ≤ 2147483647 := oka _ (List.mem_of_getElem? (i := 1) rfl)
  refine s_mono (s_F6_byteAt_0 X (J := fun _ _ _ _ => False) (fun d => s_cutF)) ?_
  rintro lv st w' ⟨rfl, rfl, rfl⟩
  apply And.intro
  · intro hq_1
    exact hQ _ (by first | exact ⟨fun _ => (by rw [hq_30, hq_26, byt_tc (by omega)]), k30⟩ | exact ⟨fun hq_9 => (by omega), (by decide)⟩)
  · intro hq_1
    apply And.intro
    · intro hq_9
      exact hQ _ (by first | exact ⟨fun _ => (by rw [hq_30, hq_26, byt_tc (by omega)]), k30⟩ | exact ⟨fun hq_9 => (by omega), (by decide)⟩)
    · intro hq_9
      apply And.intro
      · omega
      apply And.intro
      · intro hq_18
        exact hQ _ (by first | exact ⟨fun _ => (by rw [hq_30, hq_26, byt_tc (by omega)]), k30⟩ | exact ⟨fun hq_9 => (by omega), (by decide)⟩)
      · intro hq_18
        apply And.intro
        · exact ⟨by omega, by omega⟩
        intro zq_26 hq_26
        intro zq_30 hq_30
        have k30 := e_and255 hq_30
        exact hQ _ (by first | exact ⟨fun _ => (by rw [hq_30, hq_26, byt_tc (by omega)]), k30⟩ | exact ⟨fun hq_9 => (by omega), (by decide)⟩)

theorem dF6_isLetter_0 : decode cX6_isLetter 0 = .ok (.iload_n 0, 1) := by decide +kernel
theorem dF6_isLetter_1 : decode cX6_isLetter 1 = .ok (.bipush 97, 2) := by decide +kernel
theorem dF6_isLetter_3 : decode cX6_isLetter 3 = .ok (.if_icmp .lt 13, 3) := by decide +kernel
theorem dF6_isLetter_6 : decode cX6_isLetter 6 = .ok (.iload_n 0, 1) := by decide +kernel
theorem dF6_isLetter_7 : decode cX6_isLetter 7 = .ok (.bipush 122, 2) := by decide +kernel
theorem dF6_isLetter_9 : decode cX6_isLetter 9 = .ok (.if_icmp .gt 7, 3) := by decide +kernel
theorem dF6_isLetter_12 : decode cX6_isLetter 12 = .ok (.iconst 1, 1) := by decide +kernel
theorem dF6_isLetter_13 : decode cX6_isLetter 13 = .ok (.goto 4, 3) := by decide +kernel
theorem dF6_isLetter_16 : decode cX6_isLetter 16 = .ok (.iconst 0, 1) := by decide +kernel
theorem dF6_isLetter_17 : decode cX6_isLetter 17 = .ok (.ireturn, 1) := by decide +kernel
def is_F6_isLetter : Nat → List Nat := fun d => []
set_option maxRecDepth 100000 in
def b_F6_isLetter_17 (J : Nat → List qV → List qV → qW → Prop) (Q : qR) : qK := x_zret Q
set_option maxRecDepth 100000 in
theorem s_F6_isLetter_17 {p : Program} {l : Launch} {e : Env} {R : Room} {s : State} {m : MethodId} {args : Array Value} {below : List Frame} {meth : Method} {c : Code} {nW : Nat} {dC : Nat → ClassId} {dI : Nat → Nat → Nat} {k : Nat → ClassId} {g : Nat → Nat} {A : Nat → Prop} {J : Nat → List qV → List qV → qW → Prop} {Q : qR} (X : q_X p R s m args meth c cX6_isLetter 1 nW 0 0 RX6 (some .boolean) dC dI k g A) (hJ : ∀ d : Nat, q_Sd p l e R s m args below meth c 1 nW dC dI k g A (MQ below (q_post (dC, dI) k g nW Q A) args s 0 0 A) d (x_cut (is_F6_isLetter d) (J d))) : q_Sd p l e R s m args below meth c 1 nW dC dI k g A (MQ below (q_post (dC, dI) k g nW Q A) args s 0 0 A) 17 (b_F6_isLetter_17 J Q) := by
  unfold b_F6_isLetter_17
  exact s_zret X dF6_isLetter_17
set_option maxRecDepth 100000 in
def b_F6_isLetter_16 (J : Nat → List qV → List qV → qW → Prop) (Q : qR) : qK := x_int 0 (b_F6_isLetter_17 J Q)
set_option maxRecDepth 100000 in
theorem s_F6_isLetter_16 {p : Program} {l : Launch} {e : Env} {R : Room} {s : State} {m : MethodId} {args : Array Value} {below : List Frame} {meth : Method} {c : Code} {nW : Nat} {dC : Nat → ClassId} {dI : Nat → Nat → Nat} {k : Nat → ClassId} {g : Nat → Nat} {A : Nat → Prop} {J : Nat → List qV → List qV → qW → Prop} {Q : qR} (X : q_X p R s m args meth c cX6_isLetter 1 nW 0 0 RX6 (some .boolean) dC dI k g A) (hJ : ∀ d : Nat, q_Sd p l e R s m args below meth c 1 nW dC dI k g A (MQ below (q_post (dC, dI) k g nW Q A) args s 0 0 A) d (x_cut (is_F6_isLetter d) (J d))) : q_Sd p l e R s m args below meth c 1 nW dC dI k g A (MQ below (q_post (dC, dI) k g nW Q A) args s 0 0 A) 16 (b_F6_isLetter_16 J Q) := by
  unfold b_F6_isLetter_16
  refine s_iconst X ⟨by decide, by decide⟩ dF6_isLetter_16 ?_
  exact s_F6_isLetter_17 X hJ
set_option maxRecDepth 100000 in
def b_F6_isLetter_0 (J : Nat → List qV → List qV → qW → Prop) (Q : qR) : qK := x_iload 0 (x_int 97 (x_icmp_lt (b_F6_isLetter_16 J Q) (x_iload 0 (x_int 122 (x_icmp_gt (b_F6_isLetter_16 J Q) (x_int 1 (b_F6_isLetter_17 J Q)))))))
set_option maxRecDepth 100000 in
theorem s_F6_isLetter_0 {p : Program} {l : Launch} {e : Env} {R : Room} {s : State} {m : MethodId} {args : Array Value} {below : List Frame} {meth : Method} {c : Code} {nW : Nat} {dC : Nat → ClassId} {dI : Nat → Nat → Nat} {k : Nat → ClassId} {g : Nat → Nat} {A : Nat → Prop} {J : Nat → List qV → List qV → qW → Prop} {Q : qR} (X : q_X p R s m args meth c cX6_isLetter 1 nW 0 0 RX6 (some .boolean) dC dI k g A) (hJ : ∀ d : Nat, q_Sd p l e R s m args below meth c 1 nW dC dI k g A (MQ below (q_post (dC, dI) k g nW Q A) args s 0 0 A) d (x_cut (is_F6_isLetter d) (J d))) : q_Sd p l e R s m args below meth c 1 nW dC dI k g A (MQ below (q_post (dC, dI) k g nW Q A) args s 0 0 A) 0 (b_F6_isLetter_0 J Q) := by
  unfold b_F6_isLetter_0
  refine s_iload_n X rfl dF6_isLetter_0 ?_
  refine s_bipush X ⟨by decide, by decide⟩ (by decide) dF6_isLetter_1 ?_
  refine s_icmp_lt X (tgt := 16) dF6_isLetter_3 (by decide) ?_ ?_
  · exact s_F6_isLetter_16 X hJ
  · refine s_iload_n X rfl dF6_isLetter_6 ?_
    refine s_bipush X ⟨by decide, by decide⟩ (by decide) dF6_isLetter_7 ?_
    refine s_icmp_gt X (tgt := 16) dF6_isLetter_9 (by decide) ?_ ?_
    · exact s_F6_isLetter_16 X hJ
    · refine s_iconst X ⟨by decide, by decide⟩ dF6_isLetter_12 ?_
      refine s_goto X (tgt := 17) dF6_isLetter_13 (by decide) ?_
      exact s_F6_isLetter_17 X hJ

def spr_F6_isLetter : List qV → qW → (Option qV → Prop) → Prop := fun av w Q => ∃ (a : Int), av = [q1 a] ∧ w = [] ∧ (∀ (r : Int) , (r = 1 ∧ (97 ≤ a ∧ a ≤ 122) ∨ r = 0 ∧ ¬ (97 ≤ a ∧ a ≤ 122)) → Q (some (q1 r)))
def sp_F6_isLetter : qS := fun av w Q => spr_F6_isLetter av w (fun r => Q r w)
set_option maxHeartbeats 4000000 in
set_option maxRecDepth 100000 in
theorem m_F6_isLetter (l : Launch) : q_M l yX6_isLetter cX6_isLetter 1 (some .boolean) 0 0 sp_F6_isLetter := by
  refine q_meth (by decide) (fun av w Q h => by obtain ⟨a, rfl, rfl, hQ⟩ := h; exact Nat.le_of_ble_eq_true rfl) ?_
  intro p e R s m args below meth c dC dI k g A av w Q hsp oka okw X
  obtain ⟨a, rfl, rfl, hQ⟩ := hsp
  have o_a : -2147483648 ≤ a ∧ a ≤ 2147483647 := oka _ (List.mem_of_getElem? (i := 0) rfl)
  refine s_mono (s_F6_isLetter_0 X (J := fun _ _ _ _ => False) (fun d => s_cutF)) ?_
  rintro lv st w' ⟨rfl, rfl, rfl⟩
  apply And.intro
  · intro hq_3
    apply And.intro
    · first | exact Or.inl rfl | exact Or.inr rfl | omega
    exact hQ _ (by first | assumption | exact q_rg_up (by assumption) (by omega) | exact q_rg_up (q_rg_up (by assumption) (by omega)) (by omega) | exact q_rg_cpy (by assumption) (by assumption) | omega)
  · intro hq_3
    apply And.intro
    · intro hq_9
      apply And.intro
      · first | exact Or.inl rfl | exact Or.inr rfl | omega
      exact hQ _ (by first | assumption | exact q_rg_up (by assumption) (by omega) | exact q_rg_up (q_rg_up (by assumption) (by omega)) (by omega) | exact q_rg_cpy (by assumption) (by assumption) | omega)
    · intro hq_9
      apply And.intro
      · first | exact Or.inl rfl | exact Or.inr rfl | omega
      exact hQ _ (by first | assumption | exact q_rg_up (by assumption) (by omega) | exact q_rg_up (q_rg_up (by assumption) (by omega)) (by omega) | exact q_rg_cpy (by assumption) (by assumption) | omega)

theorem dF6_isDigit_0 : decode cX6_isDigit 0 = .ok (.iload_n 0, 1) := by decide +kernel
theorem dF6_isDigit_1 : decode cX6_isDigit 1 = .ok (.bipush 48, 2) := by decide +kernel
theorem dF6_isDigit_3 : decode cX6_isDigit 3 = .ok (.if_icmp .lt 13, 3) := by decide +kernel
theorem dF6_isDigit_6 : decode cX6_isDigit 6 = .ok (.iload_n 0, 1) := by decide +kernel
theorem dF6_isDigit_7 : decode cX6_isDigit 7 = .ok (.bipush 57, 2) := by decide +kernel
theorem dF6_isDigit_9 : decode cX6_isDigit 9 = .ok (.if_icmp .gt 7, 3) := by decide +kernel
theorem dF6_isDigit_12 : decode cX6_isDigit 12 = .ok (.iconst 1, 1) := by decide +kernel
theorem dF6_isDigit_13 : decode cX6_isDigit 13 = .ok (.goto 4, 3) := by decide +kernel
theorem dF6_isDigit_16 : decode cX6_isDigit 16 = .ok (.iconst 0, 1) := by decide +kernel
theorem dF6_isDigit_17 : decode cX6_isDigit 17 = .ok (.ireturn, 1) := by decide +kernel
def is_F6_isDigit : Nat → List Nat := fun d => []
set_option maxRecDepth 100000 in
def b_F6_isDigit_17 (J : Nat → List qV → List qV → qW → Prop) (Q : qR) : qK := x_zret Q
set_option maxRecDepth 100000 in
theorem s_F6_isDigit_17 {p : Program} {l : Launch} {e : Env} {R : Room} {s : State} {m : MethodId} {args : Array Value} {below : List Frame} {meth : Method} {c : Code} {nW : Nat} {dC : Nat → ClassId} {dI : Nat → Nat → Nat} {k : Nat → ClassId} {g : Nat → Nat} {A : Nat → Prop} {J : Nat → List qV → List qV → qW → Prop} {Q : qR} (X : q_X p R s m args meth c cX6_isDigit 1 nW 0 0 RX6 (some .boolean) dC dI k g A) (hJ : ∀ d : Nat, q_Sd p l e R s m args below meth c 1 nW dC dI k g A (MQ below (q_post (dC, dI) k g nW Q A) args s 0 0 A) d (x_cut (is_F6_isDigit d) (J d))) : q_Sd p l e R s m args below meth c 1 nW dC dI k g A (MQ below (q_post (dC, dI) k g nW Q A) args s 0 0 A) 17 (b_F6_isDigit_17 J Q) := by
  unfold b_F6_isDigit_17
  exact s_zret X dF6_isDigit_17
set_option maxRecDepth 100000 in
def b_F6_isDigit_16 (J : Nat → List qV → List qV → qW → Prop) (Q : qR) : qK := x_int 0 (b_F6_isDigit_17 J Q)
set_option maxRecDepth 100000 in
theorem s_F6_isDigit_16 {p : Program} {l : Launch} {e : Env} {R : Room} {s : State} {m : MethodId} {args : Array Value} {below : List Frame} {meth : Method} {c : Code} {nW : Nat} {dC : Nat → ClassId} {dI : Nat → Nat → Nat} {k : Nat → ClassId} {g : Nat → Nat} {A : Nat → Prop} {J : Nat → List qV → List qV → qW → Prop} {Q : qR} (X : q_X p R s m args meth c cX6_isDigit 1 nW 0 0 RX6 (some .boolean) dC dI k g A) (hJ : ∀ d : Nat, q_Sd p l e R s m args below meth c 1 nW dC dI k g A (MQ below (q_post (dC, dI) k g nW Q A) args s 0 0 A) d (x_cut (is_F6_isDigit d) (J d))) : q_Sd p l e R s m args below meth c 1 nW dC dI k g A (MQ below (q_post (dC, dI) k g nW Q A) args s 0 0 A) 16 (b_F6_isDigit_16 J Q) := by
  unfold b_F6_isDigit_16
  refine s_iconst X ⟨by decide, by decide⟩ dF6_isDigit_16 ?_
  exact s_F6_isDigit_17 X hJ
set_option maxRecDepth 100000 in
def b_F6_isDigit_0 (J : Nat → List qV → List qV → qW → Prop) (Q : qR) : qK := x_iload 0 (x_int 48 (x_icmp_lt (b_F6_isDigit_16 J Q) (x_iload 0 (x_int 57 (x_icmp_gt (b_F6_isDigit_16 J Q) (x_int 1 (b_F6_isDigit_17 J Q)))))))
set_option maxRecDepth 100000 in
theorem s_F6_isDigit_0 {p : Program} {l : Launch} {e : Env} {R : Room} {s : State} {m : MethodId} {args : Array Value} {below : List Frame} {meth : Method} {c : Code} {nW : Nat} {dC : Nat → ClassId} {dI : Nat → Nat → Nat} {k : Nat → ClassId} {g : Nat → Nat} {A : Nat → Prop} {J : Nat → List qV → List qV → qW → Prop} {Q : qR} (X : q_X p R s m args meth c cX6_isDigit 1 nW 0 0 RX6 (some .boolean) dC dI k g A) (hJ : ∀ d : Nat, q_Sd p l e R s m args below meth c 1 nW dC dI k g A (MQ below (q_post (dC, dI) k g nW Q A) args s 0 0 A) d (x_cut (is_F6_isDigit d) (J d))) : q_Sd p l e R s m args below meth c 1 nW dC dI k g A (MQ below (q_post (dC, dI) k g nW Q A) args s 0 0 A) 0 (b_F6_isDigit_0 J Q) := by
  unfold b_F6_isDigit_0
  refine s_iload_n X rfl dF6_isDigit_0 ?_
  refine s_bipush X ⟨by decide, by decide⟩ (by decide) dF6_isDigit_1 ?_
  refine s_icmp_lt X (tgt := 16) dF6_isDigit_3 (by decide) ?_ ?_
  · exact s_F6_isDigit_16 X hJ
  · refine s_iload_n X rfl dF6_isDigit_6 ?_
    refine s_bipush X ⟨by decide, by decide⟩ (by decide) dF6_isDigit_7 ?_
    refine s_icmp_gt X (tgt := 16) dF6_isDigit_9 (by decide) ?_ ?_
    · exact s_F6_isDigit_16 X hJ
    · refine s_iconst X ⟨by decide, by decide⟩ dF6_isDigit_12 ?_
      refine s_goto X (tgt := 17) dF6_isDigit_13 (by decide) ?_
      exact s_F6_isDigit_17 X hJ

def spr_F6_isDigit : List qV → qW → (Option qV → Prop) → Prop := fun av w Q => ∃ (a : Int), av = [q1 a] ∧ w = [] ∧ (∀ (r : Int) , (r = 1 ∧ (48 ≤ a ∧ a ≤ 57) ∨ r = 0 ∧ ¬ (48 ≤ a ∧ a ≤ 57)) → Q (some (q1 r)))
def sp_F6_isDigit : qS := fun av w Q => spr_F6_isDigit av w (fun r => Q r w)
set_option maxHeartbeats 4000000 in
set_option maxRecDepth 100000 in
theorem m_F6_isDigit (l : Launch) : q_M l yX6_isDigit cX6_isDigit 1 (some .boolean) 0 0 sp_F6_isDigit := by
  refine q_meth (by decide) (fun av w Q h => by obtain ⟨a, rfl, rfl, hQ⟩ := h; exact Nat.le_of_ble_eq_true rfl) ?_
  intro p e R s m args below meth c dC dI k g A av w Q hsp oka okw X
  obtain ⟨a, rfl, rfl, hQ⟩ := hsp
  have o_a : -2147483648 ≤ a ∧ a ≤ 2147483647 := oka _ (List.mem_of_getElem? (i := 0) rfl)
  refine s_mono (s_F6_isDigit_0 X (J := fun _ _ _ _ => False) (fun d => s_cutF)) ?_
  rintro lv st w' ⟨rfl, rfl, rfl⟩
  apply And.intro
  · intro hq_3
    apply And.intro
    · first | exact Or.inl rfl | exact Or.inr rfl | omega
    exact hQ _ (by first | assumption | exact q_rg_up (by assumption) (by omega) | exact q_rg_up (q_rg_up (by assumption) (by omega)) (by omega) | exact q_rg_cpy (by assumption) (by assumption) | omega)
  · intro hq_3
    apply And.intro
    · intro hq_9
      apply And.intro
      · first | exact Or.inl rfl | exact Or.inr rfl | omega
      exact hQ _ (by first | assumption | exact q_rg_up (by assumption) (by omega) | exact q_rg_up (q_rg_up (by assumption) (by omega)) (by omega) | exact q_rg_cpy (by assumption) (by assumption) | omega)
    · intro hq_9
      apply And.intro
      · first | exact Or.inl rfl | exact Or.inr rfl | omega
      exact hQ _ (by first | assumption | exact q_rg_up (by assumption) (by omega) | exact q_rg_up (q_rg_up (by assumption) (by omega)) (by omega) | exact q_rg_cpy (by assumption) (by assumption) | omega)

theorem dF6_takeDigits_0 : decode cX6_takeDigits 0 = .ok (.aload_n 0, 1) := by decide +kernel
theorem dF6_takeDigits_1 : decode cX6_takeDigits 1 = .ok (.iload_n 1, 1) := by decide +kernel
theorem dF6_takeDigits_2 : decode cX6_takeDigits 2 = .ok (.bipush 48, 2) := by decide +kernel
theorem dF6_takeDigits_4 : decode cX6_takeDigits 4 = .ok (.isub, 1) := by decide +kernel
theorem dF6_takeDigits_5 : decode cX6_takeDigits 5 = .ok (.putfield 130, 3) := by decide +kernel
theorem dF6_takeDigits_8 : decode cX6_takeDigits 8 = .ok (.aload_n 0, 1) := by decide +kernel
theorem dF6_takeDigits_9 : decode cX6_takeDigits 9 = .ok (.getfield 94, 3) := by decide +kernel
theorem dF6_takeDigits_12 : decode cX6_takeDigits 12 = .ok (.aload_n 0, 1) := by decide +kernel
theorem dF6_takeDigits_13 : decode cX6_takeDigits 13 = .ok (.getfield 51, 3) := by decide +kernel
theorem dF6_takeDigits_16 : decode cX6_takeDigits 16 = .ok (.if_icmp .ge 59, 3) := by decide +kernel
theorem dF6_takeDigits_19 : decode cX6_takeDigits 19 = .ok (.aload_n 0, 1) := by decide +kernel
theorem dF6_takeDigits_20 : decode cX6_takeDigits 20 = .ok (.aload_n 0, 1) := by decide +kernel
theorem dF6_takeDigits_21 : decode cX6_takeDigits 21 = .ok (.getfield 94, 3) := by decide +kernel
theorem dF6_takeDigits_24 : decode cX6_takeDigits 24 = .ok (.invokevirtual 117, 3) := by decide +kernel
theorem dF6_takeDigits_27 : decode cX6_takeDigits 27 = .ok (.invokestatic 124, 3) := by decide +kernel
theorem dF6_takeDigits_30 : decode cX6_takeDigits 30 = .ok (.ifCond .eq 45, 3) := by decide +kernel
theorem dF6_takeDigits_33 : decode cX6_takeDigits 33 = .ok (.aload_n 0, 1) := by decide +kernel
theorem dF6_takeDigits_34 : decode cX6_takeDigits 34 = .ok (.bipush 10, 2) := by decide +kernel
theorem dF6_takeDigits_36 : decode cX6_takeDigits 36 = .ok (.aload_n 0, 1) := by decide +kernel
theorem dF6_takeDigits_37 : decode cX6_takeDigits 37 = .ok (.getfield 130, 3) := by decide +kernel
theorem dF6_takeDigits_40 : decode cX6_takeDigits 40 = .ok (.imul, 1) := by decide +kernel
theorem dF6_takeDigits_41 : decode cX6_takeDigits 41 = .ok (.aload_n 0, 1) := by decide +kernel
theorem dF6_takeDigits_42 : decode cX6_takeDigits 42 = .ok (.aload_n 0, 1) := by decide +kernel
theorem dF6_takeDigits_43 : decode cX6_takeDigits 43 = .ok (.getfield 94, 3) := by decide +kernel
theorem dF6_takeDigits_46 : decode cX6_takeDigits 46 = .ok (.invokevirtual 117, 3) := by decide +kernel
theorem dF6_takeDigits_49 : decode cX6_takeDigits 49 = .ok (.iadd, 1) := by decide +kernel
theorem dF6_takeDigits_50 : decode cX6_takeDigits 50 = .ok (.bipush 48, 2) := by decide +kernel
theorem dF6_takeDigits_52 : decode cX6_takeDigits 52 = .ok (.isub, 1) := by decide +kernel
theorem dF6_takeDigits_53 : decode cX6_takeDigits 53 = .ok (.sipush 1000, 3) := by decide +kernel
theorem dF6_takeDigits_56 : decode cX6_takeDigits 56 = .ok (.invokestatic 78, 3) := by decide +kernel
theorem dF6_takeDigits_59 : decode cX6_takeDigits 59 = .ok (.putfield 130, 3) := by decide +kernel
theorem dF6_takeDigits_62 : decode cX6_takeDigits 62 = .ok (.aload_n 0, 1) := by decide +kernel
theorem dF6_takeDigits_63 : decode cX6_takeDigits 63 = .ok (.dup, 1) := by decide +kernel
theorem dF6_takeDigits_64 : decode cX6_takeDigits 64 = .ok (.getfield 94, 3) := by decide +kernel
theorem dF6_takeDigits_67 : decode cX6_takeDigits 67 = .ok (.iconst 1, 1) := by decide +kernel
theorem dF6_takeDigits_68 : decode cX6_takeDigits 68 = .ok (.iadd, 1) := by decide +kernel
theorem dF6_takeDigits_69 : decode cX6_takeDigits 69 = .ok (.putfield 94, 3) := by decide +kernel
theorem dF6_takeDigits_72 : decode cX6_takeDigits 72 = .ok (.goto (-64), 3) := by decide +kernel
theorem dF6_takeDigits_75 : decode cX6_takeDigits 75 = .ok (.aload_n 0, 1) := by decide +kernel
theorem dF6_takeDigits_76 : decode cX6_takeDigits 76 = .ok (.aload_n 0, 1) := by decide +kernel
theorem dF6_takeDigits_77 : decode cX6_takeDigits 77 = .ok (.getfield 94, 3) := by decide +kernel
theorem dF6_takeDigits_80 : decode cX6_takeDigits 80 = .ok (.aload_n 0, 1) := by decide +kernel
theorem dF6_takeDigits_81 : decode cX6_takeDigits 81 = .ok (.getfield 72, 3) := by decide +kernel
theorem dF6_takeDigits_84 : decode cX6_takeDigits 84 = .ok (.isub, 1) := by decide +kernel
theorem dF6_takeDigits_85 : decode cX6_takeDigits 85 = .ok (.iconst 2, 1) := by decide +kernel
theorem dF6_takeDigits_86 : decode cX6_takeDigits 86 = .ok (.if_icmp .gt 7, 3) := by decide +kernel
theorem dF6_takeDigits_89 : decode cX6_takeDigits 89 = .ok (.iconst 2, 1) := by decide +kernel
theorem dF6_takeDigits_90 : decode cX6_takeDigits 90 = .ok (.goto 4, 3) := by decide +kernel
theorem dF6_takeDigits_93 : decode cX6_takeDigits 93 = .ok (.iconst 4, 1) := by decide +kernel
theorem dF6_takeDigits_94 : decode cX6_takeDigits 94 = .ok (.putfield 58, 3) := by decide +kernel
theorem dF6_takeDigits_97 : decode cX6_takeDigits 97 = .ok (.return_, 1) := by decide +kernel
def is_F6_takeDigits : Nat → List Nat := fun d => if d = 8 then [0] else []
set_option maxRecDepth 100000 in
def b_F6_takeDigits_94 (J : Nat → List qV → List qV → qW → Prop) (Q : qR) : qK := x_put 6 11 q_oki (x_nw (x_vret Q))
set_option maxRecDepth 100000 in
theorem s_F6_takeDigits_94 {p : Program} {l : Launch} {e : Env} {R : Room} {s : State} {m : MethodId} {args : Array Value} {below : List Frame} {meth : Method} {c : Code} {nW : Nat} {dC : Nat → ClassId} {dI : Nat → Nat → Nat} {k : Nat → ClassId} {g : Nat → Nat} {A : Nat → Prop} {J : Nat → List qV → List qV → qW → Prop} {Q : qR} (X : q_X p R s m args meth c cX6_takeDigits 2 nW 1 21 RX6 none dC dI k g A) (hJ : ∀ d : Nat, q_Sd p l e R s m args below meth c 2 nW dC dI k g A (MQ below (q_post (dC, dI) k g nW Q A) args s 0 0 A) d (x_cut (is_F6_takeDigits d) (J d))) : q_Sd p l e R s m args below meth c 2 nW dC dI k g A (MQ below (q_post (dC, dI) k g nW Q A) args s 0 0 A) 94 (b_F6_takeDigits_94 J Q) := by
  unfold b_F6_takeDigits_94
  refine s_put X (T := TX6) (C := RX6) (N := 15) tu_X6 tyX6_ok nmX6 rfl (by decide) tw_284 rfl (by decide +kernel) q_oki_t dF6_takeDigits_94 ?_
  refine s_nw ?_
  exact s_vret X dF6_takeDigits_97
set_option maxRecDepth 100000 in
def b_F6_takeDigits_75 (J : Nat → List qV → List qV → qW → Prop) (Q : qR) : qK := x_aload 0 (x_aload 0 (x_get 6 10 (x_aload 0 (x_get 6 9 (x_isub (x_int 2 (x_icmp_gt (x_int 4 (b_F6_takeDigits_94 J Q)) (x_int 2 (b_F6_takeDigits_94 J Q)))))))))
set_option maxRecDepth 100000 in
theorem s_F6_takeDigits_75 {p : Program} {l : Launch} {e : Env} {R : Room} {s : State} {m : MethodId} {args : Array Value} {below : List Frame} {meth : Method} {c : Code} {nW : Nat} {dC : Nat → ClassId} {dI : Nat → Nat → Nat} {k : Nat → ClassId} {g : Nat → Nat} {A : Nat → Prop} {J : Nat → List qV → List qV → qW → Prop} {Q : qR} (X : q_X p R s m args meth c cX6_takeDigits 2 nW 1 21 RX6 none dC dI k g A) (hJ : ∀ d : Nat, q_Sd p l e R s m args below meth c 2 nW dC dI k g A (MQ below (q_post (dC, dI) k g nW Q A) args s 0 0 A) d (x_cut (is_F6_takeDigits d) (J d))) : q_Sd p l e R s m args below meth c 2 nW dC dI k g A (MQ below (q_post (dC, dI) k g nW Q A) args s 0 0 A) 75 (b_F6_takeDigits_75 J Q) := by
  unfold b_F6_takeDigits_75
  refine s_aload_n X rfl dF6_takeDigits_75 ?_
  refine s_aload_n X rfl dF6_takeDigits_76 ?_
  refine s_get X (T := TX6) (C := RX6) (N := 15) tu_X6 rfl (by decide) tw_283 dF6_takeDigits_77 ?_
  refine s_aload_n X rfl dF6_takeDigits_80 ?_
  refine s_get X (T := TX6) (C := RX6) (N := 15) tu_X6 rfl (by decide) tw_282 dF6_takeDigits_81 ?_
  refine s_isub X dF6_takeDigits_84 ?_
  refine s_iconst X ⟨by decide, by decide⟩ dF6_takeDigits_85 ?_
  refine s_icmp_gt X (tgt := 93) dF6_takeDigits_86 (by decide) ?_ ?_
  · refine s_iconst X ⟨by decide, by decide⟩ dF6_takeDigits_93 ?_
    exact s_F6_takeDigits_94 X hJ
  · refine s_iconst X ⟨by decide, by decide⟩ dF6_takeDigits_89 ?_
    refine s_goto X (tgt := 94) dF6_takeDigits_90 (by decide) ?_
    exact s_F6_takeDigits_94 X hJ
set_option maxRecDepth 100000 in
def b_F6_takeDigits_56 (J : Nat → List qV → List qV → qW → Prop) (Q : qR) : qK := x_min (x_put 6 12 q_oki (x_nw (x_aload 0 (x_dup (x_get 6 10 (x_int 1 (x_iadd (x_put 6 10 q_oki (x_nw (x_cut [0] (J 8)))))))))))
set_option maxRecDepth 100000 in
theorem s_F6_takeDigits_56 {p : Program} {l : Launch} {e : Env} {R : Room} {s : State} {m : MethodId} {args : Array Value} {below : List Frame} {meth : Method} {c : Code} {nW : Nat} {dC : Nat → ClassId} {dI : Nat → Nat → Nat} {k : Nat → ClassId} {g : Nat → Nat} {A : Nat → Prop} {J : Nat → List qV → List qV → qW → Prop} {Q : qR} (X : q_X p R s m args meth c cX6_takeDigits 2 nW 1 21 RX6 none dC dI k g A) (hJ : ∀ d : Nat, q_Sd p l e R s m args below meth c 2 nW dC dI k g A (MQ below (q_post (dC, dI) k g nW Q A) args s 0 0 A) d (x_cut (is_F6_takeDigits d) (J d))) : q_Sd p l e R s m args below meth c 2 nW dC dI k g A (MQ below (q_post (dC, dI) k g nW Q A) args s 0 0 A) 56 (b_F6_takeDigits_56 J Q) := by
  unfold b_F6_takeDigits_56
  refine s_min X tw_364 tw_365 tw_135 tw_366 ⟨by decide, by decide⟩ dF6_takeDigits_56 ?_
  refine s_put X (T := TX6) (C := RX6) (N := 15) tu_X6 tyX6_ok nmX6 rfl (by decide) tw_285 rfl (by decide +kernel) q_oki_t dF6_takeDigits_59 ?_
  refine s_nw ?_
  refine s_aload_n X rfl dF6_takeDigits_62 ?_
  refine s_dup X dF6_takeDigits_63 ?_
  refine s_get X (T := TX6) (C := RX6) (N := 15) tu_X6 rfl (by decide) tw_283 dF6_takeDigits_64 ?_
  refine s_iconst X ⟨by decide, by decide⟩ dF6_takeDigits_67 ?_
  refine s_iadd X dF6_takeDigits_68 ?_
  refine s_put X (T := TX6) (C := RX6) (N := 15) tu_X6 tyX6_ok nmX6 rfl (by decide) tw_283 rfl (by decide +kernel) q_oki_t dF6_takeDigits_69 ?_
  refine s_nw ?_
  refine s_goto X (tgt := 8) dF6_takeDigits_72 (by decide) ?_
  exact hJ 8
set_option maxRecDepth 100000 in
def b_F6_takeDigits_8 (J : Nat → List qV → List qV → qW → Prop) (Q : qR) : qK := x_aload 0 (x_get 6 10 (x_aload 0 (x_get 6 6 (x_icmp_ge (b_F6_takeDigits_75 J Q) (x_aload 0 (x_aload 0 (x_get 6 10 (x_callr (some 6) 2 spr_F6_byteAt (x_callr none 1 spr_F6_isDigit (x_if_eq (b_F6_takeDigits_75 J Q) (x_aload 0 (x_int 10 (x_aload 0 (x_get 6 12 (x_imul (x_aload 0 (x_aload 0 (x_get 6 10 (x_callr (some 6) 2 spr_F6_byteAt (x_iadd (x_int 48 (x_isub (x_int 1000 (b_F6_takeDigits_56 J Q))))))))))))))))))))))))
set_option maxRecDepth 100000 in
theorem s_F6_takeDigits_8 {p : Program} {l : Launch} {e : Env} {R : Room} {s : State} {m : MethodId} {args : Array Value} {below : List Frame} {meth : Method} {c : Code} {nW : Nat} {dC : Nat → ClassId} {dI : Nat → Nat → Nat} {k : Nat → ClassId} {g : Nat → Nat} {A : Nat → Prop} {J : Nat → List qV → List qV → qW → Prop} {Q : qR} (X : q_X p R s m args meth c cX6_takeDigits 2 nW 1 21 RX6 none dC dI k g A) (hJ : ∀ d : Nat, q_Sd p l e R s m args below meth c 2 nW dC dI k g A (MQ below (q_post (dC, dI) k g nW Q A) args s 0 0 A) d (x_cut (is_F6_takeDigits d) (J d))) : q_Sd p l e R s m args below meth c 2 nW dC dI k g A (MQ below (q_post (dC, dI) k g nW Q A) args s 0 0 A) 8 (b_F6_takeDigits_8 J Q) := by
  unfold b_F6_takeDigits_8
  refine s_aload_n X rfl dF6_takeDigits_8 ?_
  refine s_get X (T := TX6) (C := RX6) (N := 15) tu_X6 rfl (by decide) tw_283 dF6_takeDigits_9 ?_
  refine s_aload_n X rfl dF6_takeDigits_12 ?_
  refine s_get X (T := TX6) (C := RX6) (N := 15) tu_X6 rfl (by decide) tw_277 dF6_takeDigits_13 ?_
  refine s_icmp_ge X (tgt := 75) dF6_takeDigits_16 (by decide) ?_ ?_
  · exact s_F6_takeDigits_75 X hJ
  · refine s_aload_n X rfl dF6_takeDigits_19 ?_
    refine s_aload_n X rfl dF6_takeDigits_20 ?_
    refine s_get X (T := TX6) (C := RX6) (N := 15) tu_X6 rfl (by decide) tw_283 dF6_takeDigits_21 ?_
    refine s_callVr X (m_F6_byteAt l) tw_376 tw_377 tw_1509 tw_128 tw_378 rfl (by decide +kernel) ⟨by decide, by decide⟩ dF6_takeDigits_24 ?_
    refine s_callSr X (m_F6_isDigit l) tw_382 tw_383 tw_128 tw_384 (by decide +kernel) ⟨by decide, by decide⟩ dF6_takeDigits_27 ?_
    refine s_if_eq X (tgt := 75) dF6_takeDigits_30 (by decide) ?_ ?_
    · exact s_F6_takeDigits_75 X hJ
    · refine s_aload_n X rfl dF6_takeDigits_33 ?_
      refine s_bipush X ⟨by decide, by decide⟩ (by decide) dF6_takeDigits_34 ?_
      refine s_aload_n X rfl dF6_takeDigits_36 ?_
      refine s_get X (T := TX6) (C := RX6) (N := 15) tu_X6 rfl (by decide) tw_285 dF6_takeDigits_37 ?_
      refine s_imul X dF6_takeDigits_40 ?_
      refine s_aload_n X rfl dF6_takeDigits_41 ?_
      refine s_aload_n X rfl dF6_takeDigits_42 ?_
      refine s_get X (T := TX6) (C := RX6) (N := 15) tu_X6 rfl (by decide) tw_283 dF6_takeDigits_43 ?_
      refine s_callVr X (m_F6_byteAt l) tw_376 tw_377 tw_1509 tw_128 tw_378 rfl (by decide +kernel) ⟨by decide, by decide⟩ dF6_takeDigits_46 ?_
      refine s_iadd X dF6_takeDigits_49 ?_
      refine s_bipush X ⟨by decide, by decide⟩ (by decide) dF6_takeDigits_50 ?_
      refine s_isub X dF6_takeDigits_52 ?_
      refine s_sipush X ⟨by decide, by decide⟩ (by decide) dF6_takeDigits_53 ?_
      exact s_F6_takeDigits_56 X hJ
set_option maxRecDepth 100000 in
def b_F6_takeDigits_0 (J : Nat → List qV → List qV → qW → Prop) (Q : qR) : qK := x_aload 0 (x_iload 1 (x_int 48 (x_isub (x_put 6 12 q_oki (x_nw (x_cut [0] (J 8)))))))
set_option maxRecDepth 100000 in
theorem s_F6_takeDigits_0 {p : Program} {l : Launch} {e : Env} {R : Room} {s : State} {m : MethodId} {args : Array Value} {below : List Frame} {meth : Method} {c : Code} {nW : Nat} {dC : Nat → ClassId} {dI : Nat → Nat → Nat} {k : Nat → ClassId} {g : Nat → Nat} {A : Nat → Prop} {J : Nat → List qV → List qV → qW → Prop} {Q : qR} (X : q_X p R s m args meth c cX6_takeDigits 2 nW 1 21 RX6 none dC dI k g A) (hJ : ∀ d : Nat, q_Sd p l e R s m args below meth c 2 nW dC dI k g A (MQ below (q_post (dC, dI) k g nW Q A) args s 0 0 A) d (x_cut (is_F6_takeDigits d) (J d))) : q_Sd p l e R s m args below meth c 2 nW dC dI k g A (MQ below (q_post (dC, dI) k g nW Q A) args s 0 0 A) 0 (b_F6_takeDigits_0 J Q) := by
  unfold b_F6_takeDigits_0
  refine s_aload_n X rfl dF6_takeDigits_0 ?_
  refine s_iload_n X rfl dF6_takeDigits_1 ?_
  refine s_bipush X ⟨by decide, by decide⟩ (by decide) dF6_takeDigits_2 ?_
  refine s_isub X dF6_takeDigits_4 ?_
  refine s_put X (T := TX6) (C := RX6) (N := 15) tu_X6 tyX6_ok nmX6 rfl (by decide) tw_285 rfl (by decide +kernel) q_oki_t dF6_takeDigits_5 ?_
  refine s_nw ?_
  exact hJ 8

def sp_F6_takeDigits : qS := fun av w Q => ∃ (rln : Int) (rfa : Int) (rpl : Int) (rst : Int) (rnx : Int) (rtk : Int) (rnm : Int) (rnp : Int) (rnd : Int) (tp : Nat → Int) (a : Int), av = [q2 0, q1 a] ∧ w = [.inr (6, [q2 2, q2 3, q2 4, q2 5, q2 6, q2 1, q1 rln, q1 rfa, q1 rpl, q1 rst, q1 rnx, q1 rtk, q1 rnm, q1 rnp, q1 rnd]), .inl (1, 600, .inl tp)] ∧ (0 ≤ rln ∧ rln ≤ 600 ∧ 0 ≤ rnx ∧ rnx ≤ rln ∧ 0 ≤ rst ∧ rst ≤ 600) ∧ (rnx = rst + 1 ∧ rst < rln ∧ 48 ≤ a ∧ a ≤ 57) ∧ (a = byt (tc tp) rst) ∧ (∀ (x_rnx : Int) (x_rtk : Int) (x_rnm : Int), (Run isD (tc tp) rln rst x_rnx ∧ (x_rnx - rst ≤ 2 ∧ x_rtk = 2 ∨ 2 < x_rnx - rst ∧ x_rtk = 4) ∧ NumD (tc tp) rst x_rnx x_rnm) → Q none ([.inr (6, [q2 2, q2 3, q2 4, q2 5, q2 6, q2 1, q1 rln, q1 rfa, q1 rpl, q1 rst, q1 x_rnx, q1 x_rtk, q1 x_rnm, q1 rnp, q1 rnd]), .inl (1, 600, .inl tp)]))
def I_F6_takeDigits (rln : Int) (rfa : Int) (rpl : Int) (rst : Int) (rnx : Int) (rtk : Int) (rnm : Int) (rnp : Int) (rnd : Int) (tp : Nat → Int) (a : Int) : Nat → Nat → List qV → List qV → qW → Prop := fun dz mz vz sz wz => if dz = 8 then (∃ (y_rnx : Int) (y_rnm : Int), vz = [q2 0] ∧ sz = [] ∧ wz = [.inr (6, [q2 2, q2 3, q2 4, q2 5, q2 6, q2 1, q1 rln, q1 rfa, q1 rpl, q1 rst, q1 y_rnx, q1 rtk, q1 y_rnm, q1 rnp, q1 rnd]), .inl (1, 600, .inl tp)] ∧ mz = (rln - y_rnx).toNat ∧ (rnx ≤ y_rnx ∧ y_rnx ≤ rln) ∧ (RunA isD (tc tp) rst y_rnx) ∧ (NumD (tc tp) rst y_rnx y_rnm)) else False
set_option maxHeartbeats 4000000 in
set_option maxRecDepth 100000 in
theorem m_F6_takeDigits (l : Launch) : q_M l yX6_takeDigits cX6_takeDigits 2 none 1 21 sp_F6_takeDigits := by
  refine q_meth (by decide) (fun av w Q h => by obtain ⟨rln, rfa, rpl, rst, rnx, rtk, rnm, rnp, rnd, tp, a, rfl, rfl, hr, hs, ha, hQ⟩ := h; exact Nat.le_of_ble_eq_true rfl) ?_
  intro p e R s m args below meth c dC dI k g A av w Q hsp oka okw X
  obtain ⟨rln, rfa, rpl, rst, rnx, rtk, rnm, rnp, rnd, tp, a, rfl, rfl, hr, hs, ha, hQ⟩ := hsp
  have o_a : -2147483648 ≤ a ∧ a ≤ 2147483647 := oka _ (List.mem_of_getElem? (i := 1) rfl)
  refine s_mono (s_F6_takeDigits_0 X (J := fun dz vz sz wz => ∃ mz, I_F6_takeDigits rln rfa rpl rst rnx rtk rnm rnp rnd tp a dz mz vz sz wz) (q_loopn (I_F6_takeDigits rln rfa rpl rst rnx rtk rnm rnp rnd tp a) (fun dz J => if dz = 8 then b_F6_takeDigits_8 J Q else q_F) ?hs ?hv)) ?_
  case hs =>
    intro d J hJ
    by_cases hq_8 : d = 8
    · subst hq_8; exact s_F6_takeDigits_8 X hJ
    simp only [hq_8, if_false]
    exact s_F
  case hv =>
    intro dz mz vz sz wz hI okv oks okw hlen
    by_cases hq_8 : dz = 8
    · subst hq_8
      obtain ⟨y_rnx, y_rnm, rfl, rfl, rfl, hn, hp, hd, hn⟩ := hI
      have hv9 := NumD_r hn
      apply And.intro
      · intro hq_16
        intro zq_84 hq_84
        first | replace hq_84 := e_sub hq_84 (by omega) | replace hq_84 := e_rng hq_84
        apply And.intro
        · intro hq_86
          apply And.intro
          · exact trivial
          exact hQ _ _ _ (by first | exact ⟨Run_o hd (by omega) (by omega) (fun hq_9 => absurd hq_9 (by omega)), by omega, hn⟩ | exact ⟨Run_o hd (by omega) (by omega) (fun _ => dj8 (P := isD) hq_27 hq_30 (BAt_e hq_24.1 (by omega) (by omega))), by omega, hn⟩)
        · intro hq_86
          apply And.intro
          · exact trivial
          exact hQ _ _ _ (by first | exact ⟨Run_o hd (by omega) (by omega) (fun hq_9 => absurd hq_9 (by omega)), by omega, hn⟩ | exact ⟨Run_o hd (by omega) (by omega) (fun _ => dj8 (P := isD) hq_27 hq_30 (BAt_e hq_24.1 (by omega) (by omega))), by omega, hn⟩)
      · intro hq_16
        refine Exists.intro [0, 1, 2, 3, 4, 5, 6] (Exists.intro [q2 0, q1 _] (Exists.intro ([.inr (6, [q2 2, q2 3, q2 4, q2 5, q2 6, q2 1, q1 _, q1 _, q1 _, q1 _, q1 _, q1 _, q1 _, q1 _, q1 _]), .inl (1, 600, .inl _)]) (And.intro rfl (And.intro rfl (And.intro rfl (And.intro ⟨⟨_, rfl⟩, rfl⟩ ?_))))))
        refine Exists.intro _ (Exists.intro _ (Exists.intro _ (Exists.intro _ (Exists.intro _ (Exists.intro _ (Exists.intro _ (Exists.intro _ (Exists.intro _ (Exists.intro _ (Exists.intro _ (And.intro rfl (And.intro rfl (And.intro (by first | assumption | exact q_rg_up (by assumption) (by omega) | exact q_rg_up (q_rg_up (by assumption) (by omega)) (by omega) | exact q_rg_cpy (by assumption) (by assumption) | omega) (?_))))))))))))))
        intro zq_24 hq_24
        refine Exists.intro [] (Exists.intro [q1 _] (Exists.intro [] (And.intro rfl (And.intro rfl (And.intro rfl (And.intro trivial ?_))))))
        refine Exists.intro _ (And.intro rfl (And.intro rfl (?_)))
        intro zq_27 hq_27
        apply And.intro
        · intro hq_30
          intro zq_84 hq_84
          first | replace hq_84 := e_sub hq_84 (by omega) | replace hq_84 := e_rng hq_84
          apply And.intro
          · intro hq_86
            apply And.intro
            · exact trivial
            exact hQ _ _ _ (by first | exact ⟨Run_o hd (by omega) (by omega) (fun hq_9 => absurd hq_9 (by omega)), by omega, hn⟩ | exact ⟨Run_o hd (by omega) (by omega) (fun _ => dj8 (P := isD) hq_27 hq_30 (BAt_e hq_24.1 (by omega) (by omega))), by omega, hn⟩)
          · intro hq_86
            apply And.intro
            · exact trivial
            exact hQ _ _ _ (by first | exact ⟨Run_o hd (by omega) (by omega) (fun hq_9 => absurd hq_9 (by omega)), by omega, hn⟩ | exact ⟨Run_o hd (by omega) (by omega) (fun _ => dj8 (P := isD) hq_27 hq_30 (BAt_e hq_24.1 (by omega) (by omega))), by omega, hn⟩)
        · intro hq_30
          have dq_30 := dj9 hq_27 hq_30
          intro zq_40 hq_40
          first | replace hq_40 := e_mul hq_40 (by omega) | replace hq_40 := e_rng hq_40
          refine Exists.intro [0, 1, 2, 3, 4, 5, 6] (Exists.intro [q2 0, q1 _] (Exists.intro ([.inr (6, [q2 2, q2 3, q2 4, q2 5, q2 6, q2 1, q1 _, q1 _, q1 _, q1 _, q1 _, q1 _, q1 _, q1 _, q1 _]), .inl (1, 600, .inl _)]) (And.intro rfl (And.intro rfl (And.intro rfl (And.intro ⟨⟨_, rfl⟩, rfl⟩ ?_))))))
          refine Exists.intro _ (Exists.intro _ (Exists.intro _ (Exists.intro _ (Exists.intro _ (Exists.intro _ (Exists.intro _ (Exists.intro _ (Exists.intro _ (Exists.intro _ (Exists.intro _ (And.intro rfl (And.intro rfl (And.intro (by first | assumption | exact q_rg_up (by assumption) (by omega) | exact q_rg_up (q_rg_up (by assumption) (by omega)) (by omega) | exact q_rg_cpy (by assumption) (by assumption) | omega) (?_))))))))))))))
          intro zq_46 hq_46
          have e46 : zq_46 = zq_24 := (BAt_e hq_46.1 (by omega) (by omega)).trans (BAt_e hq_24.1 (by omega) (by omega)).symm
          intro zq_49 hq_49
          first | replace hq_49 := e_add hq_49 (by omega) | replace hq_49 := e_rng hq_49
          intro zq_52 hq_52
          first | replace hq_52 := e_sub hq_52 (by omega) | replace hq_52 := e_rng hq_52
          intro zq_56 hq_56
          apply And.intro
          · exact trivial
          intro zq_68 hq_68
          first | replace hq_68 := e_add hq_68 (by omega) | replace hq_68 := e_rng hq_68
          apply And.intro
          · exact trivial
          exact ⟨_, ⟨_, _, rfl, rfl, rfl, rfl, (by first | assumption | exact q_rg_up (by assumption) (by omega) | exact q_rg_up (q_rg_up (by assumption) (by omega)) (by omega) | exact q_rg_cpy (by assumption) (by assumption) | omega), (by first | exact RunA_1 ha (by omega) ⟨by omega, by omega⟩ | exact RunA_s hd (by omega) (BAt_e hq_24.1 (by omega) (by omega)) ⟨by omega, by omega⟩), (by first | exact NumD_1 ha (by omega) (by omega) (by omega) | exact NumD_s hn hd (by omega) (by omega) (BAt_e hq_46.1 (by omega) (by omega)) (by omega) (by omega))⟩, by omega⟩
    simp only [I_F6_takeDigits, hq_8, if_false] at hI
  rintro lv st w' ⟨rfl, rfl, rfl⟩
  intro zq_4 hq_4
  first | replace hq_4 := e_sub hq_4 (by omega) | replace hq_4 := e_rng hq_4
  apply And.intro
  · exact trivial
  exact ⟨_, _, _, rfl, rfl, rfl, rfl, (by first | assumption | exact q_rg_up (by assumption) (by omega) | exact q_rg_up (q_rg_up (by assumption) (by omega)) (by omega) | exact q_rg_cpy (by assumption) (by assumption) | omega), (by first | exact RunA_1 ha (by omega) ⟨by omega, by omega⟩ | exact RunA_s hd (by omega) (BAt_e hq_24.1 (by omega) (by omega)) ⟨by omega, by omega⟩), (by first | exact NumD_1 ha (by omega) (by omega) (by omega) | exact NumD_s hn hd (by omega) (by omega) (BAt_e hq_46.1 (by omega) (by omega)) (by omega) (by omega))⟩

theorem dF6_advance_0 : decode cX6_advance 0 = .ok (.aload_n 0, 1) := by decide +kernel
theorem dF6_advance_1 : decode cX6_advance 1 = .ok (.getfield 94, 3) := by decide +kernel
theorem dF6_advance_4 : decode cX6_advance 4 = .ok (.aload_n 0, 1) := by decide +kernel
theorem dF6_advance_5 : decode cX6_advance 5 = .ok (.getfield 51, 3) := by decide +kernel
theorem dF6_advance_8 : decode cX6_advance 8 = .ok (.if_icmp .ge 42, 3) := by decide +kernel
theorem dF6_advance_11 : decode cX6_advance 11 = .ok (.aload_n 0, 1) := by decide +kernel
theorem dF6_advance_12 : decode cX6_advance 12 = .ok (.aload_n 0, 1) := by decide +kernel
theorem dF6_advance_13 : decode cX6_advance 13 = .ok (.getfield 94, 3) := by decide +kernel
theorem dF6_advance_16 : decode cX6_advance 16 = .ok (.invokevirtual 117, 3) := by decide +kernel
theorem dF6_advance_19 : decode cX6_advance 19 = .ok (.bipush 10, 2) := by decide +kernel
theorem dF6_advance_21 : decode cX6_advance 21 = .ok (.if_icmp .eq 16, 3) := by decide +kernel
theorem dF6_advance_24 : decode cX6_advance 24 = .ok (.aload_n 0, 1) := by decide +kernel
theorem dF6_advance_25 : decode cX6_advance 25 = .ok (.aload_n 0, 1) := by decide +kernel
theorem dF6_advance_26 : decode cX6_advance 26 = .ok (.getfield 94, 3) := by decide +kernel
theorem dF6_advance_29 : decode cX6_advance 29 = .ok (.invokevirtual 117, 3) := by decide +kernel
theorem dF6_advance_32 : decode cX6_advance 32 = .ok (.bipush 32, 2) := by decide +kernel
theorem dF6_advance_34 : decode cX6_advance 34 = .ok (.if_icmp .ne 16, 3) := by decide +kernel
theorem dF6_advance_37 : decode cX6_advance 37 = .ok (.aload_n 0, 1) := by decide +kernel
theorem dF6_advance_38 : decode cX6_advance 38 = .ok (.dup, 1) := by decide +kernel
theorem dF6_advance_39 : decode cX6_advance 39 = .ok (.getfield 94, 3) := by decide +kernel
theorem dF6_advance_42 : decode cX6_advance 42 = .ok (.iconst 1, 1) := by decide +kernel
theorem dF6_advance_43 : decode cX6_advance 43 = .ok (.iadd, 1) := by decide +kernel
theorem dF6_advance_44 : decode cX6_advance 44 = .ok (.putfield 94, 3) := by decide +kernel
theorem dF6_advance_47 : decode cX6_advance 47 = .ok (.goto (-47), 3) := by decide +kernel
theorem dF6_advance_50 : decode cX6_advance 50 = .ok (.aload_n 0, 1) := by decide +kernel
theorem dF6_advance_51 : decode cX6_advance 51 = .ok (.aload_n 0, 1) := by decide +kernel
theorem dF6_advance_52 : decode cX6_advance 52 = .ok (.getfield 94, 3) := by decide +kernel
theorem dF6_advance_55 : decode cX6_advance 55 = .ok (.putfield 72, 3) := by decide +kernel
theorem dF6_advance_58 : decode cX6_advance 58 = .ok (.aload_n 0, 1) := by decide +kernel
theorem dF6_advance_59 : decode cX6_advance 59 = .ok (.getfield 94, 3) := by decide +kernel
theorem dF6_advance_62 : decode cX6_advance 62 = .ok (.aload_n 0, 1) := by decide +kernel
theorem dF6_advance_63 : decode cX6_advance 63 = .ok (.getfield 51, 3) := by decide +kernel
theorem dF6_advance_66 : decode cX6_advance 66 = .ok (.if_icmp .lt 9, 3) := by decide +kernel
theorem dF6_advance_69 : decode cX6_advance 69 = .ok (.aload_n 0, 1) := by decide +kernel
theorem dF6_advance_70 : decode cX6_advance 70 = .ok (.iconst 0, 1) := by decide +kernel
theorem dF6_advance_71 : decode cX6_advance 71 = .ok (.putfield 58, 3) := by decide +kernel
theorem dF6_advance_74 : decode cX6_advance 74 = .ok (.return_, 1) := by decide +kernel
theorem dF6_advance_75 : decode cX6_advance 75 = .ok (.aload_n 0, 1) := by decide +kernel
theorem dF6_advance_76 : decode cX6_advance 76 = .ok (.aload_n 0, 1) := by decide +kernel
theorem dF6_advance_77 : decode cX6_advance 77 = .ok (.getfield 94, 3) := by decide +kernel
theorem dF6_advance_80 : decode cX6_advance 80 = .ok (.invokevirtual 117, 3) := by decide +kernel
theorem dF6_advance_83 : decode cX6_advance 83 = .ok (.istore_n 1, 1) := by decide +kernel
theorem dF6_advance_84 : decode cX6_advance 84 = .ok (.aload_n 0, 1) := by decide +kernel
theorem dF6_advance_85 : decode cX6_advance 85 = .ok (.dup, 1) := by decide +kernel
theorem dF6_advance_86 : decode cX6_advance 86 = .ok (.getfield 94, 3) := by decide +kernel
theorem dF6_advance_89 : decode cX6_advance 89 = .ok (.iconst 1, 1) := by decide +kernel
theorem dF6_advance_90 : decode cX6_advance 90 = .ok (.iadd, 1) := by decide +kernel
theorem dF6_advance_91 : decode cX6_advance 91 = .ok (.putfield 94, 3) := by decide +kernel
theorem dF6_advance_94 : decode cX6_advance 94 = .ok (.iload_n 1, 1) := by decide +kernel
theorem dF6_advance_95 : decode cX6_advance 95 = .ok (.invokestatic 121, 3) := by decide +kernel
theorem dF6_advance_98 : decode cX6_advance 98 = .ok (.ifCond .eq 49, 3) := by decide +kernel
theorem dF6_advance_101 : decode cX6_advance 101 = .ok (.aload_n 0, 1) := by decide +kernel
theorem dF6_advance_102 : decode cX6_advance 102 = .ok (.getfield 94, 3) := by decide +kernel
theorem dF6_advance_105 : decode cX6_advance 105 = .ok (.aload_n 0, 1) := by decide +kernel
theorem dF6_advance_106 : decode cX6_advance 106 = .ok (.getfield 51, 3) := by decide +kernel
theorem dF6_advance_109 : decode cX6_advance 109 = .ok (.if_icmp .ge 30, 3) := by decide +kernel
theorem dF6_advance_112 : decode cX6_advance 112 = .ok (.aload_n 0, 1) := by decide +kernel
theorem dF6_advance_113 : decode cX6_advance 113 = .ok (.aload_n 0, 1) := by decide +kernel
theorem dF6_advance_114 : decode cX6_advance 114 = .ok (.getfield 94, 3) := by decide +kernel
theorem dF6_advance_117 : decode cX6_advance 117 = .ok (.invokevirtual 117, 3) := by decide +kernel
theorem dF6_advance_120 : decode cX6_advance 120 = .ok (.invokestatic 121, 3) := by decide +kernel
theorem dF6_advance_123 : decode cX6_advance 123 = .ok (.ifCond .eq 16, 3) := by decide +kernel
theorem dF6_advance_126 : decode cX6_advance 126 = .ok (.aload_n 0, 1) := by decide +kernel
theorem dF6_advance_127 : decode cX6_advance 127 = .ok (.dup, 1) := by decide +kernel
theorem dF6_advance_128 : decode cX6_advance 128 = .ok (.getfield 94, 3) := by decide +kernel
theorem dF6_advance_131 : decode cX6_advance 131 = .ok (.iconst 1, 1) := by decide +kernel
theorem dF6_advance_132 : decode cX6_advance 132 = .ok (.iadd, 1) := by decide +kernel
theorem dF6_advance_133 : decode cX6_advance 133 = .ok (.putfield 94, 3) := by decide +kernel
theorem dF6_advance_136 : decode cX6_advance 136 = .ok (.goto (-35), 3) := by decide +kernel
theorem dF6_advance_139 : decode cX6_advance 139 = .ok (.aload_n 0, 1) := by decide +kernel
theorem dF6_advance_140 : decode cX6_advance 140 = .ok (.iconst 1, 1) := by decide +kernel
theorem dF6_advance_141 : decode cX6_advance 141 = .ok (.putfield 58, 3) := by decide +kernel
theorem dF6_advance_144 : decode cX6_advance 144 = .ok (.goto 33, 3) := by decide +kernel
theorem dF6_advance_147 : decode cX6_advance 147 = .ok (.iload_n 1, 1) := by decide +kernel
theorem dF6_advance_148 : decode cX6_advance 148 = .ok (.invokestatic 124, 3) := by decide +kernel
theorem dF6_advance_151 : decode cX6_advance 151 = .ok (.ifCond .eq 11, 3) := by decide +kernel
theorem dF6_advance_154 : decode cX6_advance 154 = .ok (.aload_n 0, 1) := by decide +kernel
theorem dF6_advance_155 : decode cX6_advance 155 = .ok (.iload_n 1, 1) := by decide +kernel
theorem dF6_advance_156 : decode cX6_advance 156 = .ok (.invokevirtual 127, 3) := by decide +kernel
theorem dF6_advance_159 : decode cX6_advance 159 = .ok (.goto 18, 3) := by decide +kernel
theorem dF6_advance_162 : decode cX6_advance 162 = .ok (.aload_n 0, 1) := by decide +kernel
theorem dF6_advance_163 : decode cX6_advance 163 = .ok (.iload_n 1, 1) := by decide +kernel
theorem dF6_advance_164 : decode cX6_advance 164 = .ok (.bipush 59, 2) := by decide +kernel
theorem dF6_advance_166 : decode cX6_advance 166 = .ok (.if_icmp .ne 7, 3) := by decide +kernel
theorem dF6_advance_169 : decode cX6_advance 169 = .ok (.iconst 3, 1) := by decide +kernel
theorem dF6_advance_170 : decode cX6_advance 170 = .ok (.goto 4, 3) := by decide +kernel
theorem dF6_advance_173 : decode cX6_advance 173 = .ok (.iconst 4, 1) := by decide +kernel
theorem dF6_advance_174 : decode cX6_advance 174 = .ok (.putfield 58, 3) := by decide +kernel
theorem dF6_advance_177 : decode cX6_advance 177 = .ok (.return_, 1) := by decide +kernel
def is_F6_advance : Nat → List Nat := fun d => if d = 0 then [0] else if d = 101 then [0] else []
set_option maxRecDepth 100000 in
def b_F6_advance_177 (J : Nat → List qV → List qV → qW → Prop) (Q : qR) : qK := x_vret Q
set_option maxRecDepth 100000 in
theorem s_F6_advance_177 {p : Program} {l : Launch} {e : Env} {R : Room} {s : State} {m : MethodId} {args : Array Value} {below : List Frame} {meth : Method} {c : Code} {nW : Nat} {dC : Nat → ClassId} {dI : Nat → Nat → Nat} {k : Nat → ClassId} {g : Nat → Nat} {A : Nat → Prop} {J : Nat → List qV → List qV → qW → Prop} {Q : qR} (X : q_X p R s m args meth c cX6_advance 2 nW 2 42 RX6 none dC dI k g A) (hJ : ∀ d : Nat, q_Sd p l e R s m args below meth c 2 nW dC dI k g A (MQ below (q_post (dC, dI) k g nW Q A) args s 0 0 A) d (x_cut (is_F6_advance d) (J d))) : q_Sd p l e R s m args below meth c 2 nW dC dI k g A (MQ below (q_post (dC, dI) k g nW Q A) args s 0 0 A) 177 (b_F6_advance_177 J Q) := by
  unfold b_F6_advance_177
  exact s_vret X dF6_advance_177
set_option maxRecDepth 100000 in
def b_F6_advance_174 (J : Nat → List qV → List qV → qW → Prop) (Q : qR) : qK := x_put 6 11 q_oki (x_nw (b_F6_advance_177 J Q))
set_option maxRecDepth 100000 in
theorem s_F6_advance_174 {p : Program} {l : Launch} {e : Env} {R : Room} {s : State} {m : MethodId} {args : Array Value} {below : List Frame} {meth : Method} {c : Code} {nW : Nat} {dC : Nat → ClassId} {dI : Nat → Nat → Nat} {k : Nat → ClassId} {g : Nat → Nat} {A : Nat → Prop} {J : Nat → List qV → List qV → qW → Prop} {Q : qR} (X : q_X p R s m args meth c cX6_advance 2 nW 2 42 RX6 none dC dI k g A) (hJ : ∀ d : Nat, q_Sd p l e R s m args below meth c 2 nW dC dI k g A (MQ below (q_post (dC, dI) k g nW Q A) args s 0 0 A) d (x_cut (is_F6_advance d) (J d))) : q_Sd p l e R s m args below meth c 2 nW dC dI k g A (MQ below (q_post (dC, dI) k g nW Q A) args s 0 0 A) 174 (b_F6_advance_174 J Q) := by
  unfold b_F6_advance_174
  refine s_put X (T := TX6) (C := RX6) (N := 15) tu_X6 tyX6_ok nmX6 rfl (by decide) tw_284 rfl (by decide +kernel) q_oki_t dF6_advance_174 ?_
  refine s_nw ?_
  exact s_F6_advance_177 X hJ
set_option maxRecDepth 100000 in
def b_F6_advance_139 (J : Nat → List qV → List qV → qW → Prop) (Q : qR) : qK := x_aload 0 (x_int 1 (x_put 6 11 q_oki (x_nw (b_F6_advance_177 J Q))))
set_option maxRecDepth 100000 in
theorem s_F6_advance_139 {p : Program} {l : Launch} {e : Env} {R : Room} {s : State} {m : MethodId} {args : Array Value} {below : List Frame} {meth : Method} {c : Code} {nW : Nat} {dC : Nat → ClassId} {dI : Nat → Nat → Nat} {k : Nat → ClassId} {g : Nat → Nat} {A : Nat → Prop} {J : Nat → List qV → List qV → qW → Prop} {Q : qR} (X : q_X p R s m args meth c cX6_advance 2 nW 2 42 RX6 none dC dI k g A) (hJ : ∀ d : Nat, q_Sd p l e R s m args below meth c 2 nW dC dI k g A (MQ below (q_post (dC, dI) k g nW Q A) args s 0 0 A) d (x_cut (is_F6_advance d) (J d))) : q_Sd p l e R s m args below meth c 2 nW dC dI k g A (MQ below (q_post (dC, dI) k g nW Q A) args s 0 0 A) 139 (b_F6_advance_139 J Q) := by
  unfold b_F6_advance_139
  refine s_aload_n X rfl dF6_advance_139 ?_
  refine s_iconst X ⟨by decide, by decide⟩ dF6_advance_140 ?_
  refine s_put X (T := TX6) (C := RX6) (N := 15) tu_X6 tyX6_ok nmX6 rfl (by decide) tw_284 rfl (by decide +kernel) q_oki_t dF6_advance_141 ?_
  refine s_nw ?_
  refine s_goto X (tgt := 177) dF6_advance_144 (by decide) ?_
  exact s_F6_advance_177 X hJ
set_option maxRecDepth 100000 in
def b_F6_advance_101 (J : Nat → List qV → List qV → qW → Prop) (Q : qR) : qK := x_aload 0 (x_get 6 10 (x_aload 0 (x_get 6 6 (x_icmp_ge (b_F6_advance_139 J Q) (x_aload 0 (x_aload 0 (x_get 6 10 (x_callr (some 6) 2 spr_F6_byteAt (x_callr none 1 spr_F6_isLetter (x_if_eq (b_F6_advance_139 J Q) (x_aload 0 (x_dup (x_get 6 10 (x_int 1 (x_iadd (x_put 6 10 q_oki (x_nw (x_cut [0] (J 101)))))))))))))))))))
set_option maxRecDepth 100000 in
theorem s_F6_advance_101 {p : Program} {l : Launch} {e : Env} {R : Room} {s : State} {m : MethodId} {args : Array Value} {below : List Frame} {meth : Method} {c : Code} {nW : Nat} {dC : Nat → ClassId} {dI : Nat → Nat → Nat} {k : Nat → ClassId} {g : Nat → Nat} {A : Nat → Prop} {J : Nat → List qV → List qV → qW → Prop} {Q : qR} (X : q_X p R s m args meth c cX6_advance 2 nW 2 42 RX6 none dC dI k g A) (hJ : ∀ d : Nat, q_Sd p l e R s m args below meth c 2 nW dC dI k g A (MQ below (q_post (dC, dI) k g nW Q A) args s 0 0 A) d (x_cut (is_F6_advance d) (J d))) : q_Sd p l e R s m args below meth c 2 nW dC dI k g A (MQ below (q_post (dC, dI) k g nW Q A) args s 0 0 A) 101 (b_F6_advance_101 J Q) := by
  unfold b_F6_advance_101
  refine s_aload_n X rfl dF6_advance_101 ?_
  refine s_get X (T := TX6) (C := RX6) (N := 15) tu_X6 rfl (by decide) tw_283 dF6_advance_102 ?_
  refine s_aload_n X rfl dF6_advance_105 ?_
  refine s_get X (T := TX6) (C := RX6) (N := 15) tu_X6 rfl (by decide) tw_277 dF6_advance_106 ?_
  refine s_icmp_ge X (tgt := 139) dF6_advance_109 (by decide) ?_ ?_
  · exact s_F6_advance_139 X hJ
  · refine s_aload_n X rfl dF6_advance_112 ?_
    refine s_aload_n X rfl dF6_advance_113 ?_
    refine s_get X (T := TX6) (C := RX6) (N := 15) tu_X6 rfl (by decide) tw_283 dF6_advance_114 ?_
    refine s_callVr X (m_F6_byteAt l) tw_376 tw_377 tw_1509 tw_128 tw_378 rfl (by decide +kernel) ⟨by decide, by decide⟩ dF6_advance_117 ?_
    refine s_callSr X (m_F6_isLetter l) tw_379 tw_380 tw_128 tw_381 (by decide +kernel) ⟨by decide, by decide⟩ dF6_advance_120 ?_
    refine s_if_eq X (tgt := 139) dF6_advance_123 (by decide) ?_ ?_
    · exact s_F6_advance_139 X hJ
    · refine s_aload_n X rfl dF6_advance_126 ?_
      refine s_dup X dF6_advance_127 ?_
      refine s_get X (T := TX6) (C := RX6) (N := 15) tu_X6 rfl (by decide) tw_283 dF6_advance_128 ?_
      refine s_iconst X ⟨by decide, by decide⟩ dF6_advance_131 ?_
      refine s_iadd X dF6_advance_132 ?_
      refine s_put X (T := TX6) (C := RX6) (N := 15) tu_X6 tyX6_ok nmX6 rfl (by decide) tw_283 rfl (by decide +kernel) q_oki_t dF6_advance_133 ?_
      refine s_nw ?_
      refine s_goto X (tgt := 101) dF6_advance_136 (by decide) ?_
      exact hJ 101
set_option maxRecDepth 100000 in
def b_F6_advance_94 (J : Nat → List qV → List qV → qW → Prop) (Q : qR) : qK := x_iload 1 (x_callr none 1 spr_F6_isLetter (x_if_eq (x_iload 1 (x_callr none 1 spr_F6_isDigit (x_if_eq (x_aload 0 (x_iload 1 (x_int 59 (x_icmp_ne (x_int 4 (b_F6_advance_174 J Q)) (x_int 3 (b_F6_advance_174 J Q)))))) (x_aload 0 (x_iload 1 (x_call (some 6) 2 sp_F6_takeDigits (x_nw (b_F6_advance_177 J Q)))))))) (x_cut [0] (J 101))))
set_option maxRecDepth 100000 in
theorem s_F6_advance_94 {p : Program} {l : Launch} {e : Env} {R : Room} {s : State} {m : MethodId} {args : Array Value} {below : List Frame} {meth : Method} {c : Code} {nW : Nat} {dC : Nat → ClassId} {dI : Nat → Nat → Nat} {k : Nat → ClassId} {g : Nat → Nat} {A : Nat → Prop} {J : Nat → List qV → List qV → qW → Prop} {Q : qR} (X : q_X p R s m args meth c cX6_advance 2 nW 2 42 RX6 none dC dI k g A) (hJ : ∀ d : Nat, q_Sd p l e R s m args below meth c 2 nW dC dI k g A (MQ below (q_post (dC, dI) k g nW Q A) args s 0 0 A) d (x_cut (is_F6_advance d) (J d))) : q_Sd p l e R s m args below meth c 2 nW dC dI k g A (MQ below (q_post (dC, dI) k g nW Q A) args s 0 0 A) 94 (b_F6_advance_94 J Q) := by
  unfold b_F6_advance_94
  refine s_iload_n X rfl dF6_advance_94 ?_
  refine s_callSr X (m_F6_isLetter l) tw_379 tw_380 tw_128 tw_381 (by decide +kernel) ⟨by decide, by decide⟩ dF6_advance_95 ?_
  refine s_if_eq X (tgt := 147) dF6_advance_98 (by decide) ?_ ?_
  · refine s_iload_n X rfl dF6_advance_147 ?_
    refine s_callSr X (m_F6_isDigit l) tw_382 tw_383 tw_128 tw_384 (by decide +kernel) ⟨by decide, by decide⟩ dF6_advance_148 ?_
    refine s_if_eq X (tgt := 162) dF6_advance_151 (by decide) ?_ ?_
    · refine s_aload_n X rfl dF6_advance_162 ?_
      refine s_iload_n X rfl dF6_advance_163 ?_
      refine s_bipush X ⟨by decide, by decide⟩ (by decide) dF6_advance_164 ?_
      refine s_icmp_ne X (tgt := 173) dF6_advance_166 (by decide) ?_ ?_
      · refine s_iconst X ⟨by decide, by decide⟩ dF6_advance_173 ?_
        exact s_F6_advance_174 X hJ
      · refine s_iconst X ⟨by decide, by decide⟩ dF6_advance_169 ?_
        refine s_goto X (tgt := 174) dF6_advance_170 (by decide) ?_
        exact s_F6_advance_174 X hJ
    · refine s_aload_n X rfl dF6_advance_154 ?_
      refine s_iload_n X rfl dF6_advance_155 ?_
      refine s_callV X (m_F6_takeDigits l) tw_385 tw_386 tw_1519 tw_128 tw_387 rfl (by decide +kernel) ⟨by decide, by decide⟩ dF6_advance_156 ?_
      refine s_nw ?_
      refine s_goto X (tgt := 177) dF6_advance_159 (by decide) ?_
      exact s_F6_advance_177 X hJ
  · exact hJ 101
set_option maxRecDepth 100000 in
def b_F6_advance_50 (J : Nat → List qV → List qV → qW → Prop) (Q : qR) : qK := x_aload 0 (x_aload 0 (x_get 6 10 (x_put 6 9 q_oki (x_nw (x_aload 0 (x_get 6 10 (x_aload 0 (x_get 6 6 (x_icmp_lt (x_aload 0 (x_aload 0 (x_get 6 10 (x_callr (some 6) 2 spr_F6_byteAt (x_istore 1 (x_aload 0 (x_dup (x_get 6 10 (x_int 1 (x_iadd (x_put 6 10 q_oki (x_nw (b_F6_advance_94 J Q))))))))))))) (x_aload 0 (x_int 0 (x_put 6 11 q_oki (x_nw (x_vret Q))))))))))))))
set_option maxRecDepth 100000 in
theorem s_F6_advance_50 {p : Program} {l : Launch} {e : Env} {R : Room} {s : State} {m : MethodId} {args : Array Value} {below : List Frame} {meth : Method} {c : Code} {nW : Nat} {dC : Nat → ClassId} {dI : Nat → Nat → Nat} {k : Nat → ClassId} {g : Nat → Nat} {A : Nat → Prop} {J : Nat → List qV → List qV → qW → Prop} {Q : qR} (X : q_X p R s m args meth c cX6_advance 2 nW 2 42 RX6 none dC dI k g A) (hJ : ∀ d : Nat, q_Sd p l e R s m args below meth c 2 nW dC dI k g A (MQ below (q_post (dC, dI) k g nW Q A) args s 0 0 A) d (x_cut (is_F6_advance d) (J d))) : q_Sd p l e R s m args below meth c 2 nW dC dI k g A (MQ below (q_post (dC, dI) k g nW Q A) args s 0 0 A) 50 (b_F6_advance_50 J Q) := by
  unfold b_F6_advance_50
  refine s_aload_n X rfl dF6_advance_50 ?_
  refine s_aload_n X rfl dF6_advance_51 ?_
  refine s_get X (T := TX6) (C := RX6) (N := 15) tu_X6 rfl (by decide) tw_283 dF6_advance_52 ?_
  refine s_put X (T := TX6) (C := RX6) (N := 15) tu_X6 tyX6_ok nmX6 rfl (by decide) tw_282 rfl (by decide +kernel) q_oki_t dF6_advance_55 ?_
  refine s_nw ?_
  refine s_aload_n X rfl dF6_advance_58 ?_
  refine s_get X (T := TX6) (C := RX6) (N := 15) tu_X6 rfl (by decide) tw_283 dF6_advance_59 ?_
  refine s_aload_n X rfl dF6_advance_62 ?_
  refine s_get X (T := TX6) (C := RX6) (N := 15) tu_X6 rfl (by decide) tw_277 dF6_advance_63 ?_
  refine s_icmp_lt X (tgt := 75) dF6_advance_66 (by decide) ?_ ?_
  · refine s_aload_n X rfl dF6_advance_75 ?_
    refine s_aload_n X rfl dF6_advance_76 ?_
    refine s_get X (T := TX6) (C := RX6) (N := 15) tu_X6 rfl (by decide) tw_283 dF6_advance_77 ?_
    refine s_callVr X (m_F6_byteAt l) tw_376 tw_377 tw_1509 tw_128 tw_378 rfl (by decide +kernel) ⟨by decide, by decide⟩ dF6_advance_80 ?_
    refine s_istore_n X rfl (by decide) dF6_advance_83 ?_
    refine s_aload_n X rfl dF6_advance_84 ?_
    refine s_dup X dF6_advance_85 ?_
    refine s_get X (T := TX6) (C := RX6) (N := 15) tu_X6 rfl (by decide) tw_283 dF6_advance_86 ?_
    refine s_iconst X ⟨by decide, by decide⟩ dF6_advance_89 ?_
    refine s_iadd X dF6_advance_90 ?_
    refine s_put X (T := TX6) (C := RX6) (N := 15) tu_X6 tyX6_ok nmX6 rfl (by decide) tw_283 rfl (by decide +kernel) q_oki_t dF6_advance_91 ?_
    refine s_nw ?_
    exact s_F6_advance_94 X hJ
  · refine s_aload_n X rfl dF6_advance_69 ?_
    refine s_iconst X ⟨by decide, by decide⟩ dF6_advance_70 ?_
    refine s_put X (T := TX6) (C := RX6) (N := 15) tu_X6 tyX6_ok nmX6 rfl (by decide) tw_284 rfl (by decide +kernel) q_oki_t dF6_advance_71 ?_
    refine s_nw ?_
    exact s_vret X dF6_advance_74
set_option maxRecDepth 100000 in
def b_F6_advance_37 (J : Nat → List qV → List qV → qW → Prop) (Q : qR) : qK := x_aload 0 (x_dup (x_get 6 10 (x_int 1 (x_iadd (x_put 6 10 q_oki (x_nw (x_cut [0] (J 0))))))))
set_option maxRecDepth 100000 in
theorem s_F6_advance_37 {p : Program} {l : Launch} {e : Env} {R : Room} {s : State} {m : MethodId} {args : Array Value} {below : List Frame} {meth : Method} {c : Code} {nW : Nat} {dC : Nat → ClassId} {dI : Nat → Nat → Nat} {k : Nat → ClassId} {g : Nat → Nat} {A : Nat → Prop} {J : Nat → List qV → List qV → qW → Prop} {Q : qR} (X : q_X p R s m args meth c cX6_advance 2 nW 2 42 RX6 none dC dI k g A) (hJ : ∀ d : Nat, q_Sd p l e R s m args below meth c 2 nW dC dI k g A (MQ below (q_post (dC, dI) k g nW Q A) args s 0 0 A) d (x_cut (is_F6_advance d) (J d))) : q_Sd p l e R s m args below meth c 2 nW dC dI k g A (MQ below (q_post (dC, dI) k g nW Q A) args s 0 0 A) 37 (b_F6_advance_37 J Q) := by
  unfold b_F6_advance_37
  refine s_aload_n X rfl dF6_advance_37 ?_
  refine s_dup X dF6_advance_38 ?_
  refine s_get X (T := TX6) (C := RX6) (N := 15) tu_X6 rfl (by decide) tw_283 dF6_advance_39 ?_
  refine s_iconst X ⟨by decide, by decide⟩ dF6_advance_42 ?_
  refine s_iadd X dF6_advance_43 ?_
  refine s_put X (T := TX6) (C := RX6) (N := 15) tu_X6 tyX6_ok nmX6 rfl (by decide) tw_283 rfl (by decide +kernel) q_oki_t dF6_advance_44 ?_
  refine s_nw ?_
  refine s_goto X (tgt := 0) dF6_advance_47 (by decide) ?_
  exact hJ 0
set_option maxRecDepth 100000 in
def b_F6_advance_0 (J : Nat → List qV → List qV → qW → Prop) (Q : qR) : qK := x_aload 0 (x_get 6 10 (x_aload 0 (x_get 6 6 (x_icmp_ge (b_F6_advance_50 J Q) (x_aload 0 (x_aload 0 (x_get 6 10 (x_callr (some 6) 2 spr_F6_byteAt (x_int 10 (x_icmp_eq (b_F6_advance_37 J Q) (x_aload 0 (x_aload 0 (x_get 6 10 (x_callr (some 6) 2 spr_F6_byteAt (x_int 32 (x_icmp_ne (b_F6_advance_50 J Q) (b_F6_advance_37 J Q)))))))))))))))))
set_option maxRecDepth 100000 in
theorem s_F6_advance_0 {p : Program} {l : Launch} {e : Env} {R : Room} {s : State} {m : MethodId} {args : Array Value} {below : List Frame} {meth : Method} {c : Code} {nW : Nat} {dC : Nat → ClassId} {dI : Nat → Nat → Nat} {k : Nat → ClassId} {g : Nat → Nat} {A : Nat → Prop} {J : Nat → List qV → List qV → qW → Prop} {Q : qR} (X : q_X p R s m args meth c cX6_advance 2 nW 2 42 RX6 none dC dI k g A) (hJ : ∀ d : Nat, q_Sd p l e R s m args below meth c 2 nW dC dI k g A (MQ below (q_post (dC, dI) k g nW Q A) args s 0 0 A) d (x_cut (is_F6_advance d) (J d))) : q_Sd p l e R s m args below meth c 2 nW dC dI k g A (MQ below (q_post (dC, dI) k g nW Q A) args s 0 0 A) 0 (b_F6_advance_0 J Q) := by
  unfold b_F6_advance_0
  refine s_aload_n X rfl dF6_advance_0 ?_
  refine s_get X (T := TX6) (C := RX6) (N := 15) tu_X6 rfl (by decide) tw_283 dF6_advance_1 ?_
  refine s_aload_n X rfl dF6_advance_4 ?_
  refine s_get X (T := TX6) (C := RX6) (N := 15) tu_X6 rfl (by decide) tw_277 dF6_advance_5 ?_
  refine s_icmp_ge X (tgt := 50) dF6_advance_8 (by decide) ?_ ?_
  · exact s_F6_advance_50 X hJ
  · refine s_aload_n X rfl dF6_advance_11 ?_
    refine s_aload_n X rfl dF6_advance_12 ?_
    refine s_get X (T := TX6) (C := RX6) (N := 15) tu_X6 rfl (by decide) tw_283 dF6_advance_13 ?_
    refine s_callVr X (m_F6_byteAt l) tw_376 tw_377 tw_1509 tw_128 tw_378 rfl (by decide +kernel) ⟨by decide, by decide⟩ dF6_advance_16 ?_
    refine s_bipush X ⟨by decide, by decide⟩ (by decide) dF6_advance_19 ?_
    refine s_icmp_eq X (tgt := 37) dF6_advance_21 (by decide) ?_ ?_
    · exact s_F6_advance_37 X hJ
    · refine s_aload_n X rfl dF6_advance_24 ?_
      refine s_aload_n X rfl dF6_advance_25 ?_
      refine s_get X (T := TX6) (C := RX6) (N := 15) tu_X6 rfl (by decide) tw_283 dF6_advance_26 ?_
      refine s_callVr X (m_F6_byteAt l) tw_376 tw_377 tw_1509 tw_128 tw_378 rfl (by decide +kernel) ⟨by decide, by decide⟩ dF6_advance_29 ?_
      refine s_bipush X ⟨by decide, by decide⟩ (by decide) dF6_advance_32 ?_
      refine s_icmp_ne X (tgt := 50) dF6_advance_34 (by decide) ?_ ?_
      · exact s_F6_advance_50 X hJ
      · exact s_F6_advance_37 X hJ

def sp_F6_advance : qS := fun av w Q => ∃ (rln : Int) (rfa : Int) (rpl : Int) (rst : Int) (rnx : Int) (rtk : Int) (rnm : Int) (rnp : Int) (rnd : Int) (tp : Nat → Int), av = [q2 0] ∧ w = [.inr (6, [q2 2, q2 3, q2 4, q2 5, q2 6, q2 1, q1 rln, q1 rfa, q1 rpl, q1 rst, q1 rnx, q1 rtk, q1 rnm, q1 rnp, q1 rnd]), .inl (1, 600, .inl tp)] ∧ (0 ≤ rln ∧ rln ≤ 600 ∧ 0 ≤ rnx ∧ rnx ≤ rln ∧ 0 ≤ rst ∧ rst ≤ 600) ∧ (∀ (x_rst : Int) (x_rnx : Int) (x_rtk : Int) (x_rnm : Int), (AdvR (tc tp) rln rnx x_rst x_rnx x_rtk x_rnm ∧ (rnx ≤ x_rnx ∧ x_rnx ≤ rln ∧ 0 ≤ x_rst ∧ x_rst ≤ 600)) → Q none ([.inr (6, [q2 2, q2 3, q2 4, q2 5, q2 6, q2 1, q1 rln, q1 rfa, q1 rpl, q1 x_rst, q1 x_rnx, q1 x_rtk, q1 x_rnm, q1 rnp, q1 rnd]), .inl (1, 600, .inl tp)]))
def I_F6_advance (rln : Int) (rfa : Int) (rpl : Int) (rst : Int) (rnx : Int) (rtk : Int) (rnm : Int) (rnp : Int) (rnd : Int) (tp : Nat → Int) : Nat → Nat → List qV → List qV → qW → Prop := fun dz mz vz sz wz => if dz = 0 then (∃ (y_rnx : Int), vz = [q2 0] ∧ sz = [] ∧ wz = [.inr (6, [q2 2, q2 3, q2 4, q2 5, q2 6, q2 1, q1 rln, q1 rfa, q1 rpl, q1 rst, q1 y_rnx, q1 rtk, q1 rnm, q1 rnp, q1 rnd]), .inl (1, 600, .inl tp)] ∧ mz = 10000 + (rln - y_rnx).toNat ∧ (rnx ≤ y_rnx ∧ y_rnx ≤ rln) ∧ (RunA isS (tc tp) rnx y_rnx)) else if dz = 101 then (∃ (y_rst : Int) (y_rnx : Int), vz = [q2 0] ∧ sz = [] ∧ wz = [.inr (6, [q2 2, q2 3, q2 4, q2 5, q2 6, q2 1, q1 rln, q1 rfa, q1 rpl, q1 y_rst, q1 y_rnx, q1 rtk, q1 rnm, q1 rnp, q1 rnd]), .inl (1, 600, .inl tp)] ∧ mz = (rln - y_rnx).toNat ∧ (rnx ≤ y_rnx ∧ y_rnx ≤ rln ∧ 0 ≤ y_rst ∧ y_rst ≤ 600 ∧ y_rst < y_rnx) ∧ (y_rst = tB (tc tp) rln rnx) ∧ (isL (byt (tc tp) y_rst)) ∧ (RunA isL (tc tp) y_rst y_rnx)) else False
set_option maxHeartbeats 4000000 in
set_option maxRecDepth 100000 in
theorem m_F6_advance (l : Launch) : q_M l yX6_advance cX6_advance 2 none 2 42 sp_F6_advance := by
  refine q_meth (by decide) (fun av w Q h => by obtain ⟨rln, rfa, rpl, rst, rnx, rtk, rnm, rnp, rnd, tp, rfl, rfl, hr, hQ⟩ := h; exact Nat.le_of_ble_eq_true rfl) ?_
  intro p e R s m args below meth c dC dI k g A av w Q hsp oka okw X
  obtain ⟨rln, rfa, rpl, rst, rnx, rtk, rnm, rnp, rnd, tp, rfl, rfl, hr, hQ⟩ := hsp
  refine s_mono (q_loopn (is := is_F6_advance) (I_F6_advance rln rfa rpl rst rnx rtk rnm rnp rnd tp) (fun dz J => if dz = 0 then b_F6_advance_0 J Q else if dz = 101 then b_F6_advance_101 J Q else q_F) ?hs ?hv 0) ?_
  case hs =>
    intro d J hJ
    by_cases hq_0 : d = 0
    · subst hq_0; exact s_F6_advance_0 X hJ
    by_cases hq_101 : d = 101
    · subst hq_101; exact s_F6_advance_101 X hJ
    simp only [hq_0, hq_101, if_false]
    exact s_F
  case hv =>
    intro dz mz vz sz wz hI okv oks okw hlen
    by_cases hq_0 : dz = 0
    · subst hq_0
      obtain ⟨y_rnx, rfl, rfl, rfl, hn, hp, hs9⟩ := hI
      apply And.intro
      · intro hq_8
        apply And.intro
        · exact trivial
        apply And.intro
        · intro hq_66
          refine Exists.intro [0, 1, 2, 3, 4, 5, 6] (Exists.intro [q2 0, q1 _] (Exists.intro ([.inr (6, [q2 2, q2 3, q2 4, q2 5, q2 6, q2 1, q1 _, q1 _, q1 _, q1 _, q1 _, q1 _, q1 _, q1 _, q1 _]), .inl (1, 600, .inl _)]) (And.intro rfl (And.intro rfl (And.intro rfl (And.intro ⟨⟨_, rfl⟩, rfl⟩ ?_))))))
          refine Exists.intro _ (Exists.intro _ (Exists.intro _ (Exists.intro _ (Exists.intro _ (Exists.intro _ (Exists.intro _ (Exists.intro _ (Exists.intro _ (Exists.intro _ (Exists.intro _ (And.intro rfl (And.intro rfl (And.intro (by first | assumption | exact q_rg_up (by assumption) (by omega) | exact q_rg_up (q_rg_up (by assumption) (by omega)) (by omega) | exact q_rg_cpy (by assumption) (by assumption) | omega) (?_))))))))))))))
          intro zq_80 hq_80
          have hz9 := BAt_e hq_80.1 (by omega) (by omega)
          try have hb9 : y_rnx = tB (tc tp) rln rnx := (rn_eq (P := isS) (Run_o hs9 (by omega) (by omega) (fun _ => NoS (by omega) (by omega) (BAt_e hq_16.1 (by omega) (by omega)) (BAt_e hq_29.1 (by omega) (by omega))))).symm
          intro zq_90 hq_90
          first | replace hq_90 := e_add hq_90 (by omega) | replace hq_90 := e_rng hq_90
          apply And.intro
          · exact trivial
          refine Exists.intro [] (Exists.intro [q1 _] (Exists.intro [] (And.intro rfl (And.intro rfl (And.intro rfl (And.intro trivial ?_))))))
          refine Exists.intro _ (And.intro rfl (And.intro rfl (?_)))
          intro zq_95 hq_95
          apply And.intro
          · intro hq_98
            have hn9 := dj8 (P := isL) hq_95 hq_98 hz9
            refine Exists.intro [] (Exists.intro [q1 _] (Exists.intro [] (And.intro rfl (And.intro rfl (And.intro rfl (And.intro trivial ?_))))))
            refine Exists.intro _ (And.intro rfl (And.intro rfl (?_)))
            intro zq_148 hq_148
            apply And.intro
            · intro hq_151
              have hm9 := dj8 (P := isD) hq_148 hq_151 hz9
              apply And.intro
              · intro hq_166
                apply And.intro
                · exact trivial
                exact hQ _ _ _ _ ⟨(by first | exact AdvE (Run_o hs9 (by omega) (by omega) (fun hq_9 => absurd hq_9 (by omega))) (by omega) | exact AdvW hb9 (by omega) hl9 (Run_o hr9 (by omega) (by omega) (fun hq_9 => absurd hq_9 (by omega))) | exact AdvW hb9 (by omega) hl9 (Run_o hr9 (by omega) (by omega) (fun _ => dj8 (P := isL) hq_120 hq_123 (BAt_e hq_117.1 (by omega) (by omega)))) | exact AdvD hb9 (by omega) hd9 hq_156.1 hq_156.2.1 hq_156.2.2 | exact AdvS hb9 (by omega) hn9 hm9 (by omega) (by omega) | (exfalso; omega)), by omega⟩
              · intro hq_166
                apply And.intro
                · exact trivial
                exact hQ _ _ _ _ ⟨(by first | exact AdvE (Run_o hs9 (by omega) (by omega) (fun hq_9 => absurd hq_9 (by omega))) (by omega) | exact AdvW hb9 (by omega) hl9 (Run_o hr9 (by omega) (by omega) (fun hq_9 => absurd hq_9 (by omega))) | exact AdvW hb9 (by omega) hl9 (Run_o hr9 (by omega) (by omega) (fun _ => dj8 (P := isL) hq_120 hq_123 (BAt_e hq_117.1 (by omega) (by omega)))) | exact AdvD hb9 (by omega) hd9 hq_156.1 hq_156.2.1 hq_156.2.2 | exact AdvS hb9 (by omega) hn9 hm9 (by omega) (by omega) | (exfalso; omega)), by omega⟩
            · intro hq_151
              have hd9 := dj9 hq_148 hq_151
              rw [hz9] at hd9
              refine Exists.intro [0, 1, 2, 3, 4, 5, 6] (Exists.intro [q2 0, q1 _] (Exists.intro ([.inr (6, [q2 2, q2 3, q2 4, q2 5, q2 6, q2 1, q1 _, q1 _, q1 _, q1 _, q1 _, q1 _, q1 _, q1 _, q1 _]), .inl (1, 600, .inl _)]) (And.intro rfl (And.intro rfl (And.intro rfl (And.intro ⟨⟨_, rfl⟩, rfl⟩ ?_))))))
              refine Exists.intro _ (Exists.intro _ (Exists.intro _ (Exists.intro _ (Exists.intro _ (Exists.intro _ (Exists.intro _ (Exists.intro _ (Exists.intro _ (Exists.intro _ (Exists.intro _ (And.intro rfl (And.intro rfl (And.intro (by first | assumption | exact q_rg_up (by assumption) (by omega) | exact q_rg_up (q_rg_up (by assumption) (by omega)) (by omega) | exact q_rg_cpy (by assumption) (by assumption) | omega) (And.intro (by first | assumption | exact q_rg_up (by assumption) (by omega) | exact q_rg_up (q_rg_up (by assumption) (by omega)) (by omega) | exact q_rg_cpy (by assumption) (by assumption) | omega) (And.intro (by first | assumption | exact q_rg_up (by assumption) (by omega) | exact q_rg_up (q_rg_up (by assumption) (by omega)) (by omega) | exact q_rg_cpy (by assumption) (by assumption) | omega) (?_))))))))))))))))
              intro x_rnx_156 x_rtk_156 x_rnm_156 hq_156
              have k156 := hq_156.1.1
              have l156 := hq_156.1.2.1
              exact hQ _ _ _ _ ⟨(by first | exact AdvE (Run_o hs9 (by omega) (by omega) (fun hq_9 => absurd hq_9 (by omega))) (by omega) | exact AdvW hb9 (by omega) hl9 (Run_o hr9 (by omega) (by omega) (fun hq_9 => absurd hq_9 (by omega))) | exact AdvW hb9 (by omega) hl9 (Run_o hr9 (by omega) (by omega) (fun _ => dj8 (P := isL) hq_120 hq_123 (BAt_e hq_117.1 (by omega) (by omega)))) | exact AdvD hb9 (by omega) hd9 hq_156.1 hq_156.2.1 hq_156.2.2 | exact AdvS hb9 (by omega) hn9 hm9 (by omega) (by omega) | (exfalso; omega)), by omega⟩
          · intro hq_98
            have hl8 := dj9 hq_95 hq_98
            have hl9 := hl8
            rw [hz9] at hl9
            exact ⟨_, ⟨_, _, rfl, rfl, rfl, rfl, (by first | assumption | exact q_rg_up (by assumption) (by omega) | exact q_rg_up (q_rg_up (by assumption) (by omega)) (by omega) | exact q_rg_cpy (by assumption) (by assumption) | omega), (by first | exact hb9 | (exfalso; omega)), hl9, (by first | exact RunA_1 hz9 (by omega) hl8 | (exfalso; omega) | exact RunA_s hr9 (by omega) (BAt_e hq_117.1 (by omega) (by omega)) (dj9 hq_120 hq_123))⟩, by omega⟩
        · intro hq_66
          apply And.intro
          · exact trivial
          exact hQ _ _ _ _ ⟨(by first | exact AdvE (Run_o hs9 (by omega) (by omega) (fun hq_9 => absurd hq_9 (by omega))) (by omega) | exact AdvW hb9 (by omega) hl9 (Run_o hr9 (by omega) (by omega) (fun hq_9 => absurd hq_9 (by omega))) | exact AdvW hb9 (by omega) hl9 (Run_o hr9 (by omega) (by omega) (fun _ => dj8 (P := isL) hq_120 hq_123 (BAt_e hq_117.1 (by omega) (by omega)))) | exact AdvD hb9 (by omega) hd9 hq_156.1 hq_156.2.1 hq_156.2.2 | exact AdvS hb9 (by omega) hn9 hm9 (by omega) (by omega) | (exfalso; omega)), by omega⟩
      · intro hq_8
        refine Exists.intro [0, 1, 2, 3, 4, 5, 6] (Exists.intro [q2 0, q1 _] (Exists.intro ([.inr (6, [q2 2, q2 3, q2 4, q2 5, q2 6, q2 1, q1 _, q1 _, q1 _, q1 _, q1 _, q1 _, q1 _, q1 _, q1 _]), .inl (1, 600, .inl _)]) (And.intro rfl (And.intro rfl (And.intro rfl (And.intro ⟨⟨_, rfl⟩, rfl⟩ ?_))))))
        refine Exists.intro _ (Exists.intro _ (Exists.intro _ (Exists.intro _ (Exists.intro _ (Exists.intro _ (Exists.intro _ (Exists.intro _ (Exists.intro _ (Exists.intro _ (Exists.intro _ (And.intro rfl (And.intro rfl (And.intro (by first | assumption | exact q_rg_up (by assumption) (by omega) | exact q_rg_up (q_rg_up (by assumption) (by omega)) (by omega) | exact q_rg_cpy (by assumption) (by assumption) | omega) (?_))))))))))))))
        intro zq_16 hq_16
        apply And.intro
        · intro hq_21
          intro zq_43 hq_43
          first | replace hq_43 := e_add hq_43 (by omega) | replace hq_43 := e_rng hq_43
          apply And.intro
          · exact trivial
          exact ⟨_, ⟨_, rfl, rfl, rfl, rfl, (by first | assumption | exact q_rg_up (by assumption) (by omega) | exact q_rg_up (q_rg_up (by assumption) (by omega)) (by omega) | exact q_rg_cpy (by assumption) (by assumption) | omega), (by first | exact RunA_0 | exact RunA_s hs9 (by omega) (BAt_e hq_16.1 (by omega) (by omega)) (Or.inl (by omega)) | exact RunA_s hs9 (by omega) (BAt_e hq_29.1 (by omega) (by omega)) (Or.inr (by omega)))⟩, by omega⟩
        · intro hq_21
          refine Exists.intro [0, 1, 2, 3, 4, 5, 6] (Exists.intro [q2 0, q1 _] (Exists.intro ([.inr (6, [q2 2, q2 3, q2 4, q2 5, q2 6, q2 1, q1 _, q1 _, q1 _, q1 _, q1 _, q1 _, q1 _, q1 _, q1 _]), .inl (1, 600, .inl _)]) (And.intro rfl (And.intro rfl (And.intro rfl (And.intro ⟨⟨_, rfl⟩, rfl⟩ ?_))))))
          refine Exists.intro _ (Exists.intro _ (Exists.intro _ (Exists.intro _ (Exists.intro _ (Exists.intro _ (Exists.intro _ (Exists.intro _ (Exists.intro _ (Exists.intro _ (Exists.intro _ (And.intro rfl (And.intro rfl (And.intro (by first | assumption | exact q_rg_up (by assumption) (by omega) | exact q_rg_up (q_rg_up (by assumption) (by omega)) (by omega) | exact q_rg_cpy (by assumption) (by assumption) | omega) (?_))))))))))))))
          intro zq_29 hq_29
          apply And.intro
          · intro hq_34
            apply And.intro
            · exact trivial
            apply And.intro
            · intro hq_66
              refine Exists.intro [0, 1, 2, 3, 4, 5, 6] (Exists.intro [q2 0, q1 _] (Exists.intro ([.inr (6, [q2 2, q2 3, q2 4, q2 5, q2 6, q2 1, q1 _, q1 _, q1 _, q1 _, q1 _, q1 _, q1 _, q1 _, q1 _]), .inl (1, 600, .inl _)]) (And.intro rfl (And.intro rfl (And.intro rfl (And.intro ⟨⟨_, rfl⟩, rfl⟩ ?_))))))
              refine Exists.intro _ (Exists.intro _ (Exists.intro _ (Exists.intro _ (Exists.intro _ (Exists.intro _ (Exists.intro _ (Exists.intro _ (Exists.intro _ (Exists.intro _ (Exists.intro _ (And.intro rfl (And.intro rfl (And.intro (by first | assumption | exact q_rg_up (by assumption) (by omega) | exact q_rg_up (q_rg_up (by assumption) (by omega)) (by omega) | exact q_rg_cpy (by assumption) (by assumption) | omega) (?_))))))))))))))
              intro zq_80 hq_80
              have hz9 := BAt_e hq_80.1 (by omega) (by omega)
              try have hb9 : y_rnx = tB (tc tp) rln rnx := (rn_eq (P := isS) (Run_o hs9 (by omega) (by omega) (fun _ => NoS (by omega) (by omega) (BAt_e hq_16.1 (by omega) (by omega)) (BAt_e hq_29.1 (by omega) (by omega))))).symm
              intro zq_90 hq_90
              first | replace hq_90 := e_add hq_90 (by omega) | replace hq_90 := e_rng hq_90
              apply And.intro
              · exact trivial
              refine Exists.intro [] (Exists.intro [q1 _] (Exists.intro [] (And.intro rfl (And.intro rfl (And.intro rfl (And.intro trivial ?_))))))
              refine Exists.intro _ (And.intro rfl (And.intro rfl (?_)))
              intro zq_95 hq_95
              apply And.intro
              · intro hq_98
                have hn9 := dj8 (P := isL) hq_95 hq_98 hz9
                refine Exists.intro [] (Exists.intro [q1 _] (Exists.intro [] (And.intro rfl (And.intro rfl (And.intro rfl (And.intro trivial ?_))))))
                refine Exists.intro _ (And.intro rfl (And.intro rfl (?_)))
                intro zq_148 hq_148
                apply And.intro
                · intro hq_151
                  have hm9 := dj8 (P := isD) hq_148 hq_151 hz9
                  apply And.intro
                  · intro hq_166
                    apply And.intro
                    · exact trivial
                    exact hQ _ _ _ _ ⟨(by first | exact AdvE (Run_o hs9 (by omega) (by omega) (fun hq_9 => absurd hq_9 (by omega))) (by omega) | exact AdvW hb9 (by omega) hl9 (Run_o hr9 (by omega) (by omega) (fun hq_9 => absurd hq_9 (by omega))) | exact AdvW hb9 (by omega) hl9 (Run_o hr9 (by omega) (by omega) (fun _ => dj8 (P := isL) hq_120 hq_123 (BAt_e hq_117.1 (by omega) (by omega)))) | exact AdvD hb9 (by omega) hd9 hq_156.1 hq_156.2.1 hq_156.2.2 | exact AdvS hb9 (by omega) hn9 hm9 (by omega) (by omega) | (exfalso; omega)), by omega⟩
                  · intro hq_166
                    apply And.intro
                    · exact trivial
                    exact hQ _ _ _ _ ⟨(by first | exact AdvE (Run_o hs9 (by omega) (by omega) (fun hq_9 => absurd hq_9 (by omega))) (by omega) | exact AdvW hb9 (by omega) hl9 (Run_o hr9 (by omega) (by omega) (fun hq_9 => absurd hq_9 (by omega))) | exact AdvW hb9 (by omega) hl9 (Run_o hr9 (by omega) (by omega) (fun _ => dj8 (P := isL) hq_120 hq_123 (BAt_e hq_117.1 (by omega) (by omega)))) | exact AdvD hb9 (by omega) hd9 hq_156.1 hq_156.2.1 hq_156.2.2 | exact AdvS hb9 (by omega) hn9 hm9 (by omega) (by omega) | (exfalso; omega)), by omega⟩
                · intro hq_151
                  have hd9 := dj9 hq_148 hq_151
                  rw [hz9] at hd9
                  refine Exists.intro [0, 1, 2, 3, 4, 5, 6] (Exists.intro [q2 0, q1 _] (Exists.intro ([.inr (6, [q2 2, q2 3, q2 4, q2 5, q2 6, q2 1, q1 _, q1 _, q1 _, q1 _, q1 _, q1 _, q1 _, q1 _, q1 _]), .inl (1, 600, .inl _)]) (And.intro rfl (And.intro rfl (And.intro rfl (And.intro ⟨⟨_, rfl⟩, rfl⟩ ?_))))))
                  refine Exists.intro _ (Exists.intro _ (Exists.intro _ (Exists.intro _ (Exists.intro _ (Exists.intro _ (Exists.intro _ (Exists.intro _ (Exists.intro _ (Exists.intro _ (Exists.intro _ (And.intro rfl (And.intro rfl (And.intro (by first | assumption | exact q_rg_up (by assumption) (by omega) | exact q_rg_up (q_rg_up (by assumption) (by omega)) (by omega) | exact q_rg_cpy (by assumption) (by assumption) | omega) (And.intro (by first | assumption | exact q_rg_up (by assumption) (by omega) | exact q_rg_up (q_rg_up (by assumption) (by omega)) (by omega) | exact q_rg_cpy (by assumption) (by assumption) | omega) (And.intro (by first | assumption | exact q_rg_up (by assumption) (by omega) | exact q_rg_up (q_rg_up (by assumption) (by omega)) (by omega) | exact q_rg_cpy (by assumption) (by assumption) | omega) (?_))))))))))))))))
                  intro x_rnx_156 x_rtk_156 x_rnm_156 hq_156
                  have k156 := hq_156.1.1
                  have l156 := hq_156.1.2.1
                  exact hQ _ _ _ _ ⟨(by first | exact AdvE (Run_o hs9 (by omega) (by omega) (fun hq_9 => absurd hq_9 (by omega))) (by omega) | exact AdvW hb9 (by omega) hl9 (Run_o hr9 (by omega) (by omega) (fun hq_9 => absurd hq_9 (by omega))) | exact AdvW hb9 (by omega) hl9 (Run_o hr9 (by omega) (by omega) (fun _ => dj8 (P := isL) hq_120 hq_123 (BAt_e hq_117.1 (by omega) (by omega)))) | exact AdvD hb9 (by omega) hd9 hq_156.1 hq_156.2.1 hq_156.2.2 | exact AdvS hb9 (by omega) hn9 hm9 (by omega) (by omega) | (exfalso; omega)), by omega⟩
              · intro hq_98
                have hl8 := dj9 hq_95 hq_98
                have hl9 := hl8
                rw [hz9] at hl9
                exact ⟨_, ⟨_, _, rfl, rfl, rfl, rfl, (by first | assumption | exact q_rg_up (by assumption) (by omega) | exact q_rg_up (q_rg_up (by assumption) (by omega)) (by omega) | exact q_rg_cpy (by assumption) (by assumption) | omega), (by first | exact hb9 | (exfalso; omega)), hl9, (by first | exact RunA_1 hz9 (by omega) hl8 | (exfalso; omega) | exact RunA_s hr9 (by omega) (BAt_e hq_117.1 (by omega) (by omega)) (dj9 hq_120 hq_123))⟩, by omega⟩
            · intro hq_66
              apply And.intro
              · exact trivial
              exact hQ _ _ _ _ ⟨(by first | exact AdvE (Run_o hs9 (by omega) (by omega) (fun hq_9 => absurd hq_9 (by omega))) (by omega) | exact AdvW hb9 (by omega) hl9 (Run_o hr9 (by omega) (by omega) (fun hq_9 => absurd hq_9 (by omega))) | exact AdvW hb9 (by omega) hl9 (Run_o hr9 (by omega) (by omega) (fun _ => dj8 (P := isL) hq_120 hq_123 (BAt_e hq_117.1 (by omega) (by omega)))) | exact AdvD hb9 (by omega) hd9 hq_156.1 hq_156.2.1 hq_156.2.2 | exact AdvS hb9 (by omega) hn9 hm9 (by omega) (by omega) | (exfalso; omega)), by omega⟩
          · intro hq_34
            intro zq_43 hq_43
            first | replace hq_43 := e_add hq_43 (by omega) | replace hq_43 := e_rng hq_43
            apply And.intro
            · exact trivial
            exact ⟨_, ⟨_, rfl, rfl, rfl, rfl, (by first | assumption | exact q_rg_up (by assumption) (by omega) | exact q_rg_up (q_rg_up (by assumption) (by omega)) (by omega) | exact q_rg_cpy (by assumption) (by assumption) | omega), (by first | exact RunA_0 | exact RunA_s hs9 (by omega) (BAt_e hq_16.1 (by omega) (by omega)) (Or.inl (by omega)) | exact RunA_s hs9 (by omega) (BAt_e hq_29.1 (by omega) (by omega)) (Or.inr (by omega)))⟩, by omega⟩
    by_cases hq_101 : dz = 101
    · subst hq_101
      obtain ⟨y_rst, y_rnx, rfl, rfl, rfl, hn, hp, hb9, hl9, hr9⟩ := hI
      apply And.intro
      · intro hq_109
        apply And.intro
        · exact trivial
        exact hQ _ _ _ _ ⟨(by first | exact AdvE (Run_o hs9 (by omega) (by omega) (fun hq_9 => absurd hq_9 (by omega))) (by omega) | exact AdvW hb9 (by omega) hl9 (Run_o hr9 (by omega) (by omega) (fun hq_9 => absurd hq_9 (by omega))) | exact AdvW hb9 (by omega) hl9 (Run_o hr9 (by omega) (by omega) (fun _ => dj8 (P := isL) hq_120 hq_123 (BAt_e hq_117.1 (by omega) (by omega)))) | exact AdvD hb9 (by omega) hd9 hq_156.1 hq_156.2.1 hq_156.2.2 | exact AdvS hb9 (by omega) hn9 hm9 (by omega) (by omega) | (exfalso; omega)), by omega⟩
      · intro hq_109
        refine Exists.intro [0, 1, 2, 3, 4, 5, 6] (Exists.intro [q2 0, q1 _] (Exists.intro ([.inr (6, [q2 2, q2 3, q2 4, q2 5, q2 6, q2 1, q1 _, q1 _, q1 _, q1 _, q1 _, q1 _, q1 _, q1 _, q1 _]), .inl (1, 600, .inl _)]) (And.intro rfl (And.intro rfl (And.intro rfl (And.intro ⟨⟨_, rfl⟩, rfl⟩ ?_))))))
        refine Exists.intro _ (Exists.intro _ (Exists.intro _ (Exists.intro _ (Exists.intro _ (Exists.intro _ (Exists.intro _ (Exists.intro _ (Exists.intro _ (Exists.intro _ (Exists.intro _ (And.intro rfl (And.intro rfl (And.intro (by first | assumption | exact q_rg_up (by assumption) (by omega) | exact q_rg_up (q_rg_up (by assumption) (by omega)) (by omega) | exact q_rg_cpy (by assumption) (by assumption) | omega) (?_))))))))))))))
        intro zq_117 hq_117
        refine Exists.intro [] (Exists.intro [q1 _] (Exists.intro [] (And.intro rfl (And.intro rfl (And.intro rfl (And.intro trivial ?_))))))
        refine Exists.intro _ (And.intro rfl (And.intro rfl (?_)))
        intro zq_120 hq_120
        apply And.intro
        · intro hq_123
          apply And.intro
          · exact trivial
          exact hQ _ _ _ _ ⟨(by first | exact AdvE (Run_o hs9 (by omega) (by omega) (fun hq_9 => absurd hq_9 (by omega))) (by omega) | exact AdvW hb9 (by omega) hl9 (Run_o hr9 (by omega) (by omega) (fun hq_9 => absurd hq_9 (by omega))) | exact AdvW hb9 (by omega) hl9 (Run_o hr9 (by omega) (by omega) (fun _ => dj8 (P := isL) hq_120 hq_123 (BAt_e hq_117.1 (by omega) (by omega)))) | exact AdvD hb9 (by omega) hd9 hq_156.1 hq_156.2.1 hq_156.2.2 | exact AdvS hb9 (by omega) hn9 hm9 (by omega) (by omega) | (exfalso; omega)), by omega⟩
        · intro hq_123
          intro zq_132 hq_132
          first | replace hq_132 := e_add hq_132 (by omega) | replace hq_132 := e_rng hq_132
          apply And.intro
          · exact trivial
          exact ⟨_, ⟨_, _, rfl, rfl, rfl, rfl, (by first | assumption | exact q_rg_up (by assumption) (by omega) | exact q_rg_up (q_rg_up (by assumption) (by omega)) (by omega) | exact q_rg_cpy (by assumption) (by assumption) | omega), (by first | exact hb9 | (exfalso; omega)), hl9, (by first | exact RunA_1 hz9 (by omega) hl8 | (exfalso; omega) | exact RunA_s hr9 (by omega) (BAt_e hq_117.1 (by omega) (by omega)) (dj9 hq_120 hq_123))⟩, by omega⟩
    simp only [I_F6_advance, hq_0, hq_101, if_false] at hI
  rintro lv st w' ⟨rfl, rfl, rfl⟩
  exact ⟨_, _, rfl, rfl, rfl, rfl, (by first | assumption | exact q_rg_up (by assumption) (by omega) | exact q_rg_up (q_rg_up (by assumption) (by omega)) (by omega) | exact q_rg_cpy (by assumption) (by assumption) | omega), (by first | exact RunA_0 | exact RunA_s hs9 (by omega) (BAt_e hq_16.1 (by omega) (by omega)) (Or.inl (by omega)) | exact RunA_s hs9 (by omega) (BAt_e hq_29.1 (by omega) (by omega)) (Or.inr (by omega)))⟩
