/-! ===== bytes fed, places of texts ===== -/
def byS (v s : Int) : Int := (Int32.ofInt ((Int32.ofInt v >>> (Int32.ofInt s &&& 31)).toInt)).toInt8.toInt32.toInt
def ptN (t : Nat → Int) (n v : Int) : Nat → (Nat → Int)
  | 0 => t
  | m + 1 => q_up (ptN t n v m) (n + (m : Int)).toNat (byS v (24 - 8 * (m : Int)))
def fd5 (t : Nat → Int) (n a b c d e : Int) : Nat → Int := ptN (ptN (ptN (ptN (ptN t n a 4) (n + 4) b 4) (n + 4 + 4) c 4) (n + 4 + 4 + 4) d 4) (n + 4 + 4 + 4 + 4) e 4
theorem pt_0 {t : Nat → Int} {n v s : Int} (hs : s = 24) : t = ptN t n v ((24 - s) / 8).toNat := by subst hs; rfl
theorem pt_s {t y : Nat → Int} {n v s s' i z1 z2 : Int} (h : y = ptN t n v ((24 - s) / 8).toNat) (h1 : z1 = (Int32.ofInt v >>> (Int32.ofInt s &&& 31)).toInt) (h2 : z2 = (Int32.ofInt z1).toInt8.toInt32.toInt) (hs : 0 ≤ s ∧ s ≤ 24 ∧ s % 8 = 0) (hi : 8 * (i - n) = 24 - s) (e : s' = s - 8) : q_up y i.toNat z2 = ptN t n v ((24 - s') / 8).toNat := by
  have e1 : ((24 - s') / 8).toNat = ((24 - s) / 8).toNat + 1 := by omega
  rw [e1]
  show _ = q_up (ptN t n v ((24 - s) / 8).toNat) (n + (((24 - s) / 8).toNat : Int)).toNat (byS v (24 - 8 * (((24 - s) / 8).toNat : Int)))
  rw [h, show n + (((24 - s) / 8).toNat : Int) = i by omega, show 24 - 8 * (((24 - s) / 8).toNat : Int) = s by omega]
  unfold byS
  rw [h2, h1]
theorem pt_e {t y : Nat → Int} {n v s : Int} (h : y = ptN t n v ((24 - s) / 8).toNat) (hs : s = -8) : y = ptN t n v 4 := by
  subst hs
  exact h
theorem ptN_hi {t : Nat → Int} {n v : Int} : ∀ (m : Nat) {i : Nat}, n + (m : Int) ≤ i → 0 < i → ptN t n v m i = t i := by
  intro m
  induction m with
  | zero => intro i _ _; rfl
  | succ m ih =>
    intro i h h0
    show q_up _ _ _ i = t i
    rw [q_up_n (by omega)]
    exact ih (by omega) h0
theorem ptN_c {t s : Nat → Int} {n v : Int} : ∀ (m : Nat) {N : Nat}, (∀ i : Nat, i < N → t i = s i) → ∀ i : Nat, i < N → ptN t n v m i = ptN s n v m i := by
  intro m
  induction m with
  | zero => intro N h; exact h
  | succ m ih =>
    intro N h i hi
    show q_up _ _ _ i = q_up _ _ _ i
    by_cases c : i = (n + (m : Int)).toNat
    · subst c; rw [q_up_s, q_up_s]
    · rw [q_up_n c, q_up_n c]; exact ih h i hi
theorem fd5_c {t s : Nat → Int} {n a b c d e : Int} {N : Nat} (h : ∀ i : Nat, i < N → t i = s i) : ∀ i : Nat, i < N → fd5 t n a b c d e i = fd5 s n a b c d e i := ptN_c 4 (ptN_c 4 (ptN_c 4 (ptN_c 4 (ptN_c 4 h))))
theorem fd5_hi {t : Nat → Int} {n a b c d e : Int} {i : Nat} (h : n + 20 ≤ i) (h0 : 0 < i) : fd5 t n a b c d e i = t i := by
  unfold fd5
  rw [ptN_hi 4 (by omega) h0, ptN_hi 4 (by omega) h0, ptN_hi 4 (by omega) h0, ptN_hi 4 (by omega) h0, ptN_hi 4 (by omega) h0]
/-- where a text may come; its number -/
def PlO (a b : Int) (mn : Nat → Int) : Prop := (0 ≤ a ∧ a ≤ 3) ∧ ((b = -1 ∧ ¬ mn a.toNat = 2) ∨ (¬ b = -1 ∧ 0 ≤ b ∧ b < mn a.toNat))
def kTx (a b : Int) (mn : Nat → Int) : Int := if b = -1 then mn a.toNat else b
theorem Pl_n {a b : Int} {mn : Nat → Int} (h : ¬ (0 ≤ a ∧ a ≤ 3)) : ¬ PlO a b mn := fun h9 => h h9.1
theorem Pl_f {a b z : Int} {mn : Nat → Int} (hb : b = -1) (hz : z = mn a.toNat) (h : 2 ≤ z) (hr : 0 ≤ mn a.toNat ∧ mn a.toNat ≤ 2) : ¬ PlO a b mn := by
  unfold PlO
  omega
theorem Pl_y {a b z : Int} {mn : Nat → Int} (ha : 0 ≤ a ∧ a ≤ 3) (hb : b = -1) (hz : z = mn a.toNat) (h : z < 2) : PlO a b mn ∧ z = kTx a b mn := by
  unfold PlO kTx
  rw [if_pos hb]
  exact ⟨⟨ha, Or.inl ⟨hb, by omega⟩⟩, hz⟩
theorem Pl_h {a b z : Int} {mn : Nat → Int} (ha : 0 ≤ a ∧ a ≤ 3) (hb : ¬ b = -1) (h : z = 1 ∧ (0 ≤ b ∧ b < mn a.toNat ∧ b ≤ 1) ∨ z = 0 ∧ ¬ (0 ≤ b ∧ b < mn a.toNat ∧ b ≤ 1)) (h0 : ¬ z = 0) : PlO a b mn ∧ b = kTx a b mn := by
  unfold PlO kTx
  rw [if_neg hb]
  rcases h with ⟨-, h1, h2, -⟩ | ⟨h1, -⟩
  · exact ⟨⟨ha, Or.inr ⟨hb, h1, h2⟩⟩, rfl⟩
  · exact absurd h1 h0
theorem Pl_0 {a b z : Int} {mn : Nat → Int} (hb : ¬ b = -1) (h : z = 1 ∧ (0 ≤ b ∧ b < mn a.toNat ∧ b ≤ 1) ∨ z = 0 ∧ ¬ (0 ≤ b ∧ b < mn a.toNat ∧ b ≤ 1)) (h0 : z = 0) (hr : 0 ≤ mn a.toNat ∧ mn a.toNat ≤ 2) : ¬ PlO a b mn := by
  unfold PlO
  omega

theorem dF8_put_0 : decode cX8_put 0 = .ok (.bipush 24, 2) := by decide +kernel
theorem dF8_put_2 : decode cX8_put 2 = .ok (.istore_n 2, 1) := by decide +kernel
theorem dF8_put_3 : decode cX8_put 3 = .ok (.iload_n 2, 1) := by decide +kernel
theorem dF8_put_4 : decode cX8_put 4 = .ok (.ifCond .lt 42, 3) := by decide +kernel
theorem dF8_put_7 : decode cX8_put 7 = .ok (.aload_n 0, 1) := by decide +kernel
theorem dF8_put_8 : decode cX8_put 8 = .ok (.getfield 70, 3) := by decide +kernel
theorem dF8_put_11 : decode cX8_put 11 = .ok (.sipush 600, 3) := by decide +kernel
theorem dF8_put_14 : decode cX8_put 14 = .ok (.if_icmp .ge 32, 3) := by decide +kernel
theorem dF8_put_17 : decode cX8_put 17 = .ok (.aload_n 0, 1) := by decide +kernel
theorem dF8_put_18 : decode cX8_put 18 = .ok (.getfield 9, 3) := by decide +kernel
theorem dF8_put_21 : decode cX8_put 21 = .ok (.aload_n 0, 1) := by decide +kernel
theorem dF8_put_22 : decode cX8_put 22 = .ok (.getfield 70, 3) := by decide +kernel
theorem dF8_put_25 : decode cX8_put 25 = .ok (.iload_n 1, 1) := by decide +kernel
theorem dF8_put_26 : decode cX8_put 26 = .ok (.iload_n 2, 1) := by decide +kernel
theorem dF8_put_27 : decode cX8_put 27 = .ok (.ishr, 1) := by decide +kernel
theorem dF8_put_28 : decode cX8_put 28 = .ok (.i2b, 1) := by decide +kernel
theorem dF8_put_29 : decode cX8_put 29 = .ok (.bastore, 1) := by decide +kernel
theorem dF8_put_30 : decode cX8_put 30 = .ok (.aload_n 0, 1) := by decide +kernel
theorem dF8_put_31 : decode cX8_put 31 = .ok (.dup, 1) := by decide +kernel
theorem dF8_put_32 : decode cX8_put 32 = .ok (.getfield 70, 3) := by decide +kernel
theorem dF8_put_35 : decode cX8_put 35 = .ok (.iconst 1, 1) := by decide +kernel
theorem dF8_put_36 : decode cX8_put 36 = .ok (.iadd, 1) := by decide +kernel
theorem dF8_put_37 : decode cX8_put 37 = .ok (.putfield 70, 3) := by decide +kernel
theorem dF8_put_40 : decode cX8_put 40 = .ok (.iinc 2 (-8), 3) := by decide +kernel
theorem dF8_put_43 : decode cX8_put 43 = .ok (.goto (-40), 3) := by decide +kernel
theorem dF8_put_46 : decode cX8_put 46 = .ok (.return_, 1) := by decide +kernel
def is_F8_put : Nat → List Nat := fun d => if d = 3 then [0, 1, 2] else []
set_option maxRecDepth 100000 in
def b_F8_put_46 (J : Nat → List qV → List qV → qW → Prop) (Q : qR) : qK := x_vret Q
set_option maxRecDepth 100000 in
theorem s_F8_put_46 {p : Program} {l : Launch} {e : Env} {R : Room} {s : State} {m : MethodId} {args : Array Value} {below : List Frame} {meth : Method} {c : Code} {nW : Nat} {dC : Nat → ClassId} {dI : Nat → Nat → Nat} {k : Nat → ClassId} {g : Nat → Nat} {A : Nat → Prop} {J : Nat → List qV → List qV → qW → Prop} {Q : qR} (X : q_X p R s m args meth c cX8_put 3 nW 0 0 RX8 none dC dI k g A) (hJ : ∀ d : Nat, q_Sd p l e R s m args below meth c 3 nW dC dI k g A (MQ below (q_post (dC, dI) k g nW Q A) args s 0 0 A) d (x_cut (is_F8_put d) (J d))) : q_Sd p l e R s m args below meth c 3 nW dC dI k g A (MQ below (q_post (dC, dI) k g nW Q A) args s 0 0 A) 46 (b_F8_put_46 J Q) := by
  unfold b_F8_put_46
  exact s_vret X dF8_put_46
set_option maxRecDepth 100000 in
def b_F8_put_3 (J : Nat → List qV → List qV → qW → Prop) (Q : qR) : qK := x_iload 2 (x_if_lt (b_F8_put_46 J Q) (x_aload 0 (x_get 8 6 (x_int 600 (x_icmp_ge (b_F8_put_46 J Q) (x_aload 0 (x_get 8 0 (x_aload 0 (x_get 8 6 (x_iload 1 (x_iload 2 (x_ishr (x_i2b (x_bast (x_nw (x_aload 0 (x_dup (x_get 8 6 (x_int 1 (x_iadd (x_put 8 6 q_oki (x_nw (x_iinc 2 (-8) (x_cut [0, 1, 2] (J 3)))))))))))))))))))))))))
set_option maxRecDepth 100000 in
theorem s_F8_put_3 {p : Program} {l : Launch} {e : Env} {R : Room} {s : State} {m : MethodId} {args : Array Value} {below : List Frame} {meth : Method} {c : Code} {nW : Nat} {dC : Nat → ClassId} {dI : Nat → Nat → Nat} {k : Nat → ClassId} {g : Nat → Nat} {A : Nat → Prop} {J : Nat → List qV → List qV → qW → Prop} {Q : qR} (X : q_X p R s m args meth c cX8_put 3 nW 0 0 RX8 none dC dI k g A) (hJ : ∀ d : Nat, q_Sd p l e R s m args below meth c 3 nW dC dI k g A (MQ below (q_post (dC, dI) k g nW Q A) args s 0 0 A) d (x_cut (is_F8_put d) (J d))) : q_Sd p l e R s m args below meth c 3 nW dC dI k g A (MQ below (q_post (dC, dI) k g nW Q A) args s 0 0 A) 3 (b_F8_put_3 J Q) := by
  unfold b_F8_put_3
  refine s_iload_n X rfl dF8_put_3 ?_
  refine s_if_lt X (tgt := 46) dF8_put_4 (by decide) ?_ ?_
  · exact s_F8_put_46 X hJ
  · refine s_aload_n X rfl dF8_put_7 ?_
    refine s_get X (T := TX8) (C := RX8) (N := 9) tu_X8 rfl (by decide) tw_258 dF8_put_8 ?_
    refine s_sipush X ⟨by decide, by decide⟩ (by decide) dF8_put_11 ?_
    refine s_icmp_ge X (tgt := 46) dF8_put_14 (by decide) ?_ ?_
    · exact s_F8_put_46 X hJ
    · refine s_aload_n X rfl dF8_put_17 ?_
      refine s_get X (T := TX8) (C := RX8) (N := 9) tu_X8 rfl (by decide) tw_249 dF8_put_18 ?_
      refine s_aload_n X rfl dF8_put_21 ?_
      refine s_get X (T := TX8) (C := RX8) (N := 9) tu_X8 rfl (by decide) tw_258 dF8_put_22 ?_
      refine s_iload_n X rfl dF8_put_25 ?_
      refine s_iload_n X rfl dF8_put_26 ?_
      refine s_ishr X dF8_put_27 ?_
      refine s_i2b X dF8_put_28 ?_
      refine s_bast X dF8_put_29 ?_
      refine s_nw ?_
      refine s_aload_n X rfl dF8_put_30 ?_
      refine s_dup X dF8_put_31 ?_
      refine s_get X (T := TX8) (C := RX8) (N := 9) tu_X8 rfl (by decide) tw_258 dF8_put_32 ?_
      refine s_iconst X ⟨by decide, by decide⟩ dF8_put_35 ?_
      refine s_iadd X dF8_put_36 ?_
      refine s_put X (T := TX8) (C := RX8) (N := 9) tu_X8 tyX8_ok nmX8 rfl (by decide) tw_258 rfl (by decide +kernel) q_oki_t dF8_put_37 ?_
      refine s_nw ?_
      refine s_iinc X (by decide) dF8_put_40 ?_
      refine s_goto X (tgt := 3) dF8_put_43 (by decide) ?_
      exact hJ 3
set_option maxRecDepth 100000 in
def b_F8_put_0 (J : Nat → List qV → List qV → qW → Prop) (Q : qR) : qK := x_int 24 (x_istore 2 (x_cut [0, 1, 2] (J 3)))
set_option maxRecDepth 100000 in
theorem s_F8_put_0 {p : Program} {l : Launch} {e : Env} {R : Room} {s : State} {m : MethodId} {args : Array Value} {below : List Frame} {meth : Method} {c : Code} {nW : Nat} {dC : Nat → ClassId} {dI : Nat → Nat → Nat} {k : Nat → ClassId} {g : Nat → Nat} {A : Nat → Prop} {J : Nat → List qV → List qV → qW → Prop} {Q : qR} (X : q_X p R s m args meth c cX8_put 3 nW 0 0 RX8 none dC dI k g A) (hJ : ∀ d : Nat, q_Sd p l e R s m args below meth c 3 nW dC dI k g A (MQ below (q_post (dC, dI) k g nW Q A) args s 0 0 A) d (x_cut (is_F8_put d) (J d))) : q_Sd p l e R s m args below meth c 3 nW dC dI k g A (MQ below (q_post (dC, dI) k g nW Q A) args s 0 0 A) 0 (b_F8_put_0 J Q) := by
  unfold b_F8_put_0
  refine s_bipush X ⟨by decide, by decide⟩ (by decide) dF8_put_0 ?_
  refine s_istore_n X rfl (by decide) dF8_put_2 ?_
  exact hJ 3

def sp_F8_put : qS := fun av w Q => ∃ (tp : Nat → Int) (ct : Nat → Int) (ln : Int) (fa : Int) (pl : Int) (a : Int), av = [q2 0, q1 a] ∧ w = (wT3 tp ct ln fa pl) ∧ (0 ≤ ln ∧ ln ≤ 596) ∧ (∀ (x1 : Nat → Int) (x2 : Int), (x1 = ptN tp ln a 4 ∧ x2 = ln + 4) → Q none ((wT3 x1 ct x2 fa pl)))
def I_F8_put (tp : Nat → Int) (ct : Nat → Int) (ln : Int) (fa : Int) (pl : Int) (a : Int) : Nat → Nat → List qV → List qV → qW → Prop := fun dz mz vz sz wz => if dz = 3 then (∃ (y1 : Nat → Int) (y2 : Int) (v2 : Int), vz = [q2 0, q1 a, q1 v2] ∧ sz = [] ∧ wz = (wT3 y1 ct y2 fa pl) ∧ mz = (v2 + 8).toNat ∧ (-8 ≤ v2 ∧ v2 ≤ 24 ∧ 8 * (y2 - ln) = 24 - v2 ∧ (v2 + 8) % 8 = 0) ∧ (y1 = ptN tp ln a ((24 - v2) / 8).toNat)) else False
set_option maxHeartbeats 4000000 in
set_option maxRecDepth 100000 in
theorem m_F8_put (l : Launch) : q_M l yX8_put cX8_put 3 none 0 0 sp_F8_put := by
  refine q_meth (by decide) (fun av w Q h => by obtain ⟨tp, ct, ln, fa, pl, a, rfl, rfl, hln, hQ⟩ := h; exact Nat.le_of_ble_eq_true rfl) ?_
  intro p e R s m args below meth c dC dI k g A av w Q hsp oka okw X
  obtain ⟨tp, ct, ln, fa, pl, a, rfl, rfl, hln, hQ⟩ := hsp
  have o_a : -2147483648 ≤ a ∧ a ≤ 2147483647 := oka _ (List.mem_of_getElem? (i := 1) rfl)
  refine s_mono (s_F8_put_0 X (J := fun dz vz sz wz => ∃ mz, I_F8_put tp ct ln fa pl a dz mz vz sz wz) (q_loopn (I_F8_put tp ct ln fa pl a) (fun dz J => if dz = 3 then b_F8_put_3 J Q else q_F) ?hs ?hv)) ?_
  case hs =>
    intro d J hJ
    by_cases h3 : d = 3
    · subst h3; exact s_F8_put_3 X hJ
    simp only [h3, if_false]
    exact s_F
  case hv =>
    intro dz mz vz sz wz hI okv oks okw hlen
    by_cases h3 : dz = 3
    · subst h3
      obtain ⟨y1, y2, v2, rfl, rfl, rfl, hn, hp, hq⟩ := hI
      apply And.intro
      · intro h4
        exact hQ _ _ ⟨pt_e hq (by omega), by omega⟩
      · intro h4
        apply And.intro
        · intro h14
          exact hQ _ _ ⟨pt_e hq (by omega), by omega⟩
        · intro h14
          intro z27 h27
          skip
          intro z28 h28
          have e28 := e_i2b h28
          apply And.intro
          · exact ⟨by omega, by omega⟩
          apply And.intro
          · first | omega | exact Or.inr rfl | exact Or.inl rfl
          intro z36 h36
          first | replace h36 := e_add h36 (by omega) | replace h36 := e_rng h36
          apply And.intro
          · exact trivial
          intro z40 h40
          first | replace h40 := e_add h40 (by omega) | replace h40 := e_rng h40
          exact ⟨_, ⟨_, _, _, rfl, rfl, rfl, rfl, (by first | omega | assumption | exact q_rg_up (by assumption) (by omega) | exact q_rg_up (q_rg_up (by assumption) (by omega)) (by omega) | exact q_rg_cpy (by assumption) (by assumption)), (by first | exact pt_0 rfl | exact pt_s hq h27 h28 (by omega) (by omega) (by omega))⟩, by omega⟩
    simp only [I_F8_put, h3, if_false] at hI
  rintro lv st w' ⟨rfl, rfl, rfl⟩
  exact ⟨_, _, _, _, rfl, rfl, rfl, rfl, (by first | omega | assumption | exact q_rg_up (by assumption) (by omega) | exact q_rg_up (q_rg_up (by assumption) (by omega)) (by omega) | exact q_rg_cpy (by assumption) (by assumption)), (by first | exact pt_0 rfl | exact pt_s hq h27 h28 (by omega) (by omega) (by omega))⟩

theorem dF8_holds_0 : decode cX8_holds 0 = .ok (.iload_n 2, 1) := by decide +kernel
theorem dF8_holds_1 : decode cX8_holds 1 = .ok (.ifCond .lt 22, 3) := by decide +kernel
theorem dF8_holds_4 : decode cX8_holds 4 = .ok (.iload_n 2, 1) := by decide +kernel
theorem dF8_holds_5 : decode cX8_holds 5 = .ok (.aload_n 0, 1) := by decide +kernel
theorem dF8_holds_6 : decode cX8_holds 6 = .ok (.getfield 15, 3) := by decide +kernel
theorem dF8_holds_9 : decode cX8_holds 9 = .ok (.iload_n 1, 1) := by decide +kernel
theorem dF8_holds_10 : decode cX8_holds 10 = .ok (.iaload, 1) := by decide +kernel
theorem dF8_holds_11 : decode cX8_holds 11 = .ok (.if_icmp .ge 12, 3) := by decide +kernel
theorem dF8_holds_14 : decode cX8_holds 14 = .ok (.iload_n 2, 1) := by decide +kernel
theorem dF8_holds_15 : decode cX8_holds 15 = .ok (.iconst 2, 1) := by decide +kernel
theorem dF8_holds_16 : decode cX8_holds 16 = .ok (.if_icmp .ge 7, 3) := by decide +kernel
theorem dF8_holds_19 : decode cX8_holds 19 = .ok (.iconst 1, 1) := by decide +kernel
theorem dF8_holds_20 : decode cX8_holds 20 = .ok (.goto 4, 3) := by decide +kernel
theorem dF8_holds_23 : decode cX8_holds 23 = .ok (.iconst 0, 1) := by decide +kernel
theorem dF8_holds_24 : decode cX8_holds 24 = .ok (.ireturn, 1) := by decide +kernel
def is_F8_holds : Nat → List Nat := fun d => []
set_option maxRecDepth 100000 in
def b_F8_holds_24 (J : Nat → List qV → List qV → qW → Prop) (Q : qR) : qK := x_zret Q
set_option maxRecDepth 100000 in
theorem s_F8_holds_24 {p : Program} {l : Launch} {e : Env} {R : Room} {s : State} {m : MethodId} {args : Array Value} {below : List Frame} {meth : Method} {c : Code} {nW : Nat} {dC : Nat → ClassId} {dI : Nat → Nat → Nat} {k : Nat → ClassId} {g : Nat → Nat} {A : Nat → Prop} {J : Nat → List qV → List qV → qW → Prop} {Q : qR} (X : q_X p R s m args meth c cX8_holds 3 nW 0 0 RX8 (some .boolean) dC dI k g A) (hJ : ∀ d : Nat, q_Sd p l e R s m args below meth c 3 nW dC dI k g A (MQ below (q_post (dC, dI) k g nW Q A) args s 0 0 A) d (x_cut (is_F8_holds d) (J d))) : q_Sd p l e R s m args below meth c 3 nW dC dI k g A (MQ below (q_post (dC, dI) k g nW Q A) args s 0 0 A) 24 (b_F8_holds_24 J Q) := by
  unfold b_F8_holds_24
  exact s_zret X dF8_holds_24
set_option maxRecDepth 100000 in
def b_F8_holds_23 (J : Nat → List qV → List qV → qW → Prop) (Q : qR) : qK := x_int 0 (b_F8_holds_24 J Q)
set_option maxRecDepth 100000 in
theorem s_F8_holds_23 {p : Program} {l : Launch} {e : Env} {R : Room} {s : State} {m : MethodId} {args : Array Value} {below : List Frame} {meth : Method} {c : Code} {nW : Nat} {dC : Nat → ClassId} {dI : Nat → Nat → Nat} {k : Nat → ClassId} {g : Nat → Nat} {A : Nat → Prop} {J : Nat → List qV → List qV → qW → Prop} {Q : qR} (X : q_X p R s m args meth c cX8_holds 3 nW 0 0 RX8 (some .boolean) dC dI k g A) (hJ : ∀ d : Nat, q_Sd p l e R s m args below meth c 3 nW dC dI k g A (MQ below (q_post (dC, dI) k g nW Q A) args s 0 0 A) d (x_cut (is_F8_holds d) (J d))) : q_Sd p l e R s m args below meth c 3 nW dC dI k g A (MQ below (q_post (dC, dI) k g nW Q A) args s 0 0 A) 23 (b_F8_holds_23 J Q) := by
  unfold b_F8_holds_23
  refine s_iconst X ⟨by decide, by decide⟩ dF8_holds_23 ?_
  exact s_F8_holds_24 X hJ
set_option maxRecDepth 100000 in
def b_F8_holds_0 (J : Nat → List qV → List qV → qW → Prop) (Q : qR) : qK := x_iload 2 (x_if_lt (b_F8_holds_23 J Q) (x_iload 2 (x_aload 0 (x_get 8 1 (x_iload 1 (x_iald (x_icmp_ge (b_F8_holds_23 J Q) (x_iload 2 (x_int 2 (x_icmp_ge (b_F8_holds_23 J Q) (x_int 1 (b_F8_holds_24 J Q))))))))))))
set_option maxRecDepth 100000 in
theorem s_F8_holds_0 {p : Program} {l : Launch} {e : Env} {R : Room} {s : State} {m : MethodId} {args : Array Value} {below : List Frame} {meth : Method} {c : Code} {nW : Nat} {dC : Nat → ClassId} {dI : Nat → Nat → Nat} {k : Nat → ClassId} {g : Nat → Nat} {A : Nat → Prop} {J : Nat → List qV → List qV → qW → Prop} {Q : qR} (X : q_X p R s m args meth c cX8_holds 3 nW 0 0 RX8 (some .boolean) dC dI k g A) (hJ : ∀ d : Nat, q_Sd p l e R s m args below meth c 3 nW dC dI k g A (MQ below (q_post (dC, dI) k g nW Q A) args s 0 0 A) d (x_cut (is_F8_holds d) (J d))) : q_Sd p l e R s m args below meth c 3 nW dC dI k g A (MQ below (q_post (dC, dI) k g nW Q A) args s 0 0 A) 0 (b_F8_holds_0 J Q) := by
  unfold b_F8_holds_0
  refine s_iload_n X rfl dF8_holds_0 ?_
  refine s_if_lt X (tgt := 23) dF8_holds_1 (by decide) ?_ ?_
  · exact s_F8_holds_23 X hJ
  · refine s_iload_n X rfl dF8_holds_4 ?_
    refine s_aload_n X rfl dF8_holds_5 ?_
    refine s_get X (T := TX8) (C := RX8) (N := 9) tu_X8 rfl (by decide) tw_251 dF8_holds_6 ?_
    refine s_iload_n X rfl dF8_holds_9 ?_
    refine s_iald X dF8_holds_10 ?_
    refine s_icmp_ge X (tgt := 23) dF8_holds_11 (by decide) ?_ ?_
    · exact s_F8_holds_23 X hJ
    · refine s_iload_n X rfl dF8_holds_14 ?_
      refine s_iconst X ⟨by decide, by decide⟩ dF8_holds_15 ?_
      refine s_icmp_ge X (tgt := 23) dF8_holds_16 (by decide) ?_ ?_
      · exact s_F8_holds_23 X hJ
      · refine s_iconst X ⟨by decide, by decide⟩ dF8_holds_19 ?_
        refine s_goto X (tgt := 24) dF8_holds_20 (by decide) ?_
        exact s_F8_holds_24 X hJ

def spr_F8_holds : List qV → qW → (Option qV → Prop) → Prop := fun av w Q => ∃ (tp : Nat → Int) (ct : Nat → Int) (ln : Int) (fa : Int) (pl : Int) (a : Int) (b : Int), av = [q2 0, q1 a, q1 b] ∧ w = (wT3 tp ct ln fa pl) ∧ (0 ≤ a ∧ a ≤ 3) ∧ (∀ (r : Int) , (r = 1 ∧ (0 ≤ b ∧ b < ct a.toNat ∧ b ≤ 1) ∨ r = 0 ∧ ¬ (0 ≤ b ∧ b < ct a.toNat ∧ b ≤ 1)) → Q (some (q1 r)))
def sp_F8_holds : qS := fun av w Q => spr_F8_holds av w (fun r => Q r w)
set_option maxHeartbeats 4000000 in
set_option maxRecDepth 100000 in
theorem m_F8_holds (l : Launch) : q_M l yX8_holds cX8_holds 3 (some .boolean) 0 0 sp_F8_holds := by
  refine q_meth (by decide) (fun av w Q h => by obtain ⟨tp, ct, ln, fa, pl, a, b, rfl, rfl, ha, hQ⟩ := h; exact Nat.le_of_ble_eq_true rfl) ?_
  intro p e R s m args below meth c dC dI k g A av w Q hsp oka okw X
  obtain ⟨tp, ct, ln, fa, pl, a, b, rfl, rfl, ha, hQ⟩ := hsp
  have o_a : -2147483648 ≤ a ∧ a ≤ 2147483647 := oka _ (List.mem_of_getElem? (i := 1) rfl)
  have o_b : -2147483648 ≤ b ∧ b ≤ 2147483647 := oka _ (List.mem_of_getElem? (i := 2) rfl)
  refine s_mono (s_F8_holds_0 X (J := fun _ _ _ _ => False) (fun d => s_cutF)) ?_
  rintro lv st w' ⟨rfl, rfl, rfl⟩
  apply And.intro
  · intro h1
    apply And.intro
    · first | exact Or.inl rfl | exact Or.inr rfl | omega
    exact hQ _ (by first | omega | assumption | exact q_rg_up (by assumption) (by omega) | exact q_rg_up (q_rg_up (by assumption) (by omega)) (by omega) | exact q_rg_cpy (by assumption) (by assumption))
  · intro h1
    apply And.intro
    · exact ⟨by omega, by omega⟩
    intro z10 h10
    apply And.intro
    · intro h11
      apply And.intro
      · first | exact Or.inl rfl | exact Or.inr rfl | omega
      exact hQ _ (by first | omega | assumption | exact q_rg_up (by assumption) (by omega) | exact q_rg_up (q_rg_up (by assumption) (by omega)) (by omega) | exact q_rg_cpy (by assumption) (by assumption))
    · intro h11
      apply And.intro
      · intro h16
        apply And.intro
        · first | exact Or.inl rfl | exact Or.inr rfl | omega
        exact hQ _ (by first | omega | assumption | exact q_rg_up (by assumption) (by omega) | exact q_rg_up (q_rg_up (by assumption) (by omega)) (by omega) | exact q_rg_cpy (by assumption) (by assumption))
      · intro h16
        apply And.intro
        · first | exact Or.inl rfl | exact Or.inr rfl | omega
        exact hQ _ (by first | omega | assumption | exact q_rg_up (by assumption) (by omega) | exact q_rg_up (q_rg_up (by assumption) (by omega)) (by omega) | exact q_rg_cpy (by assumption) (by assumption))

theorem dF8_placeFor_0 : decode cX8_placeFor 0 = .ok (.iload_n 1, 1) := by decide +kernel
theorem dF8_placeFor_1 : decode cX8_placeFor 1 = .ok (.ifCond .lt 8, 3) := by decide +kernel
theorem dF8_placeFor_4 : decode cX8_placeFor 4 = .ok (.iload_n 1, 1) := by decide +kernel
theorem dF8_placeFor_5 : decode cX8_placeFor 5 = .ok (.iconst 4, 1) := by decide +kernel
theorem dF8_placeFor_6 : decode cX8_placeFor 6 = .ok (.if_icmp .lt 5, 3) := by decide +kernel
theorem dF8_placeFor_9 : decode cX8_placeFor 9 = .ok (.iconst (-1), 1) := by decide +kernel
theorem dF8_placeFor_10 : decode cX8_placeFor 10 = .ok (.ireturn, 1) := by decide +kernel
theorem dF8_placeFor_11 : decode cX8_placeFor 11 = .ok (.iload_n 2, 1) := by decide +kernel
theorem dF8_placeFor_12 : decode cX8_placeFor 12 = .ok (.iconst (-1), 1) := by decide +kernel
theorem dF8_placeFor_13 : decode cX8_placeFor 13 = .ok (.if_icmp .ne 24, 3) := by decide +kernel
theorem dF8_placeFor_16 : decode cX8_placeFor 16 = .ok (.aload_n 0, 1) := by decide +kernel
theorem dF8_placeFor_17 : decode cX8_placeFor 17 = .ok (.getfield 15, 3) := by decide +kernel
theorem dF8_placeFor_20 : decode cX8_placeFor 20 = .ok (.iload_n 1, 1) := by decide +kernel
theorem dF8_placeFor_21 : decode cX8_placeFor 21 = .ok (.iaload, 1) := by decide +kernel
theorem dF8_placeFor_22 : decode cX8_placeFor 22 = .ok (.iconst 2, 1) := by decide +kernel
theorem dF8_placeFor_23 : decode cX8_placeFor 23 = .ok (.if_icmp .ge 12, 3) := by decide +kernel
theorem dF8_placeFor_26 : decode cX8_placeFor 26 = .ok (.aload_n 0, 1) := by decide +kernel
theorem dF8_placeFor_27 : decode cX8_placeFor 27 = .ok (.getfield 15, 3) := by decide +kernel
theorem dF8_placeFor_30 : decode cX8_placeFor 30 = .ok (.iload_n 1, 1) := by decide +kernel
theorem dF8_placeFor_31 : decode cX8_placeFor 31 = .ok (.iaload, 1) := by decide +kernel
theorem dF8_placeFor_32 : decode cX8_placeFor 32 = .ok (.goto 4, 3) := by decide +kernel
theorem dF8_placeFor_35 : decode cX8_placeFor 35 = .ok (.iconst (-1), 1) := by decide +kernel
theorem dF8_placeFor_36 : decode cX8_placeFor 36 = .ok (.ireturn, 1) := by decide +kernel
theorem dF8_placeFor_37 : decode cX8_placeFor 37 = .ok (.aload_n 0, 1) := by decide +kernel
theorem dF8_placeFor_38 : decode cX8_placeFor 38 = .ok (.iload_n 1, 1) := by decide +kernel
theorem dF8_placeFor_39 : decode cX8_placeFor 39 = .ok (.iload_n 2, 1) := by decide +kernel
theorem dF8_placeFor_40 : decode cX8_placeFor 40 = .ok (.invokevirtual 76, 3) := by decide +kernel
theorem dF8_placeFor_43 : decode cX8_placeFor 43 = .ok (.ifCond .eq 7, 3) := by decide +kernel
theorem dF8_placeFor_46 : decode cX8_placeFor 46 = .ok (.iload_n 2, 1) := by decide +kernel
theorem dF8_placeFor_47 : decode cX8_placeFor 47 = .ok (.goto 4, 3) := by decide +kernel
theorem dF8_placeFor_50 : decode cX8_placeFor 50 = .ok (.iconst (-1), 1) := by decide +kernel
theorem dF8_placeFor_51 : decode cX8_placeFor 51 = .ok (.ireturn, 1) := by decide +kernel
def is_F8_placeFor : Nat → List Nat := fun d => []
set_option maxRecDepth 100000 in
def b_F8_placeFor_51 (J : Nat → List qV → List qV → qW → Prop) (Q : qR) : qK := x_iret Q
set_option maxRecDepth 100000 in
theorem s_F8_placeFor_51 {p : Program} {l : Launch} {e : Env} {R : Room} {s : State} {m : MethodId} {args : Array Value} {below : List Frame} {meth : Method} {c : Code} {nW : Nat} {dC : Nat → ClassId} {dI : Nat → Nat → Nat} {k : Nat → ClassId} {g : Nat → Nat} {A : Nat → Prop} {J : Nat → List qV → List qV → qW → Prop} {Q : qR} (X : q_X p R s m args meth c cX8_placeFor 3 nW 1 22 RX8 (some .int) dC dI k g A) (hJ : ∀ d : Nat, q_Sd p l e R s m args below meth c 3 nW dC dI k g A (MQ below (q_post (dC, dI) k g nW Q A) args s 0 0 A) d (x_cut (is_F8_placeFor d) (J d))) : q_Sd p l e R s m args below meth c 3 nW dC dI k g A (MQ below (q_post (dC, dI) k g nW Q A) args s 0 0 A) 51 (b_F8_placeFor_51 J Q) := by
  unfold b_F8_placeFor_51
  exact s_iret X dF8_placeFor_51
set_option maxRecDepth 100000 in
def b_F8_placeFor_36 (J : Nat → List qV → List qV → qW → Prop) (Q : qR) : qK := x_iret Q
set_option maxRecDepth 100000 in
theorem s_F8_placeFor_36 {p : Program} {l : Launch} {e : Env} {R : Room} {s : State} {m : MethodId} {args : Array Value} {below : List Frame} {meth : Method} {c : Code} {nW : Nat} {dC : Nat → ClassId} {dI : Nat → Nat → Nat} {k : Nat → ClassId} {g : Nat → Nat} {A : Nat → Prop} {J : Nat → List qV → List qV → qW → Prop} {Q : qR} (X : q_X p R s m args meth c cX8_placeFor 3 nW 1 22 RX8 (some .int) dC dI k g A) (hJ : ∀ d : Nat, q_Sd p l e R s m args below meth c 3 nW dC dI k g A (MQ below (q_post (dC, dI) k g nW Q A) args s 0 0 A) d (x_cut (is_F8_placeFor d) (J d))) : q_Sd p l e R s m args below meth c 3 nW dC dI k g A (MQ below (q_post (dC, dI) k g nW Q A) args s 0 0 A) 36 (b_F8_placeFor_36 J Q) := by
  unfold b_F8_placeFor_36
  exact s_iret X dF8_placeFor_36
set_option maxRecDepth 100000 in
def b_F8_placeFor_9 (J : Nat → List qV → List qV → qW → Prop) (Q : qR) : qK := x_int (-1) (x_iret Q)
set_option maxRecDepth 100000 in
theorem s_F8_placeFor_9 {p : Program} {l : Launch} {e : Env} {R : Room} {s : State} {m : MethodId} {args : Array Value} {below : List Frame} {meth : Method} {c : Code} {nW : Nat} {dC : Nat → ClassId} {dI : Nat → Nat → Nat} {k : Nat → ClassId} {g : Nat → Nat} {A : Nat → Prop} {J : Nat → List qV → List qV → qW → Prop} {Q : qR} (X : q_X p R s m args meth c cX8_placeFor 3 nW 1 22 RX8 (some .int) dC dI k g A) (hJ : ∀ d : Nat, q_Sd p l e R s m args below meth c 3 nW dC dI k g A (MQ below (q_post (dC, dI) k g nW Q A) args s 0 0 A) d (x_cut (is_F8_placeFor d) (J d))) : q_Sd p l e R s m args below meth c 3 nW dC dI k g A (MQ below (q_post (dC, dI) k g nW Q A) args s 0 0 A) 9 (b_F8_placeFor_9 J Q) := by
  unfold b_F8_placeFor_9
  refine s_iconst X ⟨by decide, by decide⟩ dF8_placeFor_9 ?_
  exact s_iret X dF8_placeFor_10
set_option maxRecDepth 100000 in
def b_F8_placeFor_0 (J : Nat → List qV → List qV → qW → Prop) (Q : qR) : qK := x_iload 1 (x_if_lt (b_F8_placeFor_9 J Q) (x_iload 1 (x_int 4 (x_icmp_lt (x_iload 2 (x_int (-1) (x_icmp_ne (x_aload 0 (x_iload 1 (x_iload 2 (x_callr (some 8) 3 spr_F8_holds (x_if_eq (x_int (-1) (b_F8_placeFor_51 J Q)) (x_iload 2 (b_F8_placeFor_51 J Q))))))) (x_aload 0 (x_get 8 1 (x_iload 1 (x_iald (x_int 2 (x_icmp_ge (x_int (-1) (b_F8_placeFor_36 J Q)) (x_aload 0 (x_get 8 1 (x_iload 1 (x_iald (b_F8_placeFor_36 J Q)))))))))))))) (b_F8_placeFor_9 J Q)))))
set_option maxRecDepth 100000 in
theorem s_F8_placeFor_0 {p : Program} {l : Launch} {e : Env} {R : Room} {s : State} {m : MethodId} {args : Array Value} {below : List Frame} {meth : Method} {c : Code} {nW : Nat} {dC : Nat → ClassId} {dI : Nat → Nat → Nat} {k : Nat → ClassId} {g : Nat → Nat} {A : Nat → Prop} {J : Nat → List qV → List qV → qW → Prop} {Q : qR} (X : q_X p R s m args meth c cX8_placeFor 3 nW 1 22 RX8 (some .int) dC dI k g A) (hJ : ∀ d : Nat, q_Sd p l e R s m args below meth c 3 nW dC dI k g A (MQ below (q_post (dC, dI) k g nW Q A) args s 0 0 A) d (x_cut (is_F8_placeFor d) (J d))) : q_Sd p l e R s m args below meth c 3 nW dC dI k g A (MQ below (q_post (dC, dI) k g nW Q A) args s 0 0 A) 0 (b_F8_placeFor_0 J Q) := by
  unfold b_F8_placeFor_0
  refine s_iload_n X rfl dF8_placeFor_0 ?_
  refine s_if_lt X (tgt := 9) dF8_placeFor_1 (by decide) ?_ ?_
  · exact s_F8_placeFor_9 X hJ
  · refine s_iload_n X rfl dF8_placeFor_4 ?_
    refine s_iconst X ⟨by decide, by decide⟩ dF8_placeFor_5 ?_
    refine s_icmp_lt X (tgt := 11) dF8_placeFor_6 (by decide) ?_ ?_
    · refine s_iload_n X rfl dF8_placeFor_11 ?_
      refine s_iconst X ⟨by decide, by decide⟩ dF8_placeFor_12 ?_
      refine s_icmp_ne X (tgt := 37) dF8_placeFor_13 (by decide) ?_ ?_
      · refine s_aload_n X rfl dF8_placeFor_37 ?_
        refine s_iload_n X rfl dF8_placeFor_38 ?_
        refine s_iload_n X rfl dF8_placeFor_39 ?_
        refine s_callVr X (m_F8_holds l) tw_354 tw_355 tw_1531 tw_121 tw_356 rfl (by decide +kernel) ⟨by decide, by decide⟩ dF8_placeFor_40 ?_
        refine s_if_eq X (tgt := 50) dF8_placeFor_43 (by decide) ?_ ?_
        · refine s_iconst X ⟨by decide, by decide⟩ dF8_placeFor_50 ?_
          exact s_F8_placeFor_51 X hJ
        · refine s_iload_n X rfl dF8_placeFor_46 ?_
          refine s_goto X (tgt := 51) dF8_placeFor_47 (by decide) ?_
          exact s_F8_placeFor_51 X hJ
      · refine s_aload_n X rfl dF8_placeFor_16 ?_
        refine s_get X (T := TX8) (C := RX8) (N := 9) tu_X8 rfl (by decide) tw_251 dF8_placeFor_17 ?_
        refine s_iload_n X rfl dF8_placeFor_20 ?_
        refine s_iald X dF8_placeFor_21 ?_
        refine s_iconst X ⟨by decide, by decide⟩ dF8_placeFor_22 ?_
        refine s_icmp_ge X (tgt := 35) dF8_placeFor_23 (by decide) ?_ ?_
        · refine s_iconst X ⟨by decide, by decide⟩ dF8_placeFor_35 ?_
          exact s_F8_placeFor_36 X hJ
        · refine s_aload_n X rfl dF8_placeFor_26 ?_
          refine s_get X (T := TX8) (C := RX8) (N := 9) tu_X8 rfl (by decide) tw_251 dF8_placeFor_27 ?_
          refine s_iload_n X rfl dF8_placeFor_30 ?_
          refine s_iald X dF8_placeFor_31 ?_
          refine s_goto X (tgt := 36) dF8_placeFor_32 (by decide) ?_
          exact s_F8_placeFor_36 X hJ
    · exact s_F8_placeFor_9 X hJ

def spr_F8_placeFor : List qV → qW → (Option qV → Prop) → Prop := fun av w Q => ∃ (tp : Nat → Int) (ct : Nat → Int) (ln : Int) (fa : Int) (pl : Int) (a : Int) (b : Int), av = [q2 0, q1 a, q1 b] ∧ w = (wT3 tp ct ln fa pl) ∧ (q_rg 0 2 ct) ∧ (∀ (r : Int) , (r = -1 ∧ ¬ PlO a b ct ∨ (PlO a b ct ∧ r = kTx a b ct) ∧ 0 ≤ r ∧ r ≤ 1) → Q (some (q1 r)))
def sp_F8_placeFor : qS := fun av w Q => spr_F8_placeFor av w (fun r => Q r w)
set_option maxHeartbeats 4000000 in
set_option maxRecDepth 100000 in
theorem m_F8_placeFor (l : Launch) : q_M l yX8_placeFor cX8_placeFor 3 (some .int) 1 22 sp_F8_placeFor := by
  refine q_meth (by decide) (fun av w Q h => by obtain ⟨tp, ct, ln, fa, pl, a, b, rfl, rfl, hct, hQ⟩ := h; exact Nat.le_of_ble_eq_true rfl) ?_
  intro p e R s m args below meth c dC dI k g A av w Q hsp oka okw X
  obtain ⟨tp, ct, ln, fa, pl, a, b, rfl, rfl, hct, hQ⟩ := hsp
  have o_a : -2147483648 ≤ a ∧ a ≤ 2147483647 := oka _ (List.mem_of_getElem? (i := 1) rfl)
  have o_b : -2147483648 ≤ b ∧ b ≤ 2147483647 := oka _ (List.mem_of_getElem? (i := 2) rfl)
  refine s_mono (s_F8_placeFor_0 X (J := fun _ _ _ _ => False) (fun d => s_cutF)) ?_
  rintro lv st w' ⟨rfl, rfl, rfl⟩
  apply And.intro
  · intro h1
    exact hQ _ (by first | exact Or.inl ⟨rfl, Pl_n (by omega)⟩ | exact Or.inl ⟨rfl, Pl_f (by omega) h21 (by omega) (by rw [← h21]; omega)⟩ | exact Or.inr ⟨Pl_y (by omega) (by omega) h31 (by omega), by omega⟩ | exact Or.inr ⟨Pl_h (by omega) (by omega) h40 h43, by omega⟩ | exact Or.inl ⟨rfl, Pl_0 (by omega) h40 h43 (hct _)⟩)
  · intro h1
    apply And.intro
    · intro h6
      apply And.intro
      · intro h13
        refine Exists.intro [0, 1, 2, 3, 4, 5, 6] (Exists.intro [q2 0, q1 _, q1 _] (Exists.intro ((wT3 _ _ _ _ _)) (And.intro rfl (And.intro rfl (And.intro rfl (And.intro ⟨⟨_, rfl⟩, rfl⟩ ?_))))))
        refine Exists.intro _ (Exists.intro _ (Exists.intro _ (Exists.intro _ (Exists.intro _ (Exists.intro _ (Exists.intro _ (And.intro rfl (And.intro rfl (And.intro (by first | omega | assumption | exact q_rg_up (by assumption) (by omega) | exact q_rg_up (q_rg_up (by assumption) (by omega)) (by omega) | exact q_rg_cpy (by assumption) (by assumption)) (?_))))))))))
        intro z40 h40
        apply And.intro
        · intro h43
          exact hQ _ (by first | exact Or.inl ⟨rfl, Pl_n (by omega)⟩ | exact Or.inl ⟨rfl, Pl_f (by omega) h21 (by omega) (by rw [← h21]; omega)⟩ | exact Or.inr ⟨Pl_y (by omega) (by omega) h31 (by omega), by omega⟩ | exact Or.inr ⟨Pl_h (by omega) (by omega) h40 h43, by omega⟩ | exact Or.inl ⟨rfl, Pl_0 (by omega) h40 h43 (hct _)⟩)
        · intro h43
          exact hQ _ (by first | exact Or.inl ⟨rfl, Pl_n (by omega)⟩ | exact Or.inl ⟨rfl, Pl_f (by omega) h21 (by omega) (by rw [← h21]; omega)⟩ | exact Or.inr ⟨Pl_y (by omega) (by omega) h31 (by omega), by omega⟩ | exact Or.inr ⟨Pl_h (by omega) (by omega) h40 h43, by omega⟩ | exact Or.inl ⟨rfl, Pl_0 (by omega) h40 h43 (hct _)⟩)
      · intro h13
        apply And.intro
        · exact ⟨by omega, by omega⟩
        intro z21 h21
        first | have a21 := q_rg_at hct h21 | skip
        apply And.intro
        · intro h23
          exact hQ _ (by first | exact Or.inl ⟨rfl, Pl_n (by omega)⟩ | exact Or.inl ⟨rfl, Pl_f (by omega) h21 (by omega) (by rw [← h21]; omega)⟩ | exact Or.inr ⟨Pl_y (by omega) (by omega) h31 (by omega), by omega⟩ | exact Or.inr ⟨Pl_h (by omega) (by omega) h40 h43, by omega⟩ | exact Or.inl ⟨rfl, Pl_0 (by omega) h40 h43 (hct _)⟩)
        · intro h23
          apply And.intro
          · exact ⟨by omega, by omega⟩
          intro z31 h31
          first | have a31 := q_rg_at hct h31 | skip
          exact hQ _ (by first | exact Or.inl ⟨rfl, Pl_n (by omega)⟩ | exact Or.inl ⟨rfl, Pl_f (by omega) h21 (by omega) (by rw [← h21]; omega)⟩ | exact Or.inr ⟨Pl_y (by omega) (by omega) h31 (by omega), by omega⟩ | exact Or.inr ⟨Pl_h (by omega) (by omega) h40 h43, by omega⟩ | exact Or.inl ⟨rfl, Pl_0 (by omega) h40 h43 (hct _)⟩)
    · intro h6
      exact hQ _ (by first | exact Or.inl ⟨rfl, Pl_n (by omega)⟩ | exact Or.inl ⟨rfl, Pl_f (by omega) h21 (by omega) (by rw [← h21]; omega)⟩ | exact Or.inr ⟨Pl_y (by omega) (by omega) h31 (by omega), by omega⟩ | exact Or.inr ⟨Pl_h (by omega) (by omega) h40 h43, by omega⟩ | exact Or.inl ⟨rfl, Pl_0 (by omega) h40 h43 (hct _)⟩)

theorem dFX11_feed_0 : decode cX11_feed 0 = .ok (.aload_n 0, 1) := by decide +kernel
theorem dFX11_feed_1 : decode cX11_feed 1 = .ok (.getfield 10, 3) := by decide +kernel
theorem dFX11_feed_4 : decode cX11_feed 4 = .ok (.getfield 62, 3) := by decide +kernel
theorem dFX11_feed_7 : decode cX11_feed 7 = .ok (.bipush 20, 2) := by decide +kernel
theorem dFX11_feed_9 : decode cX11_feed 9 = .ok (.iadd, 1) := by decide +kernel
theorem dFX11_feed_10 : decode cX11_feed 10 = .ok (.sipush 600, 3) := by decide +kernel
theorem dFX11_feed_13 : decode cX11_feed 13 = .ok (.if_icmp .le 5, 3) := by decide +kernel
theorem dFX11_feed_16 : decode cX11_feed 16 = .ok (.iconst (-1), 1) := by decide +kernel
theorem dFX11_feed_17 : decode cX11_feed 17 = .ok (.ireturn, 1) := by decide +kernel
theorem dFX11_feed_18 : decode cX11_feed 18 = .ok (.aload_n 0, 1) := by decide +kernel
theorem dFX11_feed_19 : decode cX11_feed 19 = .ok (.getfield 10, 3) := by decide +kernel
theorem dFX11_feed_22 : decode cX11_feed 22 = .ok (.iload_n 1, 1) := by decide +kernel
theorem dFX11_feed_23 : decode cX11_feed 23 = .ok (.invokevirtual 66, 3) := by decide +kernel
theorem dFX11_feed_26 : decode cX11_feed 26 = .ok (.aload_n 0, 1) := by decide +kernel
theorem dFX11_feed_27 : decode cX11_feed 27 = .ok (.getfield 10, 3) := by decide +kernel
theorem dFX11_feed_30 : decode cX11_feed 30 = .ok (.iload_n 2, 1) := by decide +kernel
theorem dFX11_feed_31 : decode cX11_feed 31 = .ok (.invokevirtual 66, 3) := by decide +kernel
theorem dFX11_feed_34 : decode cX11_feed 34 = .ok (.aload_n 0, 1) := by decide +kernel
theorem dFX11_feed_35 : decode cX11_feed 35 = .ok (.getfield 10, 3) := by decide +kernel
theorem dFX11_feed_38 : decode cX11_feed 38 = .ok (.iload_n 3, 1) := by decide +kernel
theorem dFX11_feed_39 : decode cX11_feed 39 = .ok (.invokevirtual 66, 3) := by decide +kernel
theorem dFX11_feed_42 : decode cX11_feed 42 = .ok (.aload_n 0, 1) := by decide +kernel
theorem dFX11_feed_43 : decode cX11_feed 43 = .ok (.getfield 10, 3) := by decide +kernel
theorem dFX11_feed_46 : decode cX11_feed 46 = .ok (.iload 4, 2) := by decide +kernel
theorem dFX11_feed_48 : decode cX11_feed 48 = .ok (.invokevirtual 66, 3) := by decide +kernel
theorem dFX11_feed_51 : decode cX11_feed 51 = .ok (.aload_n 0, 1) := by decide +kernel
theorem dFX11_feed_52 : decode cX11_feed 52 = .ok (.getfield 10, 3) := by decide +kernel
theorem dFX11_feed_55 : decode cX11_feed 55 = .ok (.iload 5, 2) := by decide +kernel
theorem dFX11_feed_57 : decode cX11_feed 57 = .ok (.invokevirtual 66, 3) := by decide +kernel
theorem dFX11_feed_60 : decode cX11_feed 60 = .ok (.aload_n 0, 1) := by decide +kernel
theorem dFX11_feed_61 : decode cX11_feed 61 = .ok (.getfield 10, 3) := by decide +kernel
theorem dFX11_feed_64 : decode cX11_feed 64 = .ok (.getfield 62, 3) := by decide +kernel
theorem dFX11_feed_67 : decode cX11_feed 67 = .ok (.ireturn, 1) := by decide +kernel
def is_FX11_feed : Nat → List Nat := fun d => []
set_option maxRecDepth 100000 in
def b_FX11_feed_48 (J : Nat → List qV → List qV → qW → Prop) (Q : qR) : qK := x_call (some 8) 2 sp_F8_put (x_nw (x_aload 0 (x_get 11 0 (x_iload 5 (x_call (some 8) 2 sp_F8_put (x_nw (x_aload 0 (x_get 11 0 (x_get 8 6 (x_iret Q))))))))))
set_option maxRecDepth 100000 in
theorem s_FX11_feed_48 {p : Program} {l : Launch} {e : Env} {R : Room} {s : State} {m : MethodId} {args : Array Value} {below : List Frame} {meth : Method} {c : Code} {nW : Nat} {dC : Nat → ClassId} {dI : Nat → Nat → Nat} {k : Nat → ClassId} {g : Nat → Nat} {A : Nat → Prop} {J : Nat → List qV → List qV → qW → Prop} {Q : qR} (X : q_X p R s m args meth c cX11_feed 6 nW 1 22 RX11 (some .int) dC dI k g A) (hJ : ∀ d : Nat, q_Sd p l e R s m args below meth c 6 nW dC dI k g A (MQ below (q_post (dC, dI) k g nW Q A) args s 0 0 A) d (x_cut (is_FX11_feed d) (J d))) : q_Sd p l e R s m args below meth c 6 nW dC dI k g A (MQ below (q_post (dC, dI) k g nW Q A) args s 0 0 A) 48 (b_FX11_feed_48 J Q) := by
  unfold b_FX11_feed_48
  refine s_callV X (m_F8_put l) tw_338 tw_339 tw_340 tw_121 tw_341 rfl (by decide +kernel) ⟨by decide, by decide⟩ dFX11_feed_48 ?_
  refine s_nw ?_
  refine s_aload_n X rfl dFX11_feed_51 ?_
  refine s_get X (T := TX11) (C := RX11) (N := 8) tu_X11 rfl (by decide) tw_326 dFX11_feed_52 ?_
  refine s_iload X dFX11_feed_55 ?_
  refine s_callV X (m_F8_put l) tw_338 tw_339 tw_340 tw_121 tw_341 rfl (by decide +kernel) ⟨by decide, by decide⟩ dFX11_feed_57 ?_
  refine s_nw ?_
  refine s_aload_n X rfl dFX11_feed_60 ?_
  refine s_get X (T := TX11) (C := RX11) (N := 8) tu_X11 rfl (by decide) tw_326 dFX11_feed_61 ?_
  refine s_get X (T := TX8) (C := RX8) (N := 9) tu_X8 rfl (by decide) tw_257 dFX11_feed_64 ?_
  exact s_iret X dFX11_feed_67
set_option maxRecDepth 100000 in
def b_FX11_feed_0 (J : Nat → List qV → List qV → qW → Prop) (Q : qR) : qK := x_aload 0 (x_get 11 0 (x_get 8 6 (x_int 20 (x_iadd (x_int 600 (x_icmp_le (x_aload 0 (x_get 11 0 (x_iload 1 (x_call (some 8) 2 sp_F8_put (x_nw (x_aload 0 (x_get 11 0 (x_iload 2 (x_call (some 8) 2 sp_F8_put (x_nw (x_aload 0 (x_get 11 0 (x_iload 3 (x_call (some 8) 2 sp_F8_put (x_nw (x_aload 0 (x_get 11 0 (x_iload 4 (b_FX11_feed_48 J Q))))))))))))))))))) (x_int (-1) (x_iret Q))))))))
set_option maxRecDepth 100000 in
theorem s_FX11_feed_0 {p : Program} {l : Launch} {e : Env} {R : Room} {s : State} {m : MethodId} {args : Array Value} {below : List Frame} {meth : Method} {c : Code} {nW : Nat} {dC : Nat → ClassId} {dI : Nat → Nat → Nat} {k : Nat → ClassId} {g : Nat → Nat} {A : Nat → Prop} {J : Nat → List qV → List qV → qW → Prop} {Q : qR} (X : q_X p R s m args meth c cX11_feed 6 nW 1 22 RX11 (some .int) dC dI k g A) (hJ : ∀ d : Nat, q_Sd p l e R s m args below meth c 6 nW dC dI k g A (MQ below (q_post (dC, dI) k g nW Q A) args s 0 0 A) d (x_cut (is_FX11_feed d) (J d))) : q_Sd p l e R s m args below meth c 6 nW dC dI k g A (MQ below (q_post (dC, dI) k g nW Q A) args s 0 0 A) 0 (b_FX11_feed_0 J Q) := by
  unfold b_FX11_feed_0
  refine s_aload_n X rfl dFX11_feed_0 ?_
  refine s_get X (T := TX11) (C := RX11) (N := 8) tu_X11 rfl (by decide) tw_326 dFX11_feed_1 ?_
  refine s_get X (T := TX8) (C := RX8) (N := 9) tu_X8 rfl (by decide) tw_257 dFX11_feed_4 ?_
  refine s_bipush X ⟨by decide, by decide⟩ (by decide) dFX11_feed_7 ?_
  refine s_iadd X dFX11_feed_9 ?_
  refine s_sipush X ⟨by decide, by decide⟩ (by decide) dFX11_feed_10 ?_
  refine s_icmp_le X (tgt := 18) dFX11_feed_13 (by decide) ?_ ?_
  · refine s_aload_n X rfl dFX11_feed_18 ?_
    refine s_get X (T := TX11) (C := RX11) (N := 8) tu_X11 rfl (by decide) tw_326 dFX11_feed_19 ?_
    refine s_iload_n X rfl dFX11_feed_22 ?_
    refine s_callV X (m_F8_put l) tw_338 tw_339 tw_340 tw_121 tw_341 rfl (by decide +kernel) ⟨by decide, by decide⟩ dFX11_feed_23 ?_
    refine s_nw ?_
    refine s_aload_n X rfl dFX11_feed_26 ?_
    refine s_get X (T := TX11) (C := RX11) (N := 8) tu_X11 rfl (by decide) tw_326 dFX11_feed_27 ?_
    refine s_iload_n X rfl dFX11_feed_30 ?_
    refine s_callV X (m_F8_put l) tw_338 tw_339 tw_340 tw_121 tw_341 rfl (by decide +kernel) ⟨by decide, by decide⟩ dFX11_feed_31 ?_
    refine s_nw ?_
    refine s_aload_n X rfl dFX11_feed_34 ?_
    refine s_get X (T := TX11) (C := RX11) (N := 8) tu_X11 rfl (by decide) tw_326 dFX11_feed_35 ?_
    refine s_iload_n X rfl dFX11_feed_38 ?_
    refine s_callV X (m_F8_put l) tw_338 tw_339 tw_340 tw_121 tw_341 rfl (by decide +kernel) ⟨by decide, by decide⟩ dFX11_feed_39 ?_
    refine s_nw ?_
    refine s_aload_n X rfl dFX11_feed_42 ?_
    refine s_get X (T := TX11) (C := RX11) (N := 8) tu_X11 rfl (by decide) tw_326 dFX11_feed_43 ?_
    refine s_iload X dFX11_feed_46 ?_
    exact s_FX11_feed_48 X hJ
  · refine s_iconst X ⟨by decide, by decide⟩ dFX11_feed_16 ?_
    exact s_iret X dFX11_feed_17

def sp_FX11_feed : qS := fun av w Q => ∃ (tp : Nat → Int) (ct : Nat → Int) (ln : Int) (fa : Int) (pl : Int) (a : Int) (b : Int) (cc : Int) (dd : Int) (ee : Int), av = [q2 0, q1 a, q1 b, q1 cc, q1 dd, q1 ee] ∧ w = [.inr (11, [q2 1, q2 4, q2 5, q2 6, q2 7, q2 8, q2 9, q2 10]), .inr (8, [q2 2, q2 3, q2 11, q2 12, q2 13, q2 14, q1 ln, q1 fa, q1 pl]), .inl (1, 600, .inl tp), .inl (0, 4, .inl ct)] ∧ (q_rg 0 2 ct) ∧ (0 ≤ ln ∧ ln ≤ 600) ∧ (∀ (r : Int) (x_tp : Nat → Int) (x_ct : Nat → Int) (x_ln : Int) (x_fa : Int) (x_pl : Int), ((q_rg 0 2 x_ct) ∧ (0 ≤ x_ln ∧ x_ln ≤ 600) ∧ (((580 < ln ∧ r = -1 ∧ x_ln = ln ∧ x_tp = tp) ∨ (ln ≤ 580 ∧ r = ln + 20 ∧ x_ln = ln + 20 ∧ x_tp = fd5 tp ln a b cc dd ee)) ∧ x_ct = ct ∧ x_fa = fa ∧ x_pl = pl)) → Q (some (q1 r)) ([.inr (11, [q2 1, q2 4, q2 5, q2 6, q2 7, q2 8, q2 9, q2 10]), .inr (8, [q2 2, q2 3, q2 11, q2 12, q2 13, q2 14, q1 x_ln, q1 x_fa, q1 x_pl]), .inl (1, 600, .inl x_tp), .inl (0, 4, .inl x_ct)]))
set_option maxHeartbeats 4000000 in
set_option maxRecDepth 100000 in
theorem m_FX11_feed (l : Launch) : q_M l yX11_feed cX11_feed 6 (some .int) 1 22 sp_FX11_feed := by
  refine q_meth (by decide) (fun av w Q h => by obtain ⟨tp, ct, ln, fa, pl, a, b, cc, dd, ee, rfl, rfl, hct, hln, hQ⟩ := h; exact Nat.le_of_ble_eq_true rfl) ?_
  intro p e R s m args below meth c dC dI k g A av w Q hsp oka okw X
  obtain ⟨tp, ct, ln, fa, pl, a, b, cc, dd, ee, rfl, rfl, hct, hln, hQ⟩ := hsp
  have o_a : -2147483648 ≤ a ∧ a ≤ 2147483647 := oka _ (List.mem_of_getElem? (i := 1) rfl)
  have o_b : -2147483648 ≤ b ∧ b ≤ 2147483647 := oka _ (List.mem_of_getElem? (i := 2) rfl)
  have o_cc : -2147483648 ≤ cc ∧ cc ≤ 2147483647 := oka _ (List.mem_of_getElem? (i := 3) rfl)
  have o_dd : -2147483648 ≤ dd ∧ dd ≤ 2147483647 := oka _ (List.mem_of_getElem? (i := 4) rfl)
  have o_ee : -2147483648 ≤ ee ∧ ee ≤ 2147483647 := oka _ (List.mem_of_getElem? (i := 5) rfl)
  refine s_mono (s_FX11_feed_0 X (J := fun _ _ _ _ => False) (fun d => s_cutF)) ?_
  rintro lv st w' ⟨rfl, rfl, rfl⟩
  intro z9 h9
  first | replace h9 := e_add h9 (by omega) | replace h9 := e_rng h9
  apply And.intro
  · intro h13
    refine Exists.intro [1, 2, 3, 11, 12, 13, 14] (Exists.intro [q2 0, q1 _] (Exists.intro ((wT3 _ _ _ _ _)) (And.intro rfl (And.intro rfl (And.intro rfl (And.intro ⟨⟨_, rfl⟩, rfl⟩ ?_))))))
    refine Exists.intro _ (Exists.intro _ (Exists.intro _ (Exists.intro _ (Exists.intro _ (Exists.intro _ (And.intro rfl (And.intro rfl (And.intro (by first | omega | assumption | exact q_rg_up (by assumption) (by omega) | exact q_rg_up (q_rg_up (by assumption) (by omega)) (by omega) | exact q_rg_cpy (by assumption) (by assumption)) (?_)))))))))
    intro x1_23 x2_23 h23
    obtain ⟨p23, r23⟩ := h23
    subst p23
    subst r23
    refine Exists.intro [1, 2, 3, 11, 12, 13, 14] (Exists.intro [q2 0, q1 _] (Exists.intro ((wT3 _ _ _ _ _)) (And.intro rfl (And.intro rfl (And.intro rfl (And.intro ⟨⟨_, rfl⟩, rfl⟩ ?_))))))
    refine Exists.intro _ (Exists.intro _ (Exists.intro _ (Exists.intro _ (Exists.intro _ (Exists.intro _ (And.intro rfl (And.intro rfl (And.intro (by first | omega | assumption | exact q_rg_up (by assumption) (by omega) | exact q_rg_up (q_rg_up (by assumption) (by omega)) (by omega) | exact q_rg_cpy (by assumption) (by assumption)) (?_)))))))))
    intro x1_31 x2_31 h31
    obtain ⟨p31, r31⟩ := h31
    subst p31
    subst r31
    refine Exists.intro [1, 2, 3, 11, 12, 13, 14] (Exists.intro [q2 0, q1 _] (Exists.intro ((wT3 _ _ _ _ _)) (And.intro rfl (And.intro rfl (And.intro rfl (And.intro ⟨⟨_, rfl⟩, rfl⟩ ?_))))))
    refine Exists.intro _ (Exists.intro _ (Exists.intro _ (Exists.intro _ (Exists.intro _ (Exists.intro _ (And.intro rfl (And.intro rfl (And.intro (by first | omega | assumption | exact q_rg_up (by assumption) (by omega) | exact q_rg_up (q_rg_up (by assumption) (by omega)) (by omega) | exact q_rg_cpy (by assumption) (by assumption)) (?_)))))))))
    intro x1_39 x2_39 h39
    obtain ⟨p39, r39⟩ := h39
    subst p39
    subst r39
    refine Exists.intro [1, 2, 3, 11, 12, 13, 14] (Exists.intro [q2 0, q1 _] (Exists.intro ((wT3 _ _ _ _ _)) (And.intro rfl (And.intro rfl (And.intro rfl (And.intro ⟨⟨_, rfl⟩, rfl⟩ ?_))))))
    refine Exists.intro _ (Exists.intro _ (Exists.intro _ (Exists.intro _ (Exists.intro _ (Exists.intro _ (And.intro rfl (And.intro rfl (And.intro (by first | omega | assumption | exact q_rg_up (by assumption) (by omega) | exact q_rg_up (q_rg_up (by assumption) (by omega)) (by omega) | exact q_rg_cpy (by assumption) (by assumption)) (?_)))))))))
    intro x1_48 x2_48 h48
    obtain ⟨p48, r48⟩ := h48
    subst p48
    subst r48
    refine Exists.intro [1, 2, 3, 11, 12, 13, 14] (Exists.intro [q2 0, q1 _] (Exists.intro ((wT3 _ _ _ _ _)) (And.intro rfl (And.intro rfl (And.intro rfl (And.intro ⟨⟨_, rfl⟩, rfl⟩ ?_))))))
    refine Exists.intro _ (Exists.intro _ (Exists.intro _ (Exists.intro _ (Exists.intro _ (Exists.intro _ (And.intro rfl (And.intro rfl (And.intro (by first | omega | assumption | exact q_rg_up (by assumption) (by omega) | exact q_rg_up (q_rg_up (by assumption) (by omega)) (by omega) | exact q_rg_cpy (by assumption) (by assumption)) (?_)))))))))
    intro x1_57 x2_57 h57
    obtain ⟨p57, r57⟩ := h57
    subst p57
    subst r57
    exact hQ _ _ _ _ _ _ ⟨(by assumption), (by omega), (by first | exact ⟨Or.inl ⟨by omega, rfl, rfl, rfl⟩, rfl, rfl, rfl⟩ | exact ⟨Or.inr ⟨by omega, by omega, by omega, rfl⟩, rfl, rfl, rfl⟩)⟩
  · intro h13
    exact hQ _ _ _ _ _ _ ⟨(by assumption), (by omega), (by first | exact ⟨Or.inl ⟨by omega, rfl, rfl, rfl⟩, rfl, rfl, rfl⟩ | exact ⟨Or.inr ⟨by omega, by omega, by omega, rfl⟩, rfl, rfl, rfl⟩)⟩

theorem dFX11_end_0 : decode cX11_end 0 = .ok (.iload_n 1, 1) := by decide +kernel
theorem dFX11_end_1 : decode cX11_end 1 = .ok (.ifCond .lt 14, 3) := by decide +kernel
theorem dFX11_end_4 : decode cX11_end 4 = .ok (.iload_n 1, 1) := by decide +kernel
theorem dFX11_end_5 : decode cX11_end 5 = .ok (.aload_n 0, 1) := by decide +kernel
theorem dFX11_end_6 : decode cX11_end 6 = .ok (.getfield 10, 3) := by decide +kernel
theorem dFX11_end_9 : decode cX11_end 9 = .ok (.getfield 62, 3) := by decide +kernel
theorem dFX11_end_12 : decode cX11_end 12 = .ok (.if_icmp .le 5, 3) := by decide +kernel
theorem dFX11_end_15 : decode cX11_end 15 = .ok (.iconst (-1), 1) := by decide +kernel
theorem dFX11_end_16 : decode cX11_end 16 = .ok (.ireturn, 1) := by decide +kernel
theorem dFX11_end_17 : decode cX11_end 17 = .ok (.aload_n 0, 1) := by decide +kernel
theorem dFX11_end_18 : decode cX11_end 18 = .ok (.getfield 10, 3) := by decide +kernel
theorem dFX11_end_21 : decode cX11_end 21 = .ok (.iload_n 1, 1) := by decide +kernel
theorem dFX11_end_22 : decode cX11_end 22 = .ok (.putfield 62, 3) := by decide +kernel
theorem dFX11_end_25 : decode cX11_end 25 = .ok (.iload_n 1, 1) := by decide +kernel
theorem dFX11_end_26 : decode cX11_end 26 = .ok (.ireturn, 1) := by decide +kernel
def is_FX11_end : Nat → List Nat := fun d => []
set_option maxRecDepth 100000 in
def b_FX11_end_15 (J : Nat → List qV → List qV → qW → Prop) (Q : qR) : qK := x_int (-1) (x_iret Q)
set_option maxRecDepth 100000 in
theorem s_FX11_end_15 {p : Program} {l : Launch} {e : Env} {R : Room} {s : State} {m : MethodId} {args : Array Value} {below : List Frame} {meth : Method} {c : Code} {nW : Nat} {dC : Nat → ClassId} {dI : Nat → Nat → Nat} {k : Nat → ClassId} {g : Nat → Nat} {A : Nat → Prop} {J : Nat → List qV → List qV → qW → Prop} {Q : qR} (X : q_X p R s m args meth c cX11_end 2 nW 0 0 RX11 (some .int) dC dI k g A) (hJ : ∀ d : Nat, q_Sd p l e R s m args below meth c 2 nW dC dI k g A (MQ below (q_post (dC, dI) k g nW Q A) args s 0 0 A) d (x_cut (is_FX11_end d) (J d))) : q_Sd p l e R s m args below meth c 2 nW dC dI k g A (MQ below (q_post (dC, dI) k g nW Q A) args s 0 0 A) 15 (b_FX11_end_15 J Q) := by
  unfold b_FX11_end_15
  refine s_iconst X ⟨by decide, by decide⟩ dFX11_end_15 ?_
  exact s_iret X dFX11_end_16
set_option maxRecDepth 100000 in
def b_FX11_end_0 (J : Nat → List qV → List qV → qW → Prop) (Q : qR) : qK := x_iload 1 (x_if_lt (b_FX11_end_15 J Q) (x_iload 1 (x_aload 0 (x_get 11 0 (x_get 8 6 (x_icmp_le (x_aload 0 (x_get 11 0 (x_iload 1 (x_put 8 6 q_oki (x_nw (x_iload 1 (x_iret Q))))))) (b_FX11_end_15 J Q)))))))
set_option maxRecDepth 100000 in
theorem s_FX11_end_0 {p : Program} {l : Launch} {e : Env} {R : Room} {s : State} {m : MethodId} {args : Array Value} {below : List Frame} {meth : Method} {c : Code} {nW : Nat} {dC : Nat → ClassId} {dI : Nat → Nat → Nat} {k : Nat → ClassId} {g : Nat → Nat} {A : Nat → Prop} {J : Nat → List qV → List qV → qW → Prop} {Q : qR} (X : q_X p R s m args meth c cX11_end 2 nW 0 0 RX11 (some .int) dC dI k g A) (hJ : ∀ d : Nat, q_Sd p l e R s m args below meth c 2 nW dC dI k g A (MQ below (q_post (dC, dI) k g nW Q A) args s 0 0 A) d (x_cut (is_FX11_end d) (J d))) : q_Sd p l e R s m args below meth c 2 nW dC dI k g A (MQ below (q_post (dC, dI) k g nW Q A) args s 0 0 A) 0 (b_FX11_end_0 J Q) := by
  unfold b_FX11_end_0
  refine s_iload_n X rfl dFX11_end_0 ?_
  refine s_if_lt X (tgt := 15) dFX11_end_1 (by decide) ?_ ?_
  · exact s_FX11_end_15 X hJ
  · refine s_iload_n X rfl dFX11_end_4 ?_
    refine s_aload_n X rfl dFX11_end_5 ?_
    refine s_get X (T := TX11) (C := RX11) (N := 8) tu_X11 rfl (by decide) tw_326 dFX11_end_6 ?_
    refine s_get X (T := TX8) (C := RX8) (N := 9) tu_X8 rfl (by decide) tw_257 dFX11_end_9 ?_
    refine s_icmp_le X (tgt := 17) dFX11_end_12 (by decide) ?_ ?_
    · refine s_aload_n X rfl dFX11_end_17 ?_
      refine s_get X (T := TX11) (C := RX11) (N := 8) tu_X11 rfl (by decide) tw_326 dFX11_end_18 ?_
      refine s_iload_n X rfl dFX11_end_21 ?_
      refine s_put X (T := TX8) (C := RX8) (N := 9) tu_X8 tyX8_ok nmX8 rfl (by decide) tw_257 rfl (by decide +kernel) q_oki_t dFX11_end_22 ?_
      refine s_nw ?_
      refine s_iload_n X rfl dFX11_end_25 ?_
      exact s_iret X dFX11_end_26
    · exact s_FX11_end_15 X hJ

def sp_FX11_end : qS := fun av w Q => ∃ (tp : Nat → Int) (ct : Nat → Int) (ln : Int) (fa : Int) (pl : Int) (a : Int), av = [q2 0, q1 a] ∧ w = [.inr (11, [q2 1, q2 4, q2 5, q2 6, q2 7, q2 8, q2 9, q2 10]), .inr (8, [q2 2, q2 3, q2 11, q2 12, q2 13, q2 14, q1 ln, q1 fa, q1 pl]), .inl (1, 600, .inl tp), .inl (0, 4, .inl ct)] ∧ (q_rg 0 2 ct) ∧ (0 ≤ ln ∧ ln ≤ 600) ∧ (∀ (r : Int) (x_tp : Nat → Int) (x_ct : Nat → Int) (x_ln : Int) (x_fa : Int) (x_pl : Int), ((q_rg 0 2 x_ct) ∧ (0 ≤ x_ln ∧ x_ln ≤ 600) ∧ ((((a < 0 ∨ ln < a) ∧ r = -1 ∧ x_ln = ln) ∨ (0 ≤ a ∧ a ≤ ln ∧ r = a ∧ x_ln = a)) ∧ x_tp = tp ∧ x_ct = ct ∧ x_fa = fa ∧ x_pl = pl)) → Q (some (q1 r)) ([.inr (11, [q2 1, q2 4, q2 5, q2 6, q2 7, q2 8, q2 9, q2 10]), .inr (8, [q2 2, q2 3, q2 11, q2 12, q2 13, q2 14, q1 x_ln, q1 x_fa, q1 x_pl]), .inl (1, 600, .inl x_tp), .inl (0, 4, .inl x_ct)]))
set_option maxHeartbeats 4000000 in
set_option maxRecDepth 100000 in
theorem m_FX11_end (l : Launch) : q_M l yX11_end cX11_end 2 (some .int) 0 0 sp_FX11_end := by
  refine q_meth (by decide) (fun av w Q h => by obtain ⟨tp, ct, ln, fa, pl, a, rfl, rfl, hct, hln, hQ⟩ := h; exact Nat.le_of_ble_eq_true rfl) ?_
  intro p e R s m args below meth c dC dI k g A av w Q hsp oka okw X
  obtain ⟨tp, ct, ln, fa, pl, a, rfl, rfl, hct, hln, hQ⟩ := hsp
  have o_a : -2147483648 ≤ a ∧ a ≤ 2147483647 := oka _ (List.mem_of_getElem? (i := 1) rfl)
  refine s_mono (s_FX11_end_0 X (J := fun _ _ _ _ => False) (fun d => s_cutF)) ?_
  rintro lv st w' ⟨rfl, rfl, rfl⟩
  apply And.intro
  · intro h1
    exact hQ _ _ _ _ _ _ ⟨(by assumption), (by omega), ⟨by omega, rfl, rfl, rfl, rfl⟩⟩
  · intro h1
    apply And.intro
    · intro h12
      apply And.intro
      · exact trivial
      exact hQ _ _ _ _ _ _ ⟨(by assumption), (by omega), ⟨by omega, rfl, rfl, rfl, rfl⟩⟩
    · intro h12
      exact hQ _ _ _ _ _ _ ⟨(by assumption), (by omega), ⟨by omega, rfl, rfl, rfl, rfl⟩⟩

theorem dFX11_fault_0 : decode cX11_fault 0 = .ok (.iload_n 1, 1) := by decide +kernel
theorem dFX11_fault_1 : decode cX11_fault 1 = .ok (.ifCond .ne 11, 3) := by decide +kernel
theorem dFX11_fault_4 : decode cX11_fault 4 = .ok (.aload_n 0, 1) := by decide +kernel
theorem dFX11_fault_5 : decode cX11_fault 5 = .ok (.getfield 10, 3) := by decide +kernel
theorem dFX11_fault_8 : decode cX11_fault 8 = .ok (.getfield 70, 3) := by decide +kernel
theorem dFX11_fault_11 : decode cX11_fault 11 = .ok (.ireturn, 1) := by decide +kernel
theorem dFX11_fault_12 : decode cX11_fault 12 = .ok (.iload_n 1, 1) := by decide +kernel
theorem dFX11_fault_13 : decode cX11_fault 13 = .ok (.iconst 1, 1) := by decide +kernel
theorem dFX11_fault_14 : decode cX11_fault 14 = .ok (.if_icmp .ne 13, 3) := by decide +kernel
theorem dFX11_fault_17 : decode cX11_fault 17 = .ok (.aload_n 0, 1) := by decide +kernel
theorem dFX11_fault_18 : decode cX11_fault 18 = .ok (.getfield 10, 3) := by decide +kernel
theorem dFX11_fault_21 : decode cX11_fault 21 = .ok (.getfield 73, 3) := by decide +kernel
theorem dFX11_fault_24 : decode cX11_fault 24 = .ok (.goto 4, 3) := by decide +kernel
theorem dFX11_fault_27 : decode cX11_fault 27 = .ok (.iconst (-1), 1) := by decide +kernel
theorem dFX11_fault_28 : decode cX11_fault 28 = .ok (.ireturn, 1) := by decide +kernel
def is_FX11_fault : Nat → List Nat := fun d => []
set_option maxRecDepth 100000 in
def b_FX11_fault_28 (J : Nat → List qV → List qV → qW → Prop) (Q : qR) : qK := x_iret Q
set_option maxRecDepth 100000 in
theorem s_FX11_fault_28 {p : Program} {l : Launch} {e : Env} {R : Room} {s : State} {m : MethodId} {args : Array Value} {below : List Frame} {meth : Method} {c : Code} {nW : Nat} {dC : Nat → ClassId} {dI : Nat → Nat → Nat} {k : Nat → ClassId} {g : Nat → Nat} {A : Nat → Prop} {J : Nat → List qV → List qV → qW → Prop} {Q : qR} (X : q_X p R s m args meth c cX11_fault 2 nW 0 0 RX11 (some .int) dC dI k g A) (hJ : ∀ d : Nat, q_Sd p l e R s m args below meth c 2 nW dC dI k g A (MQ below (q_post (dC, dI) k g nW Q A) args s 0 0 A) d (x_cut (is_FX11_fault d) (J d))) : q_Sd p l e R s m args below meth c 2 nW dC dI k g A (MQ below (q_post (dC, dI) k g nW Q A) args s 0 0 A) 28 (b_FX11_fault_28 J Q) := by
  unfold b_FX11_fault_28
  exact s_iret X dFX11_fault_28
set_option maxRecDepth 100000 in
def b_FX11_fault_0 (J : Nat → List qV → List qV → qW → Prop) (Q : qR) : qK := x_iload 1 (x_if_ne (x_iload 1 (x_int 1 (x_icmp_ne (x_int (-1) (b_FX11_fault_28 J Q)) (x_aload 0 (x_get 11 0 (x_get 8 8 (b_FX11_fault_28 J Q))))))) (x_aload 0 (x_get 11 0 (x_get 8 7 (x_iret Q)))))
set_option maxRecDepth 100000 in
theorem s_FX11_fault_0 {p : Program} {l : Launch} {e : Env} {R : Room} {s : State} {m : MethodId} {args : Array Value} {below : List Frame} {meth : Method} {c : Code} {nW : Nat} {dC : Nat → ClassId} {dI : Nat → Nat → Nat} {k : Nat → ClassId} {g : Nat → Nat} {A : Nat → Prop} {J : Nat → List qV → List qV → qW → Prop} {Q : qR} (X : q_X p R s m args meth c cX11_fault 2 nW 0 0 RX11 (some .int) dC dI k g A) (hJ : ∀ d : Nat, q_Sd p l e R s m args below meth c 2 nW dC dI k g A (MQ below (q_post (dC, dI) k g nW Q A) args s 0 0 A) d (x_cut (is_FX11_fault d) (J d))) : q_Sd p l e R s m args below meth c 2 nW dC dI k g A (MQ below (q_post (dC, dI) k g nW Q A) args s 0 0 A) 0 (b_FX11_fault_0 J Q) := by
  unfold b_FX11_fault_0
  refine s_iload_n X rfl dFX11_fault_0 ?_
  refine s_if_ne X (tgt := 12) dFX11_fault_1 (by decide) ?_ ?_
  · refine s_iload_n X rfl dFX11_fault_12 ?_
    refine s_iconst X ⟨by decide, by decide⟩ dFX11_fault_13 ?_
    refine s_icmp_ne X (tgt := 27) dFX11_fault_14 (by decide) ?_ ?_
    · refine s_iconst X ⟨by decide, by decide⟩ dFX11_fault_27 ?_
      exact s_FX11_fault_28 X hJ
    · refine s_aload_n X rfl dFX11_fault_17 ?_
      refine s_get X (T := TX11) (C := RX11) (N := 8) tu_X11 rfl (by decide) tw_326 dFX11_fault_18 ?_
      refine s_get X (T := TX8) (C := RX8) (N := 9) tu_X8 rfl (by decide) tw_262 dFX11_fault_21 ?_
      refine s_goto X (tgt := 28) dFX11_fault_24 (by decide) ?_
      exact s_FX11_fault_28 X hJ
  · refine s_aload_n X rfl dFX11_fault_4 ?_
    refine s_get X (T := TX11) (C := RX11) (N := 8) tu_X11 rfl (by decide) tw_326 dFX11_fault_5 ?_
    refine s_get X (T := TX8) (C := RX8) (N := 9) tu_X8 rfl (by decide) tw_260 dFX11_fault_8 ?_
    exact s_iret X dFX11_fault_11

def spr_FX11_fault : List qV → qW → (Option qV → Prop) → Prop := fun av w Q => ∃ (tp : Nat → Int) (ct : Nat → Int) (ln : Int) (fa : Int) (pl : Int) (a : Int), av = [q2 0, q1 a] ∧ w = [.inr (11, [q2 1, q2 4, q2 5, q2 6, q2 7, q2 8, q2 9, q2 10]), .inr (8, [q2 2, q2 3, q2 11, q2 12, q2 13, q2 14, q1 ln, q1 fa, q1 pl]), .inl (1, 600, .inl tp), .inl (0, 4, .inl ct)] ∧ (q_rg 0 2 ct) ∧ (0 ≤ ln ∧ ln ≤ 600) ∧ (∀ (r : Int) , (((r = if a = 0 then fa else if a = 1 then pl else -1))) → Q (some (q1 r)))
def sp_FX11_fault : qS := fun av w Q => spr_FX11_fault av w (fun r => Q r w)
set_option maxHeartbeats 4000000 in
set_option maxRecDepth 100000 in
theorem m_FX11_fault (l : Launch) : q_M l yX11_fault cX11_fault 2 (some .int) 0 0 sp_FX11_fault := by
  refine q_meth (by decide) (fun av w Q h => by obtain ⟨tp, ct, ln, fa, pl, a, rfl, rfl, hct, hln, hQ⟩ := h; exact Nat.le_of_ble_eq_true rfl) ?_
  intro p e R s m args below meth c dC dI k g A av w Q hsp oka okw X
  obtain ⟨tp, ct, ln, fa, pl, a, rfl, rfl, hct, hln, hQ⟩ := hsp
  have o_a : -2147483648 ≤ a ∧ a ≤ 2147483647 := oka _ (List.mem_of_getElem? (i := 1) rfl)
  refine s_mono (s_FX11_fault_0 X (J := fun _ _ _ _ => False) (fun d => s_cutF)) ?_
  rintro lv st w' ⟨rfl, rfl, rfl⟩
  apply And.intro
  · intro h1
    apply And.intro
    · intro h14
      exact hQ _ (by first | (rw [if_pos (by omega)]) | (rw [if_neg (by omega), if_pos (by omega)]) | (rw [if_neg (by omega), if_neg (by omega)]))
    · intro h14
      exact hQ _ (by first | (rw [if_pos (by omega)]) | (rw [if_neg (by omega), if_pos (by omega)]) | (rw [if_neg (by omega), if_neg (by omega)]))
  · intro h1
    exact hQ _ (by first | (rw [if_pos (by omega)]) | (rw [if_neg (by omega), if_pos (by omega)]) | (rw [if_neg (by omega), if_neg (by omega)]))

theorem dFX11_count_0 : decode cX11_count 0 = .ok (.iload_n 1, 1) := by decide +kernel
theorem dFX11_count_1 : decode cX11_count 1 = .ok (.ifCond .lt 8, 3) := by decide +kernel
theorem dFX11_count_4 : decode cX11_count 4 = .ok (.iload_n 1, 1) := by decide +kernel
theorem dFX11_count_5 : decode cX11_count 5 = .ok (.iconst 4, 1) := by decide +kernel
theorem dFX11_count_6 : decode cX11_count 6 = .ok (.if_icmp .lt 8, 3) := by decide +kernel
theorem dFX11_count_9 : decode cX11_count 9 = .ok (.bipush (-2), 2) := by decide +kernel
theorem dFX11_count_11 : decode cX11_count 11 = .ok (.goto 12, 3) := by decide +kernel
theorem dFX11_count_14 : decode cX11_count 14 = .ok (.aload_n 0, 1) := by decide +kernel
theorem dFX11_count_15 : decode cX11_count 15 = .ok (.getfield 10, 3) := by decide +kernel
theorem dFX11_count_18 : decode cX11_count 18 = .ok (.getfield 290, 3) := by decide +kernel
theorem dFX11_count_21 : decode cX11_count 21 = .ok (.iload_n 1, 1) := by decide +kernel
theorem dFX11_count_22 : decode cX11_count 22 = .ok (.iaload, 1) := by decide +kernel
theorem dFX11_count_23 : decode cX11_count 23 = .ok (.ireturn, 1) := by decide +kernel
def is_FX11_count : Nat → List Nat := fun d => []
set_option maxRecDepth 100000 in
def b_FX11_count_23 (J : Nat → List qV → List qV → qW → Prop) (Q : qR) : qK := x_iret Q
set_option maxRecDepth 100000 in
theorem s_FX11_count_23 {p : Program} {l : Launch} {e : Env} {R : Room} {s : State} {m : MethodId} {args : Array Value} {below : List Frame} {meth : Method} {c : Code} {nW : Nat} {dC : Nat → ClassId} {dI : Nat → Nat → Nat} {k : Nat → ClassId} {g : Nat → Nat} {A : Nat → Prop} {J : Nat → List qV → List qV → qW → Prop} {Q : qR} (X : q_X p R s m args meth c cX11_count 2 nW 0 0 RX11 (some .int) dC dI k g A) (hJ : ∀ d : Nat, q_Sd p l e R s m args below meth c 2 nW dC dI k g A (MQ below (q_post (dC, dI) k g nW Q A) args s 0 0 A) d (x_cut (is_FX11_count d) (J d))) : q_Sd p l e R s m args below meth c 2 nW dC dI k g A (MQ below (q_post (dC, dI) k g nW Q A) args s 0 0 A) 23 (b_FX11_count_23 J Q) := by
  unfold b_FX11_count_23
  exact s_iret X dFX11_count_23
set_option maxRecDepth 100000 in
def b_FX11_count_9 (J : Nat → List qV → List qV → qW → Prop) (Q : qR) : qK := x_int (-2) (b_FX11_count_23 J Q)
set_option maxRecDepth 100000 in
theorem s_FX11_count_9 {p : Program} {l : Launch} {e : Env} {R : Room} {s : State} {m : MethodId} {args : Array Value} {below : List Frame} {meth : Method} {c : Code} {nW : Nat} {dC : Nat → ClassId} {dI : Nat → Nat → Nat} {k : Nat → ClassId} {g : Nat → Nat} {A : Nat → Prop} {J : Nat → List qV → List qV → qW → Prop} {Q : qR} (X : q_X p R s m args meth c cX11_count 2 nW 0 0 RX11 (some .int) dC dI k g A) (hJ : ∀ d : Nat, q_Sd p l e R s m args below meth c 2 nW dC dI k g A (MQ below (q_post (dC, dI) k g nW Q A) args s 0 0 A) d (x_cut (is_FX11_count d) (J d))) : q_Sd p l e R s m args below meth c 2 nW dC dI k g A (MQ below (q_post (dC, dI) k g nW Q A) args s 0 0 A) 9 (b_FX11_count_9 J Q) := by
  unfold b_FX11_count_9
  refine s_bipush X ⟨by decide, by decide⟩ (by decide) dFX11_count_9 ?_
  refine s_goto X (tgt := 23) dFX11_count_11 (by decide) ?_
  exact s_FX11_count_23 X hJ
set_option maxRecDepth 100000 in
def b_FX11_count_0 (J : Nat → List qV → List qV → qW → Prop) (Q : qR) : qK := x_iload 1 (x_if_lt (b_FX11_count_9 J Q) (x_iload 1 (x_int 4 (x_icmp_lt (x_aload 0 (x_get 11 0 (x_get 8 1 (x_iload 1 (x_iald (b_FX11_count_23 J Q)))))) (b_FX11_count_9 J Q)))))
set_option maxRecDepth 100000 in
theorem s_FX11_count_0 {p : Program} {l : Launch} {e : Env} {R : Room} {s : State} {m : MethodId} {args : Array Value} {below : List Frame} {meth : Method} {c : Code} {nW : Nat} {dC : Nat → ClassId} {dI : Nat → Nat → Nat} {k : Nat → ClassId} {g : Nat → Nat} {A : Nat → Prop} {J : Nat → List qV → List qV → qW → Prop} {Q : qR} (X : q_X p R s m args meth c cX11_count 2 nW 0 0 RX11 (some .int) dC dI k g A) (hJ : ∀ d : Nat, q_Sd p l e R s m args below meth c 2 nW dC dI k g A (MQ below (q_post (dC, dI) k g nW Q A) args s 0 0 A) d (x_cut (is_FX11_count d) (J d))) : q_Sd p l e R s m args below meth c 2 nW dC dI k g A (MQ below (q_post (dC, dI) k g nW Q A) args s 0 0 A) 0 (b_FX11_count_0 J Q) := by
  unfold b_FX11_count_0
  refine s_iload_n X rfl dFX11_count_0 ?_
  refine s_if_lt X (tgt := 9) dFX11_count_1 (by decide) ?_ ?_
  · exact s_FX11_count_9 X hJ
  · refine s_iload_n X rfl dFX11_count_4 ?_
    refine s_iconst X ⟨by decide, by decide⟩ dFX11_count_5 ?_
    refine s_icmp_lt X (tgt := 14) dFX11_count_6 (by decide) ?_ ?_
    · refine s_aload_n X rfl dFX11_count_14 ?_
      refine s_get X (T := TX11) (C := RX11) (N := 8) tu_X11 rfl (by decide) tw_326 dFX11_count_15 ?_
      refine s_get X (T := TX8) (C := RX8) (N := 9) tu_X8 rfl (by decide) tw_252 dFX11_count_18 ?_
      refine s_iload_n X rfl dFX11_count_21 ?_
      refine s_iald X dFX11_count_22 ?_
      exact s_FX11_count_23 X hJ
    · exact s_FX11_count_9 X hJ

def spr_FX11_count : List qV → qW → (Option qV → Prop) → Prop := fun av w Q => ∃ (tp : Nat → Int) (ct : Nat → Int) (ln : Int) (fa : Int) (pl : Int) (a : Int), av = [q2 0, q1 a] ∧ w = [.inr (11, [q2 1, q2 4, q2 5, q2 6, q2 7, q2 8, q2 9, q2 10]), .inr (8, [q2 2, q2 3, q2 11, q2 12, q2 13, q2 14, q1 ln, q1 fa, q1 pl]), .inl (1, 600, .inl tp), .inl (0, 4, .inl ct)] ∧ (q_rg 0 2 ct) ∧ (0 ≤ ln ∧ ln ≤ 600) ∧ (∀ (r : Int) , ((((0 ≤ a ∧ a ≤ 3) ∧ r = ct a.toNat ∨ ¬ (0 ≤ a ∧ a ≤ 3) ∧ r = -2))) → Q (some (q1 r)))
def sp_FX11_count : qS := fun av w Q => spr_FX11_count av w (fun r => Q r w)
set_option maxHeartbeats 4000000 in
set_option maxRecDepth 100000 in
theorem m_FX11_count (l : Launch) : q_M l yX11_count cX11_count 2 (some .int) 0 0 sp_FX11_count := by
  refine q_meth (by decide) (fun av w Q h => by obtain ⟨tp, ct, ln, fa, pl, a, rfl, rfl, hct, hln, hQ⟩ := h; exact Nat.le_of_ble_eq_true rfl) ?_
  intro p e R s m args below meth c dC dI k g A av w Q hsp oka okw X
  obtain ⟨tp, ct, ln, fa, pl, a, rfl, rfl, hct, hln, hQ⟩ := hsp
  have o_a : -2147483648 ≤ a ∧ a ≤ 2147483647 := oka _ (List.mem_of_getElem? (i := 1) rfl)
  refine s_mono (s_FX11_count_0 X (J := fun _ _ _ _ => False) (fun d => s_cutF)) ?_
  rintro lv st w' ⟨rfl, rfl, rfl⟩
  apply And.intro
  · intro h1
    exact hQ _ (by first | omega | assumption | exact q_rg_up (by assumption) (by omega) | exact q_rg_up (q_rg_up (by assumption) (by omega)) (by omega) | exact q_rg_cpy (by assumption) (by assumption))
  · intro h1
    apply And.intro
    · intro h6
      apply And.intro
      · exact ⟨by omega, by omega⟩
      intro z22 h22
      exact hQ _ (by first | omega | assumption | exact q_rg_up (by assumption) (by omega) | exact q_rg_up (q_rg_up (by assumption) (by omega)) (by omega) | exact q_rg_cpy (by assumption) (by assumption))
    · intro h6
      exact hQ _ (by first | omega | assumption | exact q_rg_up (by assumption) (by omega) | exact q_rg_up (q_rg_up (by assumption) (by omega)) (by omega) | exact q_rg_cpy (by assumption) (by assumption))
