section QB
variable {p : Program} {l : Launch} {e : Env} {R : Room} {s : State} {m : MethodId} {args : Array Value} {below : List Frame} {meth : Method} {c : Code} {cc : ByteArray} {nL nW fr lo : Nat} {own : String} {ret : Option FieldType} {dC : Nat → ClassId} {dI : Nat → Nat → Nat} {k : Nat → ClassId} {g : Nat → Nat} {A : Nat → Prop} {Qf : State → Prop} {pc : Nat} {K K1 K2 : qK}
theorem s_ldcw (X : q_X p R s m args meth c cc nL nW fr lo own ret dC dI k g A) {n : Int} {i : Nat} (hn : q_i n) (hw : Cond.constant own i (Int32.ofInt n) ∈ TB) (hd : decode cc pc = .ok (.ldc_w i, 3)) (hk : q_Sd p l e R s m args below meth c nL nW dC dI k g A Qf (pc + 3) (K)) : q_Sd p l e R s m args below meth c nL nW dC dI k g A Qf (pc) (x_int n K) := by
  intro H locs ls lv st w h hP hW hS hl okl oks okw
  obtain ⟨hx, hb, hml, hown, hts, hK, hA, hE, hfr, hlo, hlk, hret, hDg⟩ := X
  exact lv_ldcw hx hb hown (hts _ hw) hd (hk H locs ls (lv) (.inl n :: st) (w) h hP hW hS hl okl (q_oks_c hn oks) okw)
def x_copys (j : Nat) (xs : List Int) (K : qK) : qK := fun lv st w => match st with
  | .inl n :: .inl dp :: .inr (.inr (some a)) :: .inl sp :: .inr (.inr (some b)) :: r => match Nat.ble (r.map q_cat).sum 8 && Nat.beq b (1000 + j) with
    | true => q_ari w a 0 (fun na u => (0 ≤ sp ∧ 0 ≤ dp ∧ 0 ≤ n ∧ sp + n ≤ xs.length ∧ dp + n ≤ na) ∧ K lv r (w.set a (.inl (0, na, .inl (va_cpy (fun i => xs.getD i 0) u sp.toNat dp.toNat n.toNat)))))
    | false => False
  | _ => False
theorem s_copys (X : q_X p R s m args meth c cc nL nW fr lo own ret dC dI k g A) {index j : Nat} {nm : String} {xs : List Int} (hj : qSt[j]? = some (nm, xs)) (hxs : ∀ z ∈ xs, q_i z) (h1 : Cond.methodLink own index arraycopyName ∈ TB) (h2 : Cond.native arraycopyName ∈ TB) (h3 : Cond.static arraycopyName ∈ TB) (h4 : Cond.initialized "java/lang/System" ∈ TB) (hroom : 1 ≤ fr ∧ 8 + (nativeFrameWords "java/lang/System" "arraycopy" 5 + 11) ≤ lo) (hd : decode cc pc = .ok (.invokestatic index, 3)) (hk : q_Sd p l e R s m args below meth c nL nW dC dI k g A Qf (pc + 3) (K)) : q_Sd p l e R s m args below meth c nL nW dC dI k g A Qf (pc) (x_copys j xs K) := by
  intro H locs ls lv st w h hP hW hS hl okl oks okw
  obtain ⟨hx, hb, hml, hown, hts, hK, hA, hE, hfr, hlo, hlk, hret, hDg⟩ := X
  unfold x_copys at h
  split at h
  · rename_i n dp a sp b r
    split at h
    case h_2 => exact h.elim
    rename_i hb9
    simp only [Bool.and_eq_true] at hb9
    obtain ⟨hr, hbj⟩ := hb9
    have hr := Nat.le_of_ble_eq_true hr
    have hbj := Nat.eq_of_beq_eq_true hbj
    subst hbj
    obtain ⟨na, u, hwa, ⟨g1, g2, g3, g4, g5⟩, h⟩ := q_ari_of h
    have hin : q_i n := q_oks_h oks
    have hid : q_i dp := q_oks_h (q_oks_t oks)
    have his : q_i sp := q_oks_h (q_oks_t (q_oks_t (q_oks_t oks)))
    obtain ⟨-, hX, hlt, hnA⟩ := hE.2.2.1 j nm xs hj
    have hca := q_okw_at okw hwa
    have e0 : (0 : Int32) = Int32.ofInt 0 := rfl
    have hxi : ∀ i : Nat, q_i (xs.getD i 0) := by
      intro i
      rw [List.getD_eq_getElem?_getD]
      cases hi : xs[i]? with
      | none => exact q_i0
      | some z => exact hxs z (List.mem_of_getElem? hi)
    refine va_copyx hx hb (by rw [hml]; exact hl.1.symm) hown (hts _ h1) (hts _ h2) (hts _ h3) (hts _ h4) hK hP (q_D_va (by rw [hW]; exact hDg)) hS hX hlt hnA a 0 (q_w_at hwa) rfl (sp := Int32.ofInt sp) (dp := Int32.ofInt dp) (n := Int32.ofInt n) (by rw [e0, q_lt_iff his q_i0]; omega) (by rw [e0, q_lt_iff hid q_i0]; omega) (by rw [e0, q_lt_iff hin q_i0]; omega) (by rw [q_cl his, q_cl hin]; omega) (by rw [q_cl hid, q_cl hin]; omega) (Nat.le_trans hroom.1 hfr) (by rw [q_cats]; have := hroom.2; omega) hd (fun H1 locs1 hP1 _ hS1 => ?_)
    rw [q_cl his, q_cl hid, q_cl hin, q_cpy32 (fun i => xs.getD i 0)] at hP1
    have e2 : (q_w k g w).set a (g a, .inl (k 0, na, .inl (fun j => Int32.ofInt (va_cpy (fun i => xs.getD i 0) u sp.toNat dp.toNat n.toNat j)))) = q_w k g (w.set a (.inl (0, na, .inl (va_cpy (fun i => xs.getD i 0) u sp.toNat dp.toNat n.toNat)))) := by
      exact q_w_set (x := .inl (0, na, .inl (va_cpy (fun i => xs.getD i 0) u sp.toNat dp.toNat n.toNat)))
    rw [e2] at hP1
    exact (hk H1 locs1 ls (lv) (r) (w.set a (.inl (0, na, .inl (va_cpy (fun i => xs.getD i 0) u sp.toNat dp.toNat n.toNat)))) h hP1 (by rw [List.length_set]; exact hW) hS1 hl okl (q_oks_t (q_oks_t (q_oks_t (q_oks_t (q_oks_t oks))))) (q_okw_set okw ⟨q_cpy_p (P := q_i) hxi hca.1, fun e9 => absurd e9 (by decide)⟩))
  · exact h.elim
def x_lmax (K : qK) : qK := fun lv st w => match st with
  | .inr (.inl y) :: .inr (.inl x) :: r => match Nat.ble (r.map q_cat).sum 8 with
    | true => ∀ z : Int, z = max x y → K lv (.inr (.inl z) :: r) w
    | false => False
  | _ => False
theorem q_lmax {x y : Int} (hx : q_l x) (hy : q_l y) : (if Int64.ofInt y < Int64.ofInt x then Int64.ofInt x else Int64.ofInt y) = Int64.ofInt (max x y) := by
  have e : Int64.ofInt y < Int64.ofInt x ↔ y < x := by rw [Int64.lt_iff_toInt_lt, q_lo hx, q_lo hy]
  by_cases h : y < x
  · rw [if_pos (e.mpr h), Int.max_eq_left (by omega)]
  · rw [if_neg (fun z => h (e.mp z)), Int.max_eq_right (by omega)]
theorem s_lmax (X : q_X p R s m args meth c cc nL nW fr lo own ret dC dI k g A) {index : Nat} (h1 : Cond.methodLink own index Lib.MathLoose.max_long.x ∈ TB) (h2 : Cond.static Lib.MathLoose.max_long.x ∈ TB) (h3 : Cond.initialized "java/lang/Math" ∈ TB) (h4 : Cond.code Lib.MathLoose.max_long.x Lib.MathLoose.max_long.code 4 (some .long) ∈ TB) (hroom : 1 ≤ fr ∧ 23 ≤ lo) (hd : decode cc pc = .ok (.invokestatic index, 3)) (hk : q_Sd p l e R s m args below meth c nL nW dC dI k g A Qf (pc + 3) (K)) : q_Sd p l e R s m args below meth c nL nW dC dI k g A Qf (pc) (x_lmax K) := by
  intro H locs ls lv st w h hP hW hS hl okl oks okw
  obtain ⟨hx, hb, hml, hown, hts, hK, hA, hE, hfr, hlo, hlk, hret, hDg⟩ := X
  unfold x_lmax at h
  split at h
  · rename_i y x r
    split at h
    case h_2 => exact h.elim
    rename_i hb9
    have hb9 := Nat.le_of_ble_eq_true hb9
    have hy : q_l y := q_oks_h oks
    have hx0 : q_l x := q_oks_h (q_oks_t oks)
    intro T hT XT
    obtain ⟨vm', X', st⟩ := va_max_longV XT hx hown (hts _ h1) (hts _ h2) (hts _ h3) (hts _ h4) (g := F0 m pc ls ((.inr (.inl y) :: .inr (.inl x) :: r : List qV).map (q_v g))) rfl (by rw [hml]; exact hl.1) (a := Int64.ofInt x) (b := Int64.ofInt y) (rest := r.map (q_v g)) rfl (by rw [hb]; exact hd) (Nat.le_trans hroom.1 hfr) (by have h9 := q_cats (g := g) r; show 2 * 0 + _ + 15 ≤ _; have := hroom.2; omega) (Nat.zero_le _) (Nat.zero_le _)
    rw [q_lmax hx0 hy] at st
    obtain ⟨t, a1, b1⟩ := (hk H locs ls (lv) (.inr (.inl (max x y)) :: r) (w) (h _ rfl) hP hW hS hl okl (q_oks_c (by show q_l _; exact ⟨by have := hx0.1; have := hy.1; omega, by have := hx0.2; have := hy.2; omega⟩) (q_oks_t (q_oks_t oks))) okw) (T.setVm vm') hT X'
    exact ⟨t, st t a1, b1⟩
  · exact h.elim
end QB
theorem q_fill_s {h f : Nat → Int} {a i z : Int} (hh : ∀ j : Nat, h j = if (j : Int) < i then a else f j) (hi : 0 ≤ i) (hz : z = i + 1) : ∀ j : Nat, q_up h i.toNat a j = if (j : Int) < z then a else f j := by
  intro j
  by_cases e : j = i.toNat
  · subst e; rw [q_up_s, if_pos (by omega)]
  · rw [q_up_n e, hh j]
    by_cases e2 : (j : Int) < i
    · rw [if_pos e2, if_pos (by omega)]
    · rw [if_neg e2, if_neg (by omega)]
theorem q_rg_fill {g f : Nat → Int} {a lo hi : Int} {n : Nat} (hg : ∀ j : Nat, g j = if (j : Int) < n then a else f j) (ha : lo ≤ a ∧ a ≤ hi) (hf : q_rg lo hi f) : q_rg lo hi g := by
  intro j
  rw [hg j]
  split
  · exact ha
  · exact hf j
def wBo (b : Nat) (f1 f2 f3 f4 f5 f6 f7 : Nat → Int) (u0 u1 u2 u3 u4 : Int) : qW := [.inr (0, [q2 (b + 1), q2 (b + 2), q2 (b + 3), q2 (b + 4), q2 (b + 5), q2 (b + 6), q2 (b + 7), q1 u0, q1 u1, q1 u2, q1 u3, q1 u4]), .inl (0, 8, .inl f1), .inl (0, 8, .inl f2), .inl (0, 4, .inl f3), .inl (0, 32, .inl f4), .inl (0, 6, .inl f5), .inl (0, 6, .inl f6), .inl (0, 6, .inl f7)]
def wYo (b : Nat) (k1 k2 k3 k4 : Nat → Int) (d : Int) : qW := [.inr (10, [q2 (b + 1), q2 (b + 2), q2 (b + 3), q2 (b + 4), q1 d]), .inl (0, 40, .inl k1), .inl (0, 40, .inl k2), .inl (0, 40, .inl k3), .inl (0, 40, .inl k4)]
def wLo (b : Nat) (g1 : Nat → Int) (o1 : Int) : qW := [.inr (3, [q2 (b + 1), q1 o1]), .inl (0, 8, .inl g1)]
def wSo (b : Nat) (p1 p2 : Nat → Int) (c1 : Int) : qW := [.inr (7, [q2 (b + 1), q2 (b + 2), q1 c1]), .inl (0, 10, .inl p1), .inl (0, 10, .inl p2)]
