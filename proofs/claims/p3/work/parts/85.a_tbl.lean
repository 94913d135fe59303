section QO9
variable {p : Program} {l : Launch} {e : Env} {R : Room} {s : State} {m : MethodId} {args : Array Value} {below : List Frame} {meth : Method} {c : Code} {cc : ByteArray} {nL nW fr lo : Nat} {own : String} {ret : Option FieldType} {dC : Nat → ClassId} {dI : Nat → Nat → Nat} {k : Nat → ClassId} {g : Nat → Nat} {A : Nat → Prop} {Qf : State → Prop} {pc : Nat} {K K1 K2 : qK}
def WSo (C : List (qC → Prop)) (out : Nat → Prop) (w0 w : qW) : Prop := PW C w ∧ w.length = w0.length ∧ ∀ i : Nat, out i → w[i]? = w0[i]?
theorem WSo_0 {C : List (qC → Prop)} {out : Nat → Prop} {w : qW} (h : PW C w) : WSo C out w w := ⟨h, rfl, fun _ _ => rfl⟩
theorem WSo_t {C : List (qC → Prop)} {out : Nat → Prop} {w0 w w1 : qW} (h : WSo C out w0 w) (h1 : PW C w1) (h2 : w1.length = w.length) (h3 : ∀ i : Nat, out i → w1[i]? = w[i]?) : WSo C out w0 w1 := ⟨h1, by rw [h2]; exact h.2.1, fun i hi => by rw [h3 i hi]; exact h.2.2 i hi⟩
theorem WSo_set {C : List (qC → Prop)} {out : Nat → Prop} {w0 w : qW} {a : Nat} {x : qC} (h : WSo C out w0 w) (ha : ¬ out a) (hc : match C[a]? with
    | some P => P x
    | none => True) : WSo C out w0 (w.set a x) := by
  refine ⟨PW_set h.1 hc, by rw [List.length_set]; exact h.2.1, fun i hi => ?_⟩
  rw [List.getElem?_set, if_neg (fun e => ha (by rw [e]; exact hi))]; exact h.2.2 i hi
theorem p_putO {C : List (qC → Prop)} {out : Nat → Prop} {w0 w : qW} {a ci kf : Nat} {vs : List qV} {v : qV} {ok : qV → Prop} {lv : qL} {r : List qV} (hW : WSo C out w0 w) (e : w[a]? = some (.inr (ci, vs))) (hl : Nat.blt kf vs.length = true) (hok : ok v) (ha : ¬ out a) (hc : match C[a]? with
    | some P => P (.inr (ci, vs.set kf v))
    | none => True) (hk : ∀ w', WSo C out w0 w' → K lv r w') : x_put ci kf ok K lv (v :: .inr (.inr (some a)) :: r) w := p_put e hl hok (hk _ (WSo_set hW ha hc))
theorem p_copyO {C : List (qC → Prop)} {out : Nat → Prop} {w0 w : qW} {a b ta na nb : Nat} {f u : Nat → Int} {n dp sp : Int} {lv : qL} {r : List qV} (hW : WSo C out w0 w) (eb : w[b]? = some (.inl (ta, nb, .inl f))) (ea : w[a]? = some (.inl (ta, na, .inl u))) (hcc : (Nat.ble (r.map q_cat).sum 8 && (Nat.beq ta ta && Nat.blt ta 2)) = true) (hi : 0 ≤ sp ∧ 0 ≤ dp ∧ 0 ≤ n ∧ sp + n ≤ nb ∧ dp + n ≤ na) (ha : ¬ out a) (hc : match C[a]? with
    | some P => P (.inl (ta, na, .inl (va_cpy f u sp.toNat dp.toNat n.toNat)))
    | none => True) (hk : ∀ w', WSo C out w0 w' → K lv r w') : x_copy K lv (.inl n :: .inl dp :: .inr (.inr (some a)) :: .inl sp :: .inr (.inr (some b)) :: r) w := p_copy eb ea hcc hi (hk _ (WSo_set hW ha hc))
def spO (C : List (qC → Prop)) (out : Nat → Prop) (rel : Option qV → Prop) (ar : List qV → Prop) : qS := fun av w Q => PW C w ∧ ar av ∧ ∀ r w', PW C w' → w'.length = w.length → (∀ i : Nat, out i → w'[i]? = w[i]?) → rel r → Q r w'
theorem spO_mo {C : List (qC → Prop)} {out : Nat → Prop} {rel : Option qV → Prop} {ar : List qV → Prop} : ∀ (av : List qV) (w : qW) (P P' : Option qV → qW → Prop), (∀ r w1, P r w1 → P' r w1) → spO C out rel ar av w P → spO C out rel ar av w P' := fun av w P P' h hs => ⟨hs.1, hs.2.1, fun r w' a b c d => h _ _ (hs.2.2 r w' a b c d)⟩
theorem p_callO {C : List (qC → Prop)} {out : Nat → Prop} {rel : Option qV → Prop} {ar : List qV → Prop} {ci np a : Nat} {As rest vs : List qV} {w0 w : qW} {lv : qL} (hW : WSo C out w0 w) (hn : As.length + 1 = np) (e : w[a]? = some (.inr (ci, vs))) (hc : (rest.map q_cat).sum ≤ 8) (har : ar (.inr (.inr (some a)) :: As)) (hk : ∀ r w', WSo C out w0 w' → rel r → K lv (q_pi r rest) w') : x_calla ci np (spO C out rel ar) K lv (As.reverse ++ .inr (.inr (some a)) :: rest) w :=
  ⟨a, As, rest, vs, rfl, hn, e, hc, hW.1, har, fun r w' h1 h2 h3 h4 _ => hk r w' (WSo_t hW h1 h2 h3) h4⟩
theorem bw_outo {out : Nat → Prop} {pos ps : List Nat} {w w1 : qW} (h : ∀ p ∈ ps, ¬ out p) : ∀ i : Nat, out i → (q_bw pos w ps w1)[i]? = w[i]? := fun i hi => q_bw_ne _ _ _ _ (fun hm => h i hm hi)
theorem p_putGo {C C' : List (qC → Prop)} {out : Nat → Prop} {w0 w : qW} {a ci kf : Nat} {vs : List qV} {v : qV} {ok : qV → Prop} {lv : qL} {r : List qV} (hW : WSo C out w0 w) (e : w[a]? = some (.inr (ci, vs))) (hl : Nat.blt kf vs.length = true) (hok : ok v) (ha : ¬ out a) (hC : ∀ i : Nat, ¬ i = a → C'[i]? = C[i]?) (hL : C'.length = C.length) (hc : match C'[a]? with
    | some P => P (.inr (ci, vs.set kf v))
    | none => True) (hk : ∀ w', WSo C' out w0 w' → K lv r w') : x_put ci kf ok K lv (v :: .inr (.inr (some a)) :: r) w := by
  refine p_put e hl hok (hk _ ⟨PW_setC hW.1 hC hL hc, by rw [List.length_set]; exact hW.2.1, fun i hi => ?_⟩)
  rw [List.getElem?_set, if_neg (fun e => ha (by rw [e]; exact hi))]; exact hW.2.2 i hi
def spQ (C C' : List (qC → Prop)) (out : Nat → Prop) (rel : Option qV → Prop) (ar : List qV → Prop) : qS := fun av w Q => PW C w ∧ ar av ∧ ∀ r w', PW C' w' → w'.length = w.length → (∀ i : Nat, out i → w'[i]? = w[i]?) → rel r → Q r w'
end QO9

def PT_T (o : Nat) (ln : Int) : qC → Prop := fun x => ∃ (fa : Int) (pl : Int), x = .inr (8, [q2 (o + 1), q2 (o + 2), q2 (o + 3), q2 (o + 4), q2 (o + 5), q2 (o + 6), q1 ln, q1 fa, q1 pl]) ∧ (0 ≤ ln ∧ ln ≤ 600)
def PT_Ttp (o : Nat) : qC → Prop := fun x => ∃ (tp : Nat → Int), x = .inl (1, 600, .inl tp)
def PT_Tct (o : Nat) : qC → Prop := fun x => ∃ (ct : Nat → Int), x = .inl (0, 4, .inl ct) ∧ (q_rg 0 2 ct)
def PT_TBa (o : Nat) : qC → Prop := fun x => x = .inl (4, 2, .inr (.inr [some (o + 7), some (o + 15)]))
def PT_TYa (o : Nat) : qC → Prop := fun x => x = .inl (5, 2, .inr (.inr [some (o + 23), some (o + 28)]))
def PT_TLa (o : Nat) : qC → Prop := fun x => x = .inl (6, 2, .inr (.inr [some (o + 33), some (o + 35)]))
def PT_TSa (o : Nat) : qC → Prop := fun x => x = .inl (7, 2, .inr (.inr [some (o + 37), some (o + 40)]))
def PT_B0 (o : Nat) : qC → Prop := fun x => ∃ (b0u0 : Int) (b0u1 : Int) (b0u2 : Int) (b0u3 : Int) (b0u4 : Int), x = .inr (0, [q2 (o + 8), q2 (o + 9), q2 (o + 10), q2 (o + 11), q2 (o + 12), q2 (o + 13), q2 (o + 14), q1 b0u0, q1 b0u1, q1 b0u2, q1 b0u3, q1 b0u4]) ∧ (0 ≤ b0u0 ∧ b0u0 ≤ 8 ∧ 0 ≤ b0u3 ∧ b0u3 ≤ 6 ∧ 0 ≤ b0u4 ∧ b0u4 ≤ 6)
def PT_B0_1 (o : Nat) : qC → Prop := fun x => ∃ (b0f1 : Nat → Int), x = .inl (0, 8, .inl b0f1)
def PT_B0_2 (o : Nat) : qC → Prop := fun x => ∃ (b0f2 : Nat → Int), x = .inl (0, 8, .inl b0f2)
def PT_B0_3 (o : Nat) : qC → Prop := fun x => ∃ (b0f3 : Nat → Int), x = .inl (0, 4, .inl b0f3) ∧ (q_rg 0 9 b0f3)
def PT_B0_4 (o : Nat) : qC → Prop := fun x => ∃ (b0f4 : Nat → Int), x = .inl (0, 32, .inl b0f4)
def PT_B0_5 (o : Nat) : qC → Prop := fun x => ∃ (b0f5 : Nat → Int), x = .inl (0, 6, .inl b0f5)
def PT_B0_6 (o : Nat) : qC → Prop := fun x => ∃ (b0f6 : Nat → Int), x = .inl (0, 6, .inl b0f6)
def PT_B0_7 (o : Nat) : qC → Prop := fun x => ∃ (b0f7 : Nat → Int), x = .inl (0, 6, .inl b0f7)
def PT_B1 (o : Nat) : qC → Prop := fun x => ∃ (b1u0 : Int) (b1u1 : Int) (b1u2 : Int) (b1u3 : Int) (b1u4 : Int), x = .inr (0, [q2 (o + 16), q2 (o + 17), q2 (o + 18), q2 (o + 19), q2 (o + 20), q2 (o + 21), q2 (o + 22), q1 b1u0, q1 b1u1, q1 b1u2, q1 b1u3, q1 b1u4]) ∧ (0 ≤ b1u0 ∧ b1u0 ≤ 8 ∧ 0 ≤ b1u3 ∧ b1u3 ≤ 6 ∧ 0 ≤ b1u4 ∧ b1u4 ≤ 6)
def PT_B1_1 (o : Nat) : qC → Prop := fun x => ∃ (b1f1 : Nat → Int), x = .inl (0, 8, .inl b1f1)
def PT_B1_2 (o : Nat) : qC → Prop := fun x => ∃ (b1f2 : Nat → Int), x = .inl (0, 8, .inl b1f2)
def PT_B1_3 (o : Nat) : qC → Prop := fun x => ∃ (b1f3 : Nat → Int), x = .inl (0, 4, .inl b1f3) ∧ (q_rg 0 9 b1f3)
def PT_B1_4 (o : Nat) : qC → Prop := fun x => ∃ (b1f4 : Nat → Int), x = .inl (0, 32, .inl b1f4)
def PT_B1_5 (o : Nat) : qC → Prop := fun x => ∃ (b1f5 : Nat → Int), x = .inl (0, 6, .inl b1f5)
def PT_B1_6 (o : Nat) : qC → Prop := fun x => ∃ (b1f6 : Nat → Int), x = .inl (0, 6, .inl b1f6)
def PT_B1_7 (o : Nat) : qC → Prop := fun x => ∃ (b1f7 : Nat → Int), x = .inl (0, 6, .inl b1f7)
def PT_Y0 (o : Nat) : qC → Prop := fun x => ∃ (y0d : Int), x = .inr (10, [q2 (o + 24), q2 (o + 25), q2 (o + 26), q2 (o + 27), q1 y0d]) ∧ (0 ≤ y0d ∧ y0d ≤ 40)
def PT_Y0_1 (o : Nat) : qC → Prop := fun x => ∃ (y0k1 : Nat → Int), x = .inl (0, 40, .inl y0k1)
def PT_Y0_2 (o : Nat) : qC → Prop := fun x => ∃ (y0k2 : Nat → Int), x = .inl (0, 40, .inl y0k2)
def PT_Y0_3 (o : Nat) : qC → Prop := fun x => ∃ (y0k3 : Nat → Int), x = .inl (0, 40, .inl y0k3)
def PT_Y0_4 (o : Nat) : qC → Prop := fun x => ∃ (y0k4 : Nat → Int), x = .inl (0, 40, .inl y0k4)
def PT_Y1 (o : Nat) : qC → Prop := fun x => ∃ (y1d : Int), x = .inr (10, [q2 (o + 29), q2 (o + 30), q2 (o + 31), q2 (o + 32), q1 y1d]) ∧ (0 ≤ y1d ∧ y1d ≤ 40)
def PT_Y1_1 (o : Nat) : qC → Prop := fun x => ∃ (y1k1 : Nat → Int), x = .inl (0, 40, .inl y1k1)
def PT_Y1_2 (o : Nat) : qC → Prop := fun x => ∃ (y1k2 : Nat → Int), x = .inl (0, 40, .inl y1k2)
def PT_Y1_3 (o : Nat) : qC → Prop := fun x => ∃ (y1k3 : Nat → Int), x = .inl (0, 40, .inl y1k3)
def PT_Y1_4 (o : Nat) : qC → Prop := fun x => ∃ (y1k4 : Nat → Int), x = .inl (0, 40, .inl y1k4)
def PT_L0 (o : Nat) : qC → Prop := fun x => ∃ (l0o : Int), x = .inr (3, [q2 (o + 34), q1 l0o])
def PT_L0_1 (o : Nat) : qC → Prop := fun x => ∃ (l0g : Nat → Int), x = .inl (0, 8, .inl l0g)
def PT_L1 (o : Nat) : qC → Prop := fun x => ∃ (l1o : Int), x = .inr (3, [q2 (o + 36), q1 l1o])
def PT_L1_1 (o : Nat) : qC → Prop := fun x => ∃ (l1g : Nat → Int), x = .inl (0, 8, .inl l1g)
def PT_S0 (o : Nat) : qC → Prop := fun x => ∃ (s0c : Int), x = .inr (7, [q2 (o + 38), q2 (o + 39), q1 s0c]) ∧ (0 ≤ s0c ∧ s0c ≤ 10)
def PT_S0_1 (o : Nat) : qC → Prop := fun x => ∃ (s0p : Nat → Int), x = .inl (0, 10, .inl s0p)
def PT_S0_2 (o : Nat) : qC → Prop := fun x => ∃ (s0t : Nat → Int), x = .inl (0, 10, .inl s0t)
def PT_S1 (o : Nat) : qC → Prop := fun x => ∃ (s1c : Int), x = .inr (7, [q2 (o + 41), q2 (o + 42), q1 s1c]) ∧ (0 ≤ s1c ∧ s1c ≤ 10)
def PT_S1_1 (o : Nat) : qC → Prop := fun x => ∃ (s1p : Nat → Int), x = .inl (0, 10, .inl s1p)
def PT_S1_2 (o : Nat) : qC → Prop := fun x => ∃ (s1t : Nat → Int), x = .inl (0, 10, .inl s1t)
def TBL (o : Nat) (u : Int) : List (qC → Prop) := PT_T o u :: PT_Ttp o :: PT_Tct o :: PT_TBa o :: PT_TYa o :: PT_TLa o :: PT_TSa o :: PT_B0 o :: PT_B0_1 o :: PT_B0_2 o :: PT_B0_3 o :: PT_B0_4 o :: PT_B0_5 o :: PT_B0_6 o :: PT_B0_7 o :: PT_B1 o :: PT_B1_1 o :: PT_B1_2 o :: PT_B1_3 o :: PT_B1_4 o :: PT_B1_5 o :: PT_B1_6 o :: PT_B1_7 o :: PT_Y0 o :: PT_Y0_1 o :: PT_Y0_2 o :: PT_Y0_3 o :: PT_Y0_4 o :: PT_Y1 o :: PT_Y1_1 o :: PT_Y1_2 o :: PT_Y1_3 o :: PT_Y1_4 o :: PT_L0 o :: PT_L0_1 o :: PT_L1 o :: PT_L1_1 o :: PT_S0 o :: PT_S0_1 o :: PT_S0_2 o :: PT_S1 o :: PT_S1_1 o :: PT_S1_2 o :: []
set_option maxRecDepth 100000 in
theorem TBL_1 (ln : Int) (siz kp : Nat → Int) : TBL 1 ln = ((LC ln siz kp).drop 1).take 43 := rfl
def CL_111 (ln : Int) (siz kp : Nat → Int) (u : Int) : List (qC → Prop) := LC ln siz kp ++ (List.replicate 0 (fun _ => True) ++ TBL 111 u)
set_option maxRecDepth 100000 in
theorem CL_111_t {ln ln' : Int} {siz kp : Nat → Int} {u : Int} {i : Nat} (h : ¬ i = 1) : (CL_111 ln' siz kp u)[i]? = (CL_111 ln siz kp u)[i]? := by
  rw [show CL_111 ln' siz kp u = (CL_111 ln siz kp u).set 1 (PX_T ln') from rfl, List.getElem?_set, if_neg (fun e => h e.symm)]
set_option maxRecDepth 100000 in
theorem CL_111_i {ln : Int} {siz kp : Nat → Int} {u u' : Int} {i : Nat} (h : ¬ i = 111) : (CL_111 ln siz kp u')[i]? = (CL_111 ln siz kp u)[i]? := by
  rw [show CL_111 ln siz kp u' = (CL_111 ln siz kp u).set 111 (PT_T 111 u') from rfl, List.getElem?_set, if_neg (fun e => h e.symm)]
def out_111 : Nat → Prop := fun i => ¬ (1 ≤ i ∧ i ≤ 43) ∧ ¬ (111 ≤ i ∧ i ≤ 153)
def CL_154 (ln : Int) (siz kp : Nat → Int) (u : Int) : List (qC → Prop) := LC ln siz kp ++ (List.replicate 43 (fun _ => True) ++ TBL 154 u)
set_option maxRecDepth 100000 in
theorem CL_154_t {ln ln' : Int} {siz kp : Nat → Int} {u : Int} {i : Nat} (h : ¬ i = 1) : (CL_154 ln' siz kp u)[i]? = (CL_154 ln siz kp u)[i]? := by
  rw [show CL_154 ln' siz kp u = (CL_154 ln siz kp u).set 1 (PX_T ln') from rfl, List.getElem?_set, if_neg (fun e => h e.symm)]
set_option maxRecDepth 100000 in
theorem CL_154_i {ln : Int} {siz kp : Nat → Int} {u u' : Int} {i : Nat} (h : ¬ i = 154) : (CL_154 ln siz kp u')[i]? = (CL_154 ln siz kp u)[i]? := by
  rw [show CL_154 ln siz kp u' = (CL_154 ln siz kp u).set 154 (PT_T 154 u') from rfl, List.getElem?_set, if_neg (fun e => h e.symm)]
def out_154 : Nat → Prop := fun i => ¬ (1 ≤ i ∧ i ≤ 43) ∧ ¬ (154 ≤ i ∧ i ≤ 196)
def CL_197 (ln : Int) (siz kp : Nat → Int) (u : Int) : List (qC → Prop) := LC ln siz kp ++ (List.replicate 86 (fun _ => True) ++ TBL 197 u)
set_option maxRecDepth 100000 in
theorem CL_197_t {ln ln' : Int} {siz kp : Nat → Int} {u : Int} {i : Nat} (h : ¬ i = 1) : (CL_197 ln' siz kp u)[i]? = (CL_197 ln siz kp u)[i]? := by
  rw [show CL_197 ln' siz kp u = (CL_197 ln siz kp u).set 1 (PX_T ln') from rfl, List.getElem?_set, if_neg (fun e => h e.symm)]
set_option maxRecDepth 100000 in
theorem CL_197_i {ln : Int} {siz kp : Nat → Int} {u u' : Int} {i : Nat} (h : ¬ i = 197) : (CL_197 ln siz kp u')[i]? = (CL_197 ln siz kp u)[i]? := by
  rw [show CL_197 ln siz kp u' = (CL_197 ln siz kp u).set 197 (PT_T 197 u') from rfl, List.getElem?_set, if_neg (fun e => h e.symm)]
def out_197 : Nat → Prop := fun i => ¬ (1 ≤ i ∧ i ≤ 43) ∧ ¬ (197 ≤ i ∧ i ≤ 239)
