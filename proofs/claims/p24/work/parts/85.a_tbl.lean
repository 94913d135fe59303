section QO9
variable {p : Program} {l : Launch} {e : Env} {R : Room} {s : State} {m : MethodId} {args : Array Value} {below : List Frame} {meth : Method} {c : Code} {cc : ByteArray} {nL nW fr lo : Nat} {own : String} {ret : Option FieldType} {dC : Nat → ClassId} {dI : Nat → Nat → Nat} {k : Nat → ClassId} {g : Nat → Nat} {A : Nat → Prop} {Qf : State → Prop} {pc : Nat} {K K1 K2 : qK}
def WSo (C : List (qC → Prop)) (out : Nat → Prop) (w0 w : qW) : Prop := PW C w ∧ w.length = w0.length ∧ ∀ i : Nat, out i → w[i]? = w0[i]?
theorem WSo_0 {C : List (qC → Prop)} {out : Nat → Prop} {w : qW} (h : PW C w) : WSo C out w w := ⟨h, rfl, fun _ _ => rfl⟩
theorem WSo_t {C C' : List (qC → Prop)} {out : Nat → Prop} {w0 w w1 : qW} (h : WSo C out w0 w) (h1 : PW C' w1) (h2 : w1.length = w.length) (h3 : ∀ i : Nat, out i → w1[i]? = w[i]?) : WSo C' out w0 w1 := ⟨h1, by rw [h2]; exact h.2.1, fun i hi => by rw [h3 i hi]; exact h.2.2 i hi⟩
theorem WSo_set {C C' : List (qC → Prop)} {out : Nat → Prop} {w0 w : qW} {a : Nat} {x : qC} (h : WSo C out w0 w) (ha : ¬ out a) (hC : ∀ i : Nat, ¬ i = a → C'[i]? = C[i]?) (hL : C'.length = C.length) (hc : match C'[a]? with
    | some P => P x
    | none => True) : WSo C' out w0 (w.set a x) := by
  refine ⟨PW_setC h.1 hC hL hc, by rw [List.length_set]; exact h.2.1, fun i hi => ?_⟩
  rw [List.getElem?_set, if_neg (fun e => ha (by rw [e]; exact hi))]; exact h.2.2 i hi
theorem p_putO {C C' : List (qC → Prop)} {out : Nat → Prop} {w0 w : qW} {a ci kf : Nat} {vs : List qV} {v : qV} {ok : qV → Prop} {lv : qL} {r : List qV} (hW : WSo C out w0 w) (e : w[a]? = some (.inr (ci, vs))) (hl : Nat.blt kf vs.length = true) (hok : ok v) (ha : ¬ out a) (hC : ∀ i : Nat, ¬ i = a → C'[i]? = C[i]?) (hL : C'.length = C.length) (hc : match C'[a]? with
    | some P => P (.inr (ci, vs.set kf v))
    | none => True) (hk : ∀ w', WSo C' out w0 w' → K lv r w') : x_put ci kf ok K lv (v :: .inr (.inr (some a)) :: r) w := p_put e hl hok (hk _ (WSo_set hW ha hC hL hc))
theorem p_copyO {C C' : List (qC → Prop)} {out : Nat → Prop} {w0 w : qW} {a b ta na nb : Nat} {f u : Nat → Int} {n dp sp : Int} {lv : qL} {r : List qV} (hW : WSo C out w0 w) (eb : w[b]? = some (.inl (ta, nb, .inl f))) (ea : w[a]? = some (.inl (ta, na, .inl u))) (hcc : (Nat.ble (r.map q_cat).sum 8 && (Nat.beq ta ta && Nat.blt ta 2)) = true) (hi : 0 ≤ sp ∧ 0 ≤ dp ∧ 0 ≤ n ∧ sp + n ≤ nb ∧ dp + n ≤ na) (ha : ¬ out a) (hC : ∀ i : Nat, ¬ i = a → C'[i]? = C[i]?) (hL : C'.length = C.length) (hc : match C'[a]? with
    | some P => P (.inl (ta, na, .inl (va_cpy f u sp.toNat dp.toNat n.toNat)))
    | none => True) (hk : ∀ w', WSo C' out w0 w' → K lv r w') : x_copy K lv (.inl n :: .inl dp :: .inr (.inr (some a)) :: .inl sp :: .inr (.inr (some b)) :: r) w := p_copy eb ea hcc hi (hk _ (WSo_set hW ha hC hL hc))
def spY (C : (Nat → Nat → Int) → (Nat → Nat → Int) → List (qC → Prop)) (out : Nat → Prop) (ar : List qV → Prop) (rel : (Nat → Nat → Int) → (Nat → Nat → Int) → List qV → Option qV → (Nat → Nat → Int) → (Nat → Nat → Int) → Prop) : qS := fun av w Q => ∃ F U : Nat → Nat → Int, PW (C F U) w ∧ ar av ∧ ∀ (r : Option qV) (F' U' : Nat → Nat → Int) (w' : qW), PW (C F' U') w' → w'.length = w.length → (∀ i : Nat, out i → w'[i]? = w[i]?) → rel F U av r F' U' → Q r w'
theorem spY_mo {C : (Nat → Nat → Int) → (Nat → Nat → Int) → List (qC → Prop)} {out : Nat → Prop} {ar : List qV → Prop} {rel : (Nat → Nat → Int) → (Nat → Nat → Int) → List qV → Option qV → (Nat → Nat → Int) → (Nat → Nat → Int) → Prop} : ∀ (av : List qV) (w : qW) (P P' : Option qV → qW → Prop), (∀ r w1, P r w1 → P' r w1) → spY C out ar rel av w P → spY C out ar rel av w P' := fun av w P P' h hs => by
  obtain ⟨F, U, h1, h2, h3⟩ := hs
  exact ⟨F, U, h1, h2, fun r F' U' w' a b c d => h _ _ (h3 r F' U' w' a b c d)⟩
theorem p_callO {C : (Nat → Nat → Int) → (Nat → Nat → Int) → List (qC → Prop)} {out : Nat → Prop} {ar : List qV → Prop} {rel : (Nat → Nat → Int) → (Nat → Nat → Int) → List qV → Option qV → (Nat → Nat → Int) → (Nat → Nat → Int) → Prop} {ci np a : Nat} {As rest vs : List qV} {w0 w : qW} {lv : qL} {F U : Nat → Nat → Int} (hW : WSo (C F U) out w0 w) (hn : As.length + 1 = np) (e : w[a]? = some (.inr (ci, vs))) (hc : (rest.map q_cat).sum ≤ 8) (har : ar (.inr (.inr (some a)) :: As)) (hk : ∀ r F' U' w', WSo (C F' U') out w0 w' → rel F U (.inr (.inr (some a)) :: As) r F' U' → K lv (q_pi r rest) w') : x_calla ci np (spY C out ar rel) K lv (As.reverse ++ .inr (.inr (some a)) :: rest) w :=
  ⟨a, As, rest, vs, rfl, hn, e, hc, F, U, hW.1, har, fun r F' U' w' h1 h2 h3 h4 _ => hk r F' U' w' (WSo_t hW h1 h2 h3) h4⟩
theorem bw_outo {out : Nat → Prop} {pos ps : List Nat} {w w1 : qW} (h : ∀ p ∈ ps, ¬ out p) : ∀ i : Nat, out i → (q_bw pos w ps w1)[i]? = w[i]? := fun i hi => q_bw_ne _ _ _ _ (fun hm => h i hm hi)
end QO9

def PT_T (o : Nat) (u : Nat → Int) : qC → Prop := fun x => ∃ (ln : Int) (fa : Int) (pl : Int), x = .inr (8, [q2 (o + 1), q2 (o + 2), q2 (o + 3), q2 (o + 4), q2 (o + 5), q2 (o + 6), q1 ln, q1 fa, q1 pl]) ∧ (0 ≤ ln ∧ ln ≤ 600) ∧ (ln = u 0 ∧ fa = u 1 ∧ pl = u 2)
def PT_Ttp (o : Nat) (f : Nat → Int) : qC → Prop := fun x => ∃ (tp : Nat → Int), x = .inl (1, 600, .inl tp) ∧ (tp = f)
def PT_Tct (o : Nat) (f : Nat → Int) : qC → Prop := fun x => ∃ (ct : Nat → Int), x = .inl (0, 4, .inl ct) ∧ (q_rg 0 2 ct) ∧ (ct = f)
def PT_TBa (o : Nat) : qC → Prop := fun x => x = .inl (4, 2, .inr (.inr [some (o + 7), some (o + 15)]))
def PT_TYa (o : Nat) : qC → Prop := fun x => x = .inl (5, 2, .inr (.inr [some (o + 23), some (o + 28)]))
def PT_TLa (o : Nat) : qC → Prop := fun x => x = .inl (6, 2, .inr (.inr [some (o + 33), some (o + 35)]))
def PT_TSa (o : Nat) : qC → Prop := fun x => x = .inl (7, 2, .inr (.inr [some (o + 37), some (o + 40)]))
def PT_B0 (o : Nat) (u : Nat → Int) : qC → Prop := fun x => ∃ (b0u0 : Int) (b0u1 : Int) (b0u2 : Int) (b0u3 : Int) (b0u4 : Int), x = .inr (0, [q2 (o + 8), q2 (o + 9), q2 (o + 10), q2 (o + 11), q2 (o + 12), q2 (o + 13), q2 (o + 14), q1 b0u0, q1 b0u1, q1 b0u2, q1 b0u3, q1 b0u4]) ∧ (0 ≤ b0u0 ∧ b0u0 ≤ 8 ∧ 0 ≤ b0u3 ∧ b0u3 ≤ 6 ∧ 0 ≤ b0u4 ∧ b0u4 ≤ 6) ∧ (b0u0 = u 0 ∧ b0u1 = u 1 ∧ b0u2 = u 2 ∧ b0u3 = u 3 ∧ b0u4 = u 4)
def PT_B0_1 (o : Nat) (f : Nat → Int) : qC → Prop := fun x => ∃ (b0f1 : Nat → Int), x = .inl (0, 8, .inl b0f1) ∧ (b0f1 = f)
def PT_B0_2 (o : Nat) (f : Nat → Int) : qC → Prop := fun x => ∃ (b0f2 : Nat → Int), x = .inl (0, 8, .inl b0f2) ∧ (b0f2 = f)
def PT_B0_3 (o : Nat) (f : Nat → Int) : qC → Prop := fun x => ∃ (b0f3 : Nat → Int), x = .inl (0, 4, .inl b0f3) ∧ (q_rg 0 9 b0f3) ∧ (b0f3 = f)
def PT_B0_4 (o : Nat) (f : Nat → Int) : qC → Prop := fun x => ∃ (b0f4 : Nat → Int), x = .inl (0, 32, .inl b0f4) ∧ (b0f4 = f)
def PT_B0_5 (o : Nat) (f : Nat → Int) : qC → Prop := fun x => ∃ (b0f5 : Nat → Int), x = .inl (0, 6, .inl b0f5) ∧ (b0f5 = f)
def PT_B0_6 (o : Nat) (f : Nat → Int) : qC → Prop := fun x => ∃ (b0f6 : Nat → Int), x = .inl (0, 6, .inl b0f6) ∧ (b0f6 = f)
def PT_B0_7 (o : Nat) (f : Nat → Int) : qC → Prop := fun x => ∃ (b0f7 : Nat → Int), x = .inl (0, 6, .inl b0f7) ∧ (b0f7 = f)
def PT_B1 (o : Nat) (u : Nat → Int) : qC → Prop := fun x => ∃ (b1u0 : Int) (b1u1 : Int) (b1u2 : Int) (b1u3 : Int) (b1u4 : Int), x = .inr (0, [q2 (o + 16), q2 (o + 17), q2 (o + 18), q2 (o + 19), q2 (o + 20), q2 (o + 21), q2 (o + 22), q1 b1u0, q1 b1u1, q1 b1u2, q1 b1u3, q1 b1u4]) ∧ (0 ≤ b1u0 ∧ b1u0 ≤ 8 ∧ 0 ≤ b1u3 ∧ b1u3 ≤ 6 ∧ 0 ≤ b1u4 ∧ b1u4 ≤ 6) ∧ (b1u0 = u 0 ∧ b1u1 = u 1 ∧ b1u2 = u 2 ∧ b1u3 = u 3 ∧ b1u4 = u 4)
def PT_B1_1 (o : Nat) (f : Nat → Int) : qC → Prop := fun x => ∃ (b1f1 : Nat → Int), x = .inl (0, 8, .inl b1f1) ∧ (b1f1 = f)
def PT_B1_2 (o : Nat) (f : Nat → Int) : qC → Prop := fun x => ∃ (b1f2 : Nat → Int), x = .inl (0, 8, .inl b1f2) ∧ (b1f2 = f)
def PT_B1_3 (o : Nat) (f : Nat → Int) : qC → Prop := fun x => ∃ (b1f3 : Nat → Int), x = .inl (0, 4, .inl b1f3) ∧ (q_rg 0 9 b1f3) ∧ (b1f3 = f)
def PT_B1_4 (o : Nat) (f : Nat → Int) : qC → Prop := fun x => ∃ (b1f4 : Nat → Int), x = .inl (0, 32, .inl b1f4) ∧ (b1f4 = f)
def PT_B1_5 (o : Nat) (f : Nat → Int) : qC → Prop := fun x => ∃ (b1f5 : Nat → Int), x = .inl (0, 6, .inl b1f5) ∧ (b1f5 = f)
def PT_B1_6 (o : Nat) (f : Nat → Int) : qC → Prop := fun x => ∃ (b1f6 : Nat → Int), x = .inl (0, 6, .inl b1f6) ∧ (b1f6 = f)
def PT_B1_7 (o : Nat) (f : Nat → Int) : qC → Prop := fun x => ∃ (b1f7 : Nat → Int), x = .inl (0, 6, .inl b1f7) ∧ (b1f7 = f)
def PT_Y0 (o : Nat) (u : Nat → Int) : qC → Prop := fun x => ∃ (y0d : Int), x = .inr (10, [q2 (o + 24), q2 (o + 25), q2 (o + 26), q2 (o + 27), q1 y0d]) ∧ (0 ≤ y0d ∧ y0d ≤ 40) ∧ (y0d = u 0)
def PT_Y0_1 (o : Nat) (f : Nat → Int) : qC → Prop := fun x => ∃ (y0k1 : Nat → Int), x = .inl (0, 40, .inl y0k1) ∧ (y0k1 = f)
def PT_Y0_2 (o : Nat) (f : Nat → Int) : qC → Prop := fun x => ∃ (y0k2 : Nat → Int), x = .inl (0, 40, .inl y0k2) ∧ (y0k2 = f)
def PT_Y0_3 (o : Nat) (f : Nat → Int) : qC → Prop := fun x => ∃ (y0k3 : Nat → Int), x = .inl (0, 40, .inl y0k3) ∧ (y0k3 = f)
def PT_Y0_4 (o : Nat) (f : Nat → Int) : qC → Prop := fun x => ∃ (y0k4 : Nat → Int), x = .inl (0, 40, .inl y0k4) ∧ (y0k4 = f)
def PT_Y1 (o : Nat) (u : Nat → Int) : qC → Prop := fun x => ∃ (y1d : Int), x = .inr (10, [q2 (o + 29), q2 (o + 30), q2 (o + 31), q2 (o + 32), q1 y1d]) ∧ (0 ≤ y1d ∧ y1d ≤ 40) ∧ (y1d = u 0)
def PT_Y1_1 (o : Nat) (f : Nat → Int) : qC → Prop := fun x => ∃ (y1k1 : Nat → Int), x = .inl (0, 40, .inl y1k1) ∧ (y1k1 = f)
def PT_Y1_2 (o : Nat) (f : Nat → Int) : qC → Prop := fun x => ∃ (y1k2 : Nat → Int), x = .inl (0, 40, .inl y1k2) ∧ (y1k2 = f)
def PT_Y1_3 (o : Nat) (f : Nat → Int) : qC → Prop := fun x => ∃ (y1k3 : Nat → Int), x = .inl (0, 40, .inl y1k3) ∧ (y1k3 = f)
def PT_Y1_4 (o : Nat) (f : Nat → Int) : qC → Prop := fun x => ∃ (y1k4 : Nat → Int), x = .inl (0, 40, .inl y1k4) ∧ (y1k4 = f)
def PT_L0 (o : Nat) (u : Nat → Int) : qC → Prop := fun x => ∃ (l0o : Int), x = .inr (3, [q2 (o + 34), q1 l0o]) ∧ (l0o = u 0)
def PT_L0_1 (o : Nat) (f : Nat → Int) : qC → Prop := fun x => ∃ (l0g : Nat → Int), x = .inl (0, 8, .inl l0g) ∧ (l0g = f)
def PT_L1 (o : Nat) (u : Nat → Int) : qC → Prop := fun x => ∃ (l1o : Int), x = .inr (3, [q2 (o + 36), q1 l1o]) ∧ (l1o = u 0)
def PT_L1_1 (o : Nat) (f : Nat → Int) : qC → Prop := fun x => ∃ (l1g : Nat → Int), x = .inl (0, 8, .inl l1g) ∧ (l1g = f)
def PT_S0 (o : Nat) (u : Nat → Int) : qC → Prop := fun x => ∃ (s0c : Int), x = .inr (7, [q2 (o + 38), q2 (o + 39), q1 s0c]) ∧ (0 ≤ s0c ∧ s0c ≤ 10) ∧ (s0c = u 0)
def PT_S0_1 (o : Nat) (f : Nat → Int) : qC → Prop := fun x => ∃ (s0p : Nat → Int), x = .inl (0, 10, .inl s0p) ∧ (s0p = f)
def PT_S0_2 (o : Nat) (f : Nat → Int) : qC → Prop := fun x => ∃ (s0t : Nat → Int), x = .inl (0, 10, .inl s0t) ∧ (s0t = f)
def PT_S1 (o : Nat) (u : Nat → Int) : qC → Prop := fun x => ∃ (s1c : Int), x = .inr (7, [q2 (o + 41), q2 (o + 42), q1 s1c]) ∧ (0 ≤ s1c ∧ s1c ≤ 10) ∧ (s1c = u 0)
def PT_S1_1 (o : Nat) (f : Nat → Int) : qC → Prop := fun x => ∃ (s1p : Nat → Int), x = .inl (0, 10, .inl s1p) ∧ (s1p = f)
def PT_S1_2 (o : Nat) (f : Nat → Int) : qC → Prop := fun x => ∃ (s1t : Nat → Int), x = .inl (0, 10, .inl s1t) ∧ (s1t = f)
def TBL (o : Nat) (F U : Nat → Nat → Int) : List (qC → Prop) := PT_T o (U (o + 0)) :: PT_Ttp o (F (o + 1)) :: PT_Tct o (F (o + 2)) :: PT_TBa o :: PT_TYa o :: PT_TLa o :: PT_TSa o :: PT_B0 o (U (o + 7)) :: PT_B0_1 o (F (o + 8)) :: PT_B0_2 o (F (o + 9)) :: PT_B0_3 o (F (o + 10)) :: PT_B0_4 o (F (o + 11)) :: PT_B0_5 o (F (o + 12)) :: PT_B0_6 o (F (o + 13)) :: PT_B0_7 o (F (o + 14)) :: PT_B1 o (U (o + 15)) :: PT_B1_1 o (F (o + 16)) :: PT_B1_2 o (F (o + 17)) :: PT_B1_3 o (F (o + 18)) :: PT_B1_4 o (F (o + 19)) :: PT_B1_5 o (F (o + 20)) :: PT_B1_6 o (F (o + 21)) :: PT_B1_7 o (F (o + 22)) :: PT_Y0 o (U (o + 23)) :: PT_Y0_1 o (F (o + 24)) :: PT_Y0_2 o (F (o + 25)) :: PT_Y0_3 o (F (o + 26)) :: PT_Y0_4 o (F (o + 27)) :: PT_Y1 o (U (o + 28)) :: PT_Y1_1 o (F (o + 29)) :: PT_Y1_2 o (F (o + 30)) :: PT_Y1_3 o (F (o + 31)) :: PT_Y1_4 o (F (o + 32)) :: PT_L0 o (U (o + 33)) :: PT_L0_1 o (F (o + 34)) :: PT_L1 o (U (o + 35)) :: PT_L1_1 o (F (o + 36)) :: PT_S0 o (U (o + 37)) :: PT_S0_1 o (F (o + 38)) :: PT_S0_2 o (F (o + 39)) :: PT_S1 o (U (o + 40)) :: PT_S1_1 o (F (o + 41)) :: PT_S1_2 o (F (o + 42)) :: []
def TBP (o : Nat) : List ((Nat → Int) → (Nat → Int) → qC → Prop) := (fun _ u => PT_T o u) :: (fun f _ => PT_Ttp o f) :: (fun f _ => PT_Tct o f) :: (fun _ _ => PT_TBa o) :: (fun _ _ => PT_TYa o) :: (fun _ _ => PT_TLa o) :: (fun _ _ => PT_TSa o) :: (fun _ u => PT_B0 o u) :: (fun f _ => PT_B0_1 o f) :: (fun f _ => PT_B0_2 o f) :: (fun f _ => PT_B0_3 o f) :: (fun f _ => PT_B0_4 o f) :: (fun f _ => PT_B0_5 o f) :: (fun f _ => PT_B0_6 o f) :: (fun f _ => PT_B0_7 o f) :: (fun _ u => PT_B1 o u) :: (fun f _ => PT_B1_1 o f) :: (fun f _ => PT_B1_2 o f) :: (fun f _ => PT_B1_3 o f) :: (fun f _ => PT_B1_4 o f) :: (fun f _ => PT_B1_5 o f) :: (fun f _ => PT_B1_6 o f) :: (fun f _ => PT_B1_7 o f) :: (fun _ u => PT_Y0 o u) :: (fun f _ => PT_Y0_1 o f) :: (fun f _ => PT_Y0_2 o f) :: (fun f _ => PT_Y0_3 o f) :: (fun f _ => PT_Y0_4 o f) :: (fun _ u => PT_Y1 o u) :: (fun f _ => PT_Y1_1 o f) :: (fun f _ => PT_Y1_2 o f) :: (fun f _ => PT_Y1_3 o f) :: (fun f _ => PT_Y1_4 o f) :: (fun _ u => PT_L0 o u) :: (fun f _ => PT_L0_1 o f) :: (fun _ u => PT_L1 o u) :: (fun f _ => PT_L1_1 o f) :: (fun _ u => PT_S0 o u) :: (fun f _ => PT_S0_1 o f) :: (fun f _ => PT_S0_2 o f) :: (fun _ u => PT_S1 o u) :: (fun f _ => PT_S1_1 o f) :: (fun f _ => PT_S1_2 o f) :: []
theorem TBL_LZ (o : Nat) (F U : Nat → Nat → Int) : TBL o F U = LZ (TBP o) o F U := rfl
theorem TBL_ne {o : Nat} {F U F' U' : Nat → Nat → Int} (h : ∀ j : Nat, j < 43 → F' (o + j) = F (o + j) ∧ U' (o + j) = U (o + j)) : TBL o F' U' = TBL o F U := by
  rw [TBL_LZ, TBL_LZ]
  apply List.ext_getElem?
  intro i
  by_cases c : i < 43
  · exact LZ_ne _ o i (h i c).1 (h i c).2
  · rw [List.getElem?_eq_none (by show 43 ≤ i; omega), List.getElem?_eq_none (by show 43 ≤ i; omega)]
theorem TBL_len (o : Nat) (F U : Nat → Nat → Int) : (TBL o F U).length = 43 := rfl
set_option maxRecDepth 100000 in
theorem TBL_1 (F U : Nat → Nat → Int) : TBL 1 F U = ((LC F U).drop 1).take 43 := rfl
def CL_111 (F U : Nat → Nat → Int) : List (qC → Prop) := LC F U ++ (List.replicate 0 (fun _ => True) ++ TBL 111 F U)
def CLP_111 : List ((Nat → Int) → (Nat → Int) → qC → Prop) := LCP ++ (List.replicate 0 (fun _ _ _ => True) ++ TBP 111)
set_option maxRecDepth 100000 in
theorem CL_111_LZ (F U : Nat → Nat → Int) : CL_111 F U = LZ CLP_111 0 F U := rfl
theorem CL_111_ne {F U F' U' : Nat → Nat → Int} {i : Nat} (h : F' i = F i) (h2 : U' i = U i) : (CL_111 F' U')[i]? = (CL_111 F U)[i]? := by
  rw [CL_111_LZ, CL_111_LZ]
  exact LZ_ne _ 0 i (by rw [Nat.zero_add]; exact h) (by rw [Nat.zero_add]; exact h2)
def out_111 : Nat → Prop := fun i => ¬ (1 ≤ i ∧ i ≤ 43) ∧ ¬ (111 ≤ i ∧ i ≤ 153)
def CL_154 (F U : Nat → Nat → Int) : List (qC → Prop) := LC F U ++ (List.replicate 43 (fun _ => True) ++ TBL 154 F U)
def CLP_154 : List ((Nat → Int) → (Nat → Int) → qC → Prop) := LCP ++ (List.replicate 43 (fun _ _ _ => True) ++ TBP 154)
set_option maxRecDepth 100000 in
theorem CL_154_LZ (F U : Nat → Nat → Int) : CL_154 F U = LZ CLP_154 0 F U := rfl
theorem CL_154_ne {F U F' U' : Nat → Nat → Int} {i : Nat} (h : F' i = F i) (h2 : U' i = U i) : (CL_154 F' U')[i]? = (CL_154 F U)[i]? := by
  rw [CL_154_LZ, CL_154_LZ]
  exact LZ_ne _ 0 i (by rw [Nat.zero_add]; exact h) (by rw [Nat.zero_add]; exact h2)
def out_154 : Nat → Prop := fun i => ¬ (1 ≤ i ∧ i ≤ 43) ∧ ¬ (154 ≤ i ∧ i ≤ 196)
def CL_197 (F U : Nat → Nat → Int) : List (qC → Prop) := LC F U ++ (List.replicate 86 (fun _ => True) ++ TBL 197 F U)
def CLP_197 : List ((Nat → Int) → (Nat → Int) → qC → Prop) := LCP ++ (List.replicate 86 (fun _ _ _ => True) ++ TBP 197)
set_option maxRecDepth 100000 in
theorem CL_197_LZ (F U : Nat → Nat → Int) : CL_197 F U = LZ CLP_197 0 F U := rfl
theorem CL_197_ne {F U F' U' : Nat → Nat → Int} {i : Nat} (h : F' i = F i) (h2 : U' i = U i) : (CL_197 F' U')[i]? = (CL_197 F U)[i]? := by
  rw [CL_197_LZ, CL_197_LZ]
  exact LZ_ne _ 0 i (by rw [Nat.zero_add]; exact h) (by rw [Nat.zero_add]; exact h2)
def out_197 : Nat → Prop := fun i => ¬ (1 ≤ i ∧ i ≤ 43) ∧ ¬ (197 ≤ i ∧ i ≤ 239)

/-! ===== copies between blocks of all that is told ===== -/
def BkC (k : Nat) (F U : Nat → Nat → Int) (o : Nat) (F' U' : Nat → Nat → Int) (o' : Nat) : Prop := ((∀ j : Nat, j < 7 → ∀ i : Nat, i < [8, 8, 4, 32, 6, 6, 6].getD j 0 → F' (o' + 7 + 8 * k + 1 + j) i = F (o + 7 + 8 * k + 1 + j) i) ∧ ∀ i : Nat, i < 5 → U' (o' + 7 + 8 * k) i = U (o + 7 + 8 * k) i) ∧ ((∀ j : Nat, j < 4 → ∀ i : Nat, i < [40, 40, 40, 40].getD j 0 → F' (o' + 23 + 5 * k + 1 + j) i = F (o + 23 + 5 * k + 1 + j) i) ∧ ∀ i : Nat, i < 1 → U' (o' + 23 + 5 * k) i = U (o + 23 + 5 * k) i) ∧ ((∀ j : Nat, j < 1 → ∀ i : Nat, i < [8].getD j 0 → F' (o' + 33 + 2 * k + 1 + j) i = F (o + 33 + 2 * k + 1 + j) i) ∧ ∀ i : Nat, i < 1 → U' (o' + 33 + 2 * k) i = U (o + 33 + 2 * k) i) ∧ ((∀ j : Nat, j < 2 → ∀ i : Nat, i < [10, 10].getD j 0 → F' (o' + 37 + 3 * k + 1 + j) i = F (o + 37 + 3 * k + 1 + j) i) ∧ ∀ i : Nat, i < 1 → U' (o' + 37 + 3 * k) i = U (o + 37 + 3 * k) i)
/-- the block at o' is as the one at o was -/
def EqC (F U : Nat → Nat → Int) (o : Nat) (F' U' : Nat → Nat → Int) (o' : Nat) : Prop := (U' o' 0 = U o 0 ∧ U' o' 1 = U o 1 ∧ U' o' 2 = U o 2) ∧ (∀ j : Nat, j < 600 → F' (o' + 1) j = F (o + 1) j) ∧ (∀ j : Nat, j < 4 → F' (o' + 2) j = F (o + 2) j) ∧ BkC 0 F U o F' U' o' ∧ BkC 1 F U o F' U' o'
def outB (o : Nat) (F U F' U' : Nat → Nat → Int) : Prop := ∀ q : Nat, ¬ (o ≤ q ∧ q ≤ o + 42) → F' q = F q ∧ U' q = U q
def EqT (o1 o2 : Nat) (F U F' U' : Nat → Nat → Int) : Prop := outB o1 F U F' U' ∧ EqC F U o2 F' U' o1
/-- as far as v of two -/
def CpT (o1 o2 : Nat) (v : Int) (F U F' U' : Nat → Nat → Int) : Prop := outB o1 F U F' U' ∧ (∀ j : Nat, j < 600 → F' (o1 + 1) j = F (o2 + 1) j) ∧ (∀ j : Nat, j < 4 → F' (o1 + 2) j = F (o2 + 2) j) ∧ (0 < v → BkC 0 F U o2 F' U' o1) ∧ (1 < v → BkC 1 F U o2 F' U' o1)
theorem CpT_0 {o1 o2 : Nat} {F U : Nat → Nat → Int} {t1 t2 c1 c2 : Nat → Int} (h1 : t1 = F (o2 + 1)) (h2 : c1 = F (o2 + 2)) : CpT o1 o2 0 F U (fu (fu F (o1 + 1) (va_cpy t1 t2 0 0 600)) (o1 + 2) (va_cpy c1 c2 0 0 4)) U := by
  refine ⟨fun q hq => ⟨by rw [fu_n (by omega), fu_n (by omega)], rfl⟩, fun j hj => ?_, fun j hj => ?_, fun h => absurd h (by decide), fun h => absurd h (by decide)⟩
  · rw [fu_n (by omega), fu_h, cpy_lt hj, h1]
  · rw [fu_h, cpy_lt hj, h2]
/-- one of the four copies: what it leaves of the others -/
theorem CpB_o {ns : List Nat} {m p s : Nat} {F U F' U' : Nat → Nat → Int} (h : CpBlk ns m p s F U F' U') {q : Nat} (hq : ¬ (p ≤ q ∧ q ≤ p + ns.length)) : F' q = F q ∧ U' q = U q := h.1 q hq
theorem BkC_t {k : Nat} {F U F1 U1 F2 U2 : Nat → Nat → Int} {o o' : Nat} (h : BkC k F U o F1 U1 o') (hF : ∀ q : Nat, (o' + 7 + 8 * k ≤ q ∧ q ≤ o' + 7 + 8 * k + 7) ∨ (o' + 23 + 5 * k ≤ q ∧ q ≤ o' + 23 + 5 * k + 4) ∨ (o' + 33 + 2 * k ≤ q ∧ q ≤ o' + 33 + 2 * k + 1) ∨ (o' + 37 + 3 * k ≤ q ∧ q ≤ o' + 37 + 3 * k + 2) → F2 q = F1 q ∧ U2 q = U1 q) : BkC k F U o F2 U2 o' := by
  obtain ⟨⟨a1, a2⟩, ⟨b1, b2⟩, ⟨c1, c2⟩, ⟨d1, d2⟩⟩ := h
  refine ⟨⟨fun j hj i hi => ?_, fun i hi => ?_⟩, ⟨fun j hj i hi => ?_, fun i hi => ?_⟩, ⟨fun j hj i hi => ?_, fun i hi => ?_⟩, ⟨fun j hj i hi => ?_, fun i hi => ?_⟩⟩
  · rw [(hF _ (by omega)).1]; exact a1 j hj i hi
  · rw [(hF _ (by omega)).2]; exact a2 i hi
  · rw [(hF _ (by omega)).1]; exact b1 j hj i hi
  · rw [(hF _ (by omega)).2]; exact b2 i hi
  · rw [(hF _ (by omega)).1]; exact c1 j hj i hi
  · rw [(hF _ (by omega)).2]; exact c2 i hi
  · rw [(hF _ (by omega)).1]; exact d1 j hj i hi
  · rw [(hF _ (by omega)).2]; exact d2 i hi
/-- the four copies of number k: that number's blocks, and nothing else -/
theorem Cp4 {o1 o2 k : Nat} {F U F1 U1 F2 U2 F3 U3 F4 U4 : Nat → Nat → Int} (hk : k ≤ 1) (hd : o1 + 43 ≤ o2 ∨ o2 + 43 ≤ o1) (hB : CpBlk [8, 8, 4, 32, 6, 6, 6] 5 (o1 + 7 + 8 * k) (o2 + 7 + 8 * k) F U F1 U1) (hY : CpBlk [40, 40, 40, 40] 1 (o1 + 23 + 5 * k) (o2 + 23 + 5 * k) F1 U1 F2 U2) (hL : CpBlk [8] 1 (o1 + 33 + 2 * k) (o2 + 33 + 2 * k) F2 U2 F3 U3) (hS : CpBlk [10, 10] 1 (o1 + 37 + 3 * k) (o2 + 37 + 3 * k) F3 U3 F4 U4) : BkC k F U o2 F4 U4 o1 ∧ ∀ q : Nat, ¬ ((o1 + 7 + 8 * k ≤ q ∧ q ≤ o1 + 7 + 8 * k + 7) ∨ (o1 + 23 + 5 * k ≤ q ∧ q ≤ o1 + 23 + 5 * k + 4) ∨ (o1 + 33 + 2 * k ≤ q ∧ q ≤ o1 + 33 + 2 * k + 1) ∨ (o1 + 37 + 3 * k ≤ q ∧ q ≤ o1 + 37 + 3 * k + 2)) → F4 q = F q ∧ U4 q = U q := by
  have fB : ∀ q : Nat, ¬ (o1 + 7 + 8 * k ≤ q ∧ q ≤ o1 + 7 + 8 * k + 7) → F1 q = F q ∧ U1 q = U q := hB.1
  have fY : ∀ q : Nat, ¬ (o1 + 23 + 5 * k ≤ q ∧ q ≤ o1 + 23 + 5 * k + 4) → F2 q = F1 q ∧ U2 q = U1 q := hY.1
  have fL : ∀ q : Nat, ¬ (o1 + 33 + 2 * k ≤ q ∧ q ≤ o1 + 33 + 2 * k + 1) → F3 q = F2 q ∧ U3 q = U2 q := hL.1
  have fS : ∀ q : Nat, ¬ (o1 + 37 + 3 * k ≤ q ∧ q ≤ o1 + 37 + 3 * k + 2) → F4 q = F3 q ∧ U4 q = U3 q := hS.1
  refine ⟨⟨⟨fun j hj i hi => ?_, fun i hi => ?_⟩, ⟨fun j hj i hi => ?_, fun i hi => ?_⟩, ⟨fun j hj i hi => ?_, fun i hi => ?_⟩, ⟨fun j hj i hi => ?_, fun i hi => ?_⟩⟩, fun q hq => ?_⟩
  · rw [(fS _ (by omega)).1, (fL _ (by omega)).1, (fY _ (by omega)).1]; exact hB.2.1 j hj i hi
  · rw [(fS _ (by omega)).2, (fL _ (by omega)).2, (fY _ (by omega)).2]; exact hB.2.2 i hi
  · rw [(fS _ (by omega)).1, (fL _ (by omega)).1, hY.2.1 j hj i hi, (fB _ (by omega)).1]
  · rw [(fS _ (by omega)).2, (fL _ (by omega)).2, hY.2.2 i hi, (fB _ (by omega)).2]
  · rw [(fS _ (by omega)).1, hL.2.1 j hj i hi, (fY _ (by omega)).1, (fB _ (by omega)).1]
  · rw [(fS _ (by omega)).2, hL.2.2 i hi, (fY _ (by omega)).2, (fB _ (by omega)).2]
  · rw [hS.2.1 j hj i hi, (fL _ (by omega)).1, (fY _ (by omega)).1, (fB _ (by omega)).1]
  · rw [hS.2.2 i hi, (fL _ (by omega)).2, (fY _ (by omega)).2, (fB _ (by omega)).2]
  · obtain ⟨a1, a2⟩ := fB q (by omega)
    obtain ⟨b1, b2⟩ := fY q (by omega)
    obtain ⟨c1, c2⟩ := fL q (by omega)
    obtain ⟨d1, d2⟩ := fS q (by omega)
    exact ⟨by rw [d1, c1, b1, a1], by rw [d2, c2, b2, a2]⟩
/-- the sources are what they were -/
theorem BkC_f {k : Nat} {F U F0 U0 F2 U2 : Nat → Nat → Int} {o o' : Nat} (hk : k ≤ 1) (h : BkC k F U o F2 U2 o') (hF : ∀ q : Nat, o ≤ q → q ≤ o + 42 → F q = F0 q ∧ U q = U0 q) : BkC k F0 U0 o F2 U2 o' := by
  obtain ⟨⟨a1, a2⟩, ⟨b1, b2⟩, ⟨c1, c2⟩, ⟨d1, d2⟩⟩ := h
  refine ⟨⟨fun j hj i hi => ?_, fun i hi => ?_⟩, ⟨fun j hj i hi => ?_, fun i hi => ?_⟩, ⟨fun j hj i hi => ?_, fun i hi => ?_⟩, ⟨fun j hj i hi => ?_, fun i hi => ?_⟩⟩
  · rw [a1 j hj i hi, (hF _ (by omega) (by omega)).1]
  · rw [a2 i hi, (hF _ (by omega) (by omega)).2]
  · rw [b1 j hj i hi, (hF _ (by omega) (by omega)).1]
  · rw [b2 i hi, (hF _ (by omega) (by omega)).2]
  · rw [c1 j hj i hi, (hF _ (by omega) (by omega)).1]
  · rw [c2 i hi, (hF _ (by omega) (by omega)).2]
  · rw [d1 j hj i hi, (hF _ (by omega) (by omega)).1]
  · rw [d2 i hi, (hF _ (by omega) (by omega)).2]
theorem CpT_s {o1 o2 k : Nat} {v v' : Int} {F U F0 U0 F1 U1 F2 U2 F3 U3 F4 U4 : Nat → Nat → Int} (h : CpT o1 o2 v F U F0 U0) (hv : v = (k : Int)) (hk : k ≤ 1) (e : v' = v + 1) (hd : o1 + 43 ≤ o2 ∨ o2 + 43 ≤ o1) (hB : CpBlk [8, 8, 4, 32, 6, 6, 6] 5 (o1 + 7 + 8 * k) (o2 + 7 + 8 * k) F0 U0 F1 U1) (hY : CpBlk [40, 40, 40, 40] 1 (o1 + 23 + 5 * k) (o2 + 23 + 5 * k) F1 U1 F2 U2) (hL : CpBlk [8] 1 (o1 + 33 + 2 * k) (o2 + 33 + 2 * k) F2 U2 F3 U3) (hS : CpBlk [10, 10] 1 (o1 + 37 + 3 * k) (o2 + 37 + 3 * k) F3 U3 F4 U4) : CpT o1 o2 v' F U F4 U4 := by
  obtain ⟨h1, h2, h3, h4, h5⟩ := h
  obtain ⟨b1, b2⟩ := Cp4 hk hd hB hY hL hS
  have b3 : BkC k F U o2 F4 U4 o1 := BkC_f hk b1 (fun q ha hb => h1 q (by omega))
  refine ⟨fun q hq => ?_, fun j hj => ?_, fun j hj => ?_, fun h9 => ?_, fun h9 => ?_⟩
  · obtain ⟨x, y⟩ := b2 q (by omega)
    obtain ⟨x1, y1⟩ := h1 q hq
    exact ⟨by rw [x, x1], by rw [y, y1]⟩
  · rw [(b2 _ (by omega)).1]; exact h2 j hj
  · rw [(b2 _ (by omega)).1]; exact h3 j hj
  · rcases (show k = 0 ∨ k = 1 by omega) with rfl | rfl
    · exact b3
    · exact BkC_t (h4 (by omega)) (fun q hq => b2 q (by omega))
  · rcases (show k = 0 ∨ k = 1 by omega) with rfl | rfl
    · omega
    · exact b3
theorem CpT_e {o1 o2 : Nat} {v x y z : Int} {F U F0 U0 : Nat → Nat → Int} (h : CpT o1 o2 v F U F0 U0) (hv : 2 ≤ v) (hd : o1 + 43 ≤ o2 ∨ o2 + 43 ≤ o1) (hx : x = U0 o2 0) (hy : y = fw U0 o1 0 x o2 1) (hz : z = fw (fw U0 o1 0 x) o1 1 y o2 2) : EqT o1 o2 F U F0 (fw (fw (fw U0 o1 0 x) o1 1 y) o1 2 z) := by
  obtain ⟨h1, h2, h3, h4, h5⟩ := h
  have eU : U0 o2 = U o2 := (h1 o2 (by omega)).2
  have hn : ∀ {q : Nat}, ¬ q = o1 → fw (fw (fw U0 o1 0 x) o1 1 y) o1 2 z q = U0 q := fun hq => by rw [fw_c hq rfl, fw_c hq rfl, fw_c hq rfl]
  have hy : y = U0 o2 1 := by rw [hy, fw_c (by omega) rfl]
  have hz : z = U0 o2 2 := by rw [hz, fw_c (by omega) rfl, fw_c (by omega) rfl]
  have e1 : fw (fw (fw U0 o1 0 x) o1 1 y) o1 2 z o1 = q_up (q_up (q_up (U0 o1) 0 x) 1 y) 2 z := by
    unfold fw
    rw [fu_h, fu_h, fu_h]
  refine ⟨fun q hq => ⟨(h1 q hq).1, ?_⟩, ⟨?_, ?_, ?_⟩, h2, h3, BkC_t (h4 (by omega)) (fun q hq => ⟨rfl, hn (by omega)⟩), BkC_t (h5 (by omega)) (fun q hq => ⟨rfl, hn (by omega)⟩)⟩
  · rw [hn (by omega)]; exact (h1 q hq).2
  · rw [e1, q_up_n (by decide), q_up_n (by decide), q_up_s, hx, eU]
  · rw [e1, q_up_n (by decide), q_up_s, hy, eU]
  · rw [e1, q_up_s, hz, eU]
