/-! ===== share ===== -/
def shL (D : Nat → Int) (r o : Int) : Int := min (if D (13 + o.toNat) = -1 then r else r / 2) (D (5 + o.toNat) - 1)
def shT (D : Nat → Int) (n a : Int) : Nat → Int
  | 0 => n
  | j + 1 => shT D n a j - shL D (shT D n a j) (pch D 0 j a)
theorem shL_y {D : Nat → Int} {r o p i y l : Int} (hp : p = D (13 + o.toNat)) (h : p = -1) (hi : i = D (5 + o.toNat)) (hl : l = min r y) (hy : y = i - 1) : l = shL D r o := by
  unfold shL
  rw [if_pos (by rw [← hp]; exact h), ← hi, ← hy]
  exact hl
theorem shL_n {D : Nat → Int} {r o p i x y l : Int} (hp : p = D (13 + o.toNat)) (h : ¬ p = -1) (hi : i = D (5 + o.toNat)) (hl : l = min x y) (hx : x = r / 2) (hy : y = i - 1) : l = shL D r o := by
  unfold shL
  rw [if_neg (by rw [← hp]; exact h), ← hi, ← hy, ← hx]
  exact hl
theorem shL_rg {D : Nat → Int} {r o l : Int} (hK : BK D) (hr : 0 ≤ r) (ho : 0 ≤ o ∧ o < D 0) (hl : l = shL D r o) : 0 ≤ l ∧ l ≤ r := by
  have h1 := BK_i1 hK (i := o.toNat) (by omega)
  unfold shL at hl
  by_cases c : D (13 + o.toNat) = -1
  · rw [if_pos c] at hl; omega
  · rw [if_neg c] at hl; omega
def ShP (D : Nat → Int) (a b c z : Int) : Prop := (∃ j : Nat, pch D 0 j a = c ∧ 0 ≤ c ∧ z = shL D (shT D b a j) c) ∨ ((∀ j : Nat, ¬ pch D 0 j a = c) ∧ ¬ c = -1 ∧ z = 0) ∨ (c = -1 ∧ ∃ m : Nat, pch D 0 m a = -1 ∧ (∀ j : Nat, j < m → ¬ pch D 0 j a = -1) ∧ z = shT D b a m)
theorem ShP_u {D : Nat → Int} {a b c z z' : Int} (hK : BK D) (ha : 0 ≤ a ∧ a < D 0) (h : ShP D a b c z) (h' : ShP D a b c z') : z = z' := by
  rcases h with ⟨j, e1, e2, e3⟩ | ⟨e1, e2, e3⟩ | ⟨e1, m, e2, e3, e4⟩ <;> rcases h' with ⟨k, f1, f2, f3⟩ | ⟨f1, f2, f3⟩ | ⟨f1, n, f2, f3, f4⟩
  · have h9 : j = k := pch_inj (bD_8 hK ha) (by rw [e1]; omega) (e1.trans f1.symm)
    rw [e3, f3, h9]
  · exact absurd e1 (f1 j)
  · omega
  · exact absurd f1 (e1 k)
  · rw [e3, f3]
  · exact absurd f1 e2
  · omega
  · exact absurd e1 f2
  · have h9 : m = n := by
      rcases (show m < n ∨ m = n ∨ n < m by omega) with h9 | h9 | h9
      · exact absurd e2 (f3 m h9)
      · exact h9
      · exact absurd f2 (e3 n h9)
    rw [e4, f4, h9]
def ShW (D : Nat → Int) (a b c n o r : Int) : Prop := 0 ≤ n ∧ o = pch D 0 n.toNat a ∧ r = shT D b a n.toNat ∧ ∀ j : Nat, (j : Int) < n → (0 ≤ pch D 0 j a ∧ pch D 0 j a < D 0) ∧ ¬ pch D 0 j a = c
theorem ShW_0 {D : Nat → Int} {a b c : Int} : ShW D a b c 0 a b := ⟨Int.le_refl 0, rfl, rfl, fun j hj => by omega⟩
theorem ShW_r {D : Nat → Int} {a b c n o r l : Int} (h : ShW D a b c n o r) (h1 : 0 ≤ o ∧ o < D 0) (h2 : o = c) (hl : l = shL D r o) : ShP D a b c l := by
  obtain ⟨a1, a2, a3, a4⟩ := h
  subst h2
  exact Or.inl ⟨n.toNat, a2.symm, h1.1, by rw [hl, a3]⟩
theorem ShW_s {D : Nat → Int} {a b c n o r l z n' r' : Int} (h : ShW D a b c n o r) (h1 : 0 ≤ o ∧ o < D 0) (h2 : ¬ o = c) (hl : l = shL D r o) (hz : z = D (13 + o.toNat)) (hn : n' = n + 1) (hr : r' = r - l) : ShW D a b c n' z r' := by
  obtain ⟨a1, a2, a3, a4⟩ := h
  subst hn
  have e : (n + 1).toNat = n.toNat + 1 := by omega
  refine ⟨by omega, by rw [e]; exact bD_s a2 h1.1 hz, ?_, fun j hj => ?_⟩
  · rw [e]
    show r' = shT D b a n.toNat - shL D (shT D b a n.toNat) (pch D 0 n.toNat a)
    rw [← a3, ← a2, ← hl]; exact hr
  · by_cases c1 : (j : Int) < n
    · exact a4 j c1
    · have e2 : j = n.toNat := by omega
      rw [e2, ← a2]
      exact ⟨h1, h2⟩
theorem ShW_x {D : Nat → Int} {a b c n o r z : Int} (h : ShW D a b c n o r) (hK : BK D) (ha : 0 ≤ a ∧ a < D 0) (hx : n = D 0 ∨ ¬ (0 ≤ o ∧ o < D 0)) (hz : c = -1 ∧ z = r ∨ ¬ c = -1 ∧ z = 0) : ShP D a b c z := by
  obtain ⟨a1, a2, a3, a4⟩ := h
  have he : pch D 0 n.toNat a = -1 := bD_end hK ha (by
    rcases hx with h9 | h9
    · left; omega
    · right; rw [← a2]; exact h9)
  rcases hz with ⟨c1, hz⟩ | ⟨c1, hz⟩
  · exact Or.inr (Or.inr ⟨c1, n.toNat, he, fun j hj => by have := (a4 j (by omega)).1; omega, by rw [hz, a3]⟩)
  · refine Or.inr (Or.inl ⟨fun j => ?_, c1, hz⟩)
    by_cases c2 : (j : Int) < n
    · exact (a4 j c2).2
    · rw [pch_le he (show n.toNat ≤ j by omega)]
      omega
theorem lo_z {f : Nat → Int} {i i' : Int} (h : ∀ j : Nat, (j : Int) < i → f j = 0) (hi : 0 ≤ i) (e : i' = i + 1) : ∀ j : Nat, (j : Int) < i' → q_up f i.toNat 0 j = 0 := fun j hj => by
  by_cases c : j = i.toNat
  · rw [c, q_up_s]
  · rw [q_up_n c]; exact h j (by omega)
def ShI (D : Nat → Int) (a b p r : Int) (lo : Nat → Int) : Prop := ∃ m : Nat, p = pch D 0 m a ∧ r = shT D b a m ∧ (∀ j : Nat, j < m → (0 ≤ pch D 0 j a ∧ pch D 0 j a < D 0) ∧ lo (pch D 0 j a).toNat = shL D (shT D b a j) (pch D 0 j a)) ∧ ∀ x : Nat, x < 8 → (∀ j : Nat, j < m → ¬ pch D 0 j a = (x : Int)) → lo x = 0
theorem ShI_0 {D : Nat → Int} {a b : Int} {lo : Nat → Int} (h : ∀ j : Nat, j < 8 → lo j = 0) : ShI D a b a b lo := ⟨0, rfl, rfl, fun j hj => by omega, fun x hx _ => h x hx⟩
theorem ShI_s {D : Nat → Int} {a b p r l z r' : Int} {lo : Nat → Int} (h : ShI D a b p r lo) (hK : BK D) (ha : 0 ≤ a ∧ a < D 0) (hp : 0 ≤ p ∧ p < D 0) (hl : l = shL D r p) (hz : z = D (13 + p.toNat)) (hr : r' = r - l) : ShI D a b z r' (q_up lo p.toNat l) := by
  obtain ⟨m, e1, e2, e3, e4⟩ := h
  have ne : ∀ j : Nat, j < m → ¬ (pch D 0 j a).toNat = p.toNat := fun j hj h9 => by
    have h8 := (e3 j hj).1
    have h7 : j = m := pch_inj (bD_8 hK ha) (by omega) (show pch D 0 j a = pch D 0 m a by rw [← e1]; omega)
    omega
  refine ⟨m + 1, bD_s e1 hp.1 hz, ?_, fun j hj => ?_, fun x hx h9 => ?_⟩
  · show r' = shT D b a m - shL D (shT D b a m) (pch D 0 m a)
    rw [← e2, ← e1, ← hl]; exact hr
  · by_cases c : j < m
    · rw [q_up_n (ne j c)]; exact e3 j c
    · have e9 : j = m := by omega
      subst e9
      rw [← e1, q_up_s, ← e2]
      exact ⟨hp, hl⟩
  · have h8 := h9 m (by omega)
    rw [← e1] at h8
    rw [q_up_n (by omega)]
    exact e4 x hx (fun j hj => h9 j (by omega))
theorem ShI_p {D : Nat → Int} {a b c r z : Int} {lo : Nat → Int} (h : ShI D a b (-1) r lo) (hz : c = -1 ∧ z = r ∨ (0 ≤ c ∧ c < 8) ∧ z = lo c.toNat) : ShP D a b c z := by
  obtain ⟨m, e1, e2, e3, e4⟩ := h
  rcases hz with ⟨hc, hz⟩ | ⟨hc, hz⟩
  · exact Or.inr (Or.inr ⟨hc, m, e1.symm, fun j hj => by have := (e3 j hj).1; omega, by rw [hz, e2]⟩)
  · by_cases hx : ∃ j : Nat, j < m ∧ pch D 0 j a = c
    · obtain ⟨j, hj, e⟩ := hx
      refine Or.inl ⟨j, e, hc.1, ?_⟩
      have h9 := (e3 j hj).2
      rw [e] at h9
      rw [hz]; exact h9
    · refine Or.inr (Or.inl ⟨fun j e => ?_, by omega, ?_⟩)
      · by_cases c2 : j < m
        · exact hx ⟨j, c2, e⟩
        · rw [pch_le e1.symm (show m ≤ j by omega)] at e
          omega
      · rw [hz]
        exact e4 c.toNat (by omega) (fun j hj e => hx ⟨j, hj, by omega⟩)
def ShA (D : Nat → Int) (b c d z : Int) : Prop := ((0 ≤ b ∧ b < D 0) ∧ (1 ≤ c ∧ c ≤ 99) ∧ (d = -1 ∨ 0 ≤ d ∧ d < D 0)) ∧ ShP D b c d z ∨ ¬ ((0 ≤ b ∧ b < D 0) ∧ (1 ≤ c ∧ c ≤ 99) ∧ (d = -1 ∨ 0 ≤ d ∧ d < D 0)) ∧ z = -1
theorem ShA_u {D : Nat → Int} (hK : BK D) (b c d z z' : Int) (h : ShA D b c d z) (h' : ShA D b c d z') : z = z' := by
  rcases h with ⟨p, h⟩ | ⟨p, h⟩ <;> rcases h' with ⟨p', h'⟩ | ⟨p', h'⟩
  · exact ShP_u hK p.1 h h'
  · exact absurd p p'
  · exact absurd p' p
  · rw [h, h']

theorem dG0_shareOf_0 : decode cX0_shareOf 0 = .ok (.iload_n 2, 1) := by decide +kernel
theorem dG0_shareOf_1 : decode cX0_shareOf 1 = .ok (.istore 4, 2) := by decide +kernel
theorem dG0_shareOf_3 : decode cX0_shareOf 3 = .ok (.iload_n 1, 1) := by decide +kernel
theorem dG0_shareOf_4 : decode cX0_shareOf 4 = .ok (.istore 5, 2) := by decide +kernel
theorem dG0_shareOf_6 : decode cX0_shareOf 6 = .ok (.iconst 0, 1) := by decide +kernel
theorem dG0_shareOf_7 : decode cX0_shareOf 7 = .ok (.istore 6, 2) := by decide +kernel
theorem dG0_shareOf_9 : decode cX0_shareOf 9 = .ok (.iload 6, 2) := by decide +kernel
theorem dG0_shareOf_11 : decode cX0_shareOf 11 = .ok (.aload_n 0, 1) := by decide +kernel
theorem dG0_shareOf_12 : decode cX0_shareOf 12 = .ok (.getfield 51, 3) := by decide +kernel
theorem dG0_shareOf_15 : decode cX0_shareOf 15 = .ok (.if_icmp .ge 81, 3) := by decide +kernel
theorem dG0_shareOf_18 : decode cX0_shareOf 18 = .ok (.aload_n 0, 1) := by decide +kernel
theorem dG0_shareOf_19 : decode cX0_shareOf 19 = .ok (.iload 5, 2) := by decide +kernel
theorem dG0_shareOf_21 : decode cX0_shareOf 21 = .ok (.invokevirtual 75, 3) := by decide +kernel
theorem dG0_shareOf_24 : decode cX0_shareOf 24 = .ok (.ifCond .eq 72, 3) := by decide +kernel
theorem dG0_shareOf_27 : decode cX0_shareOf 27 = .ok (.aload_n 0, 1) := by decide +kernel
theorem dG0_shareOf_28 : decode cX0_shareOf 28 = .ok (.getfield 15, 3) := by decide +kernel
theorem dG0_shareOf_31 : decode cX0_shareOf 31 = .ok (.iload 5, 2) := by decide +kernel
theorem dG0_shareOf_33 : decode cX0_shareOf 33 = .ok (.iaload, 1) := by decide +kernel
theorem dG0_shareOf_34 : decode cX0_shareOf 34 = .ok (.iconst (-1), 1) := by decide +kernel
theorem dG0_shareOf_35 : decode cX0_shareOf 35 = .ok (.if_icmp .ne 8, 3) := by decide +kernel
theorem dG0_shareOf_38 : decode cX0_shareOf 38 = .ok (.iload 4, 2) := by decide +kernel
theorem dG0_shareOf_40 : decode cX0_shareOf 40 = .ok (.goto 7, 3) := by decide +kernel
theorem dG0_shareOf_43 : decode cX0_shareOf 43 = .ok (.iload 4, 2) := by decide +kernel
theorem dG0_shareOf_45 : decode cX0_shareOf 45 = .ok (.iconst 2, 1) := by decide +kernel
theorem dG0_shareOf_46 : decode cX0_shareOf 46 = .ok (.idiv, 1) := by decide +kernel
theorem dG0_shareOf_47 : decode cX0_shareOf 47 = .ok (.istore 7, 2) := by decide +kernel
theorem dG0_shareOf_49 : decode cX0_shareOf 49 = .ok (.iload 7, 2) := by decide +kernel
theorem dG0_shareOf_51 : decode cX0_shareOf 51 = .ok (.aload_n 0, 1) := by decide +kernel
theorem dG0_shareOf_52 : decode cX0_shareOf 52 = .ok (.getfield 9, 3) := by decide +kernel
theorem dG0_shareOf_55 : decode cX0_shareOf 55 = .ok (.iload 5, 2) := by decide +kernel
theorem dG0_shareOf_57 : decode cX0_shareOf 57 = .ok (.iaload, 1) := by decide +kernel
theorem dG0_shareOf_58 : decode cX0_shareOf 58 = .ok (.iconst 1, 1) := by decide +kernel
theorem dG0_shareOf_59 : decode cX0_shareOf 59 = .ok (.isub, 1) := by decide +kernel
theorem dG0_shareOf_60 : decode cX0_shareOf 60 = .ok (.invokestatic 91, 3) := by decide +kernel
theorem dG0_shareOf_63 : decode cX0_shareOf 63 = .ok (.istore 8, 2) := by decide +kernel
theorem dG0_shareOf_65 : decode cX0_shareOf 65 = .ok (.iload 5, 2) := by decide +kernel
theorem dG0_shareOf_67 : decode cX0_shareOf 67 = .ok (.iload_n 3, 1) := by decide +kernel
theorem dG0_shareOf_68 : decode cX0_shareOf 68 = .ok (.if_icmp .ne 6, 3) := by decide +kernel
theorem dG0_shareOf_71 : decode cX0_shareOf 71 = .ok (.iload 8, 2) := by decide +kernel
theorem dG0_shareOf_73 : decode cX0_shareOf 73 = .ok (.ireturn, 1) := by decide +kernel
theorem dG0_shareOf_74 : decode cX0_shareOf 74 = .ok (.iload 4, 2) := by decide +kernel
theorem dG0_shareOf_76 : decode cX0_shareOf 76 = .ok (.iload 8, 2) := by decide +kernel
theorem dG0_shareOf_78 : decode cX0_shareOf 78 = .ok (.isub, 1) := by decide +kernel
theorem dG0_shareOf_79 : decode cX0_shareOf 79 = .ok (.istore 4, 2) := by decide +kernel
theorem dG0_shareOf_81 : decode cX0_shareOf 81 = .ok (.aload_n 0, 1) := by decide +kernel
theorem dG0_shareOf_82 : decode cX0_shareOf 82 = .ok (.getfield 15, 3) := by decide +kernel
theorem dG0_shareOf_85 : decode cX0_shareOf 85 = .ok (.iload 5, 2) := by decide +kernel
theorem dG0_shareOf_87 : decode cX0_shareOf 87 = .ok (.iaload, 1) := by decide +kernel
theorem dG0_shareOf_88 : decode cX0_shareOf 88 = .ok (.istore 5, 2) := by decide +kernel
theorem dG0_shareOf_90 : decode cX0_shareOf 90 = .ok (.iinc 6 1, 3) := by decide +kernel
theorem dG0_shareOf_93 : decode cX0_shareOf 93 = .ok (.goto (-84), 3) := by decide +kernel
theorem dG0_shareOf_96 : decode cX0_shareOf 96 = .ok (.iload_n 3, 1) := by decide +kernel
theorem dG0_shareOf_97 : decode cX0_shareOf 97 = .ok (.iconst (-1), 1) := by decide +kernel
theorem dG0_shareOf_98 : decode cX0_shareOf 98 = .ok (.if_icmp .ne 8, 3) := by decide +kernel
theorem dG0_shareOf_101 : decode cX0_shareOf 101 = .ok (.iload 4, 2) := by decide +kernel
theorem dG0_shareOf_103 : decode cX0_shareOf 103 = .ok (.goto 4, 3) := by decide +kernel
theorem dG0_shareOf_106 : decode cX0_shareOf 106 = .ok (.iconst 0, 1) := by decide +kernel
theorem dG0_shareOf_107 : decode cX0_shareOf 107 = .ok (.ireturn, 1) := by decide +kernel
def is_G0_shareOf : Nat → List Nat := fun d => if d = 9 then [0, 3, 4, 5, 6] else []
set_option maxRecDepth 100000 in
def b_G0_shareOf_107 (J : Nat → List qV → List qV → qW → Prop) (Q : qR) : qK := x_iret Q
set_option maxRecDepth 100000 in
theorem s_G0_shareOf_107 {p : Program} {l : Launch} {e : Env} {R : Room} {s : State} {m : MethodId} {args : Array Value} {below : List Frame} {meth : Method} {c : Code} {nW : Nat} {dC : Nat → ClassId} {dI : Nat → Nat → Nat} {k : Nat → ClassId} {g : Nat → Nat} {A : Nat → Prop} {J : Nat → List qV → List qV → qW → Prop} {Q : qR} (X : q_X p R s m args meth c cX0_shareOf 9 nW 1 21 RX0 (some .int) dC dI k g A) (hJ : ∀ d : Nat, q_Sd p l e R s m args below meth c 9 nW dC dI k g A (MQ below (q_post (dC, dI) k g nW Q A) args s 0 0 A) d (x_cut (is_G0_shareOf d) (J d))) : q_Sd p l e R s m args below meth c 9 nW dC dI k g A (MQ below (q_post (dC, dI) k g nW Q A) args s 0 0 A) 107 (b_G0_shareOf_107 J Q) := by
  unfold b_G0_shareOf_107
  exact s_iret X dG0_shareOf_107
set_option maxRecDepth 100000 in
def b_G0_shareOf_96 (J : Nat → List qV → List qV → qW → Prop) (Q : qR) : qK := x_iload 3 (x_int (-1) (x_icmp_ne (x_int 0 (b_G0_shareOf_107 J Q)) (x_iload 4 (b_G0_shareOf_107 J Q))))
set_option maxRecDepth 100000 in
theorem s_G0_shareOf_96 {p : Program} {l : Launch} {e : Env} {R : Room} {s : State} {m : MethodId} {args : Array Value} {below : List Frame} {meth : Method} {c : Code} {nW : Nat} {dC : Nat → ClassId} {dI : Nat → Nat → Nat} {k : Nat → ClassId} {g : Nat → Nat} {A : Nat → Prop} {J : Nat → List qV → List qV → qW → Prop} {Q : qR} (X : q_X p R s m args meth c cX0_shareOf 9 nW 1 21 RX0 (some .int) dC dI k g A) (hJ : ∀ d : Nat, q_Sd p l e R s m args below meth c 9 nW dC dI k g A (MQ below (q_post (dC, dI) k g nW Q A) args s 0 0 A) d (x_cut (is_G0_shareOf d) (J d))) : q_Sd p l e R s m args below meth c 9 nW dC dI k g A (MQ below (q_post (dC, dI) k g nW Q A) args s 0 0 A) 96 (b_G0_shareOf_96 J Q) := by
  unfold b_G0_shareOf_96
  refine s_iload_n X rfl dG0_shareOf_96 ?_
  refine s_iconst X ⟨by decide, by decide⟩ dG0_shareOf_97 ?_
  refine s_icmp_ne X (tgt := 106) dG0_shareOf_98 (by decide) ?_ ?_
  · refine s_iconst X ⟨by decide, by decide⟩ dG0_shareOf_106 ?_
    exact s_G0_shareOf_107 X hJ
  · refine s_iload X dG0_shareOf_101 ?_
    refine s_goto X (tgt := 107) dG0_shareOf_103 (by decide) ?_
    exact s_G0_shareOf_107 X hJ
set_option maxRecDepth 100000 in
def b_G0_shareOf_90 (J : Nat → List qV → List qV → qW → Prop) (Q : qR) : qK := x_iinc 6 1 (x_cut [0, 3, 4, 5, 6] (J 9))
set_option maxRecDepth 100000 in
theorem s_G0_shareOf_90 {p : Program} {l : Launch} {e : Env} {R : Room} {s : State} {m : MethodId} {args : Array Value} {below : List Frame} {meth : Method} {c : Code} {nW : Nat} {dC : Nat → ClassId} {dI : Nat → Nat → Nat} {k : Nat → ClassId} {g : Nat → Nat} {A : Nat → Prop} {J : Nat → List qV → List qV → qW → Prop} {Q : qR} (X : q_X p R s m args meth c cX0_shareOf 9 nW 1 21 RX0 (some .int) dC dI k g A) (hJ : ∀ d : Nat, q_Sd p l e R s m args below meth c 9 nW dC dI k g A (MQ below (q_post (dC, dI) k g nW Q A) args s 0 0 A) d (x_cut (is_G0_shareOf d) (J d))) : q_Sd p l e R s m args below meth c 9 nW dC dI k g A (MQ below (q_post (dC, dI) k g nW Q A) args s 0 0 A) 90 (b_G0_shareOf_90 J Q) := by
  unfold b_G0_shareOf_90
  refine s_iinc X (by decide) dG0_shareOf_90 ?_
  refine s_goto X (tgt := 9) dG0_shareOf_93 (by decide) ?_
  exact hJ 9
set_option maxRecDepth 100000 in
def b_G0_shareOf_47 (J : Nat → List qV → List qV → qW → Prop) (Q : qR) : qK := x_istore 7 (x_iload 7 (x_aload 0 (x_get 0 0 (x_iload 5 (x_iald (x_int 1 (x_isub (x_min (x_istore 8 (x_iload 5 (x_iload 3 (x_icmp_ne (x_iload 4 (x_iload 8 (x_isub (x_istore 4 (x_aload 0 (x_get 0 1 (x_iload 5 (x_iald (x_istore 5 (b_G0_shareOf_90 J Q)))))))))) (x_iload 8 (x_iret Q))))))))))))))
set_option maxRecDepth 100000 in
theorem s_G0_shareOf_47 {p : Program} {l : Launch} {e : Env} {R : Room} {s : State} {m : MethodId} {args : Array Value} {below : List Frame} {meth : Method} {c : Code} {nW : Nat} {dC : Nat → ClassId} {dI : Nat → Nat → Nat} {k : Nat → ClassId} {g : Nat → Nat} {A : Nat → Prop} {J : Nat → List qV → List qV → qW → Prop} {Q : qR} (X : q_X p R s m args meth c cX0_shareOf 9 nW 1 21 RX0 (some .int) dC dI k g A) (hJ : ∀ d : Nat, q_Sd p l e R s m args below meth c 9 nW dC dI k g A (MQ below (q_post (dC, dI) k g nW Q A) args s 0 0 A) d (x_cut (is_G0_shareOf d) (J d))) : q_Sd p l e R s m args below meth c 9 nW dC dI k g A (MQ below (q_post (dC, dI) k g nW Q A) args s 0 0 A) 47 (b_G0_shareOf_47 J Q) := by
  unfold b_G0_shareOf_47
  refine s_istore X (by decide) dG0_shareOf_47 ?_
  refine s_iload X dG0_shareOf_49 ?_
  refine s_aload_n X rfl dG0_shareOf_51 ?_
  refine s_get X (T := TX0) (C := RX0) (N := 12) tu_X0 rfl (by decide) tw_164 dG0_shareOf_52 ?_
  refine s_iload X dG0_shareOf_55 ?_
  refine s_iald X dG0_shareOf_57 ?_
  refine s_iconst X ⟨by decide, by decide⟩ dG0_shareOf_58 ?_
  refine s_isub X dG0_shareOf_59 ?_
  refine s_min X tw_747 tw_365 tw_135 tw_366 ⟨by decide, by decide⟩ dG0_shareOf_60 ?_
  refine s_istore X (by decide) dG0_shareOf_63 ?_
  refine s_iload X dG0_shareOf_65 ?_
  refine s_iload_n X rfl dG0_shareOf_67 ?_
  refine s_icmp_ne X (tgt := 74) dG0_shareOf_68 (by decide) ?_ ?_
  · refine s_iload X dG0_shareOf_74 ?_
    refine s_iload X dG0_shareOf_76 ?_
    refine s_isub X dG0_shareOf_78 ?_
    refine s_istore X (by decide) dG0_shareOf_79 ?_
    refine s_aload_n X rfl dG0_shareOf_81 ?_
    refine s_get X (T := TX0) (C := RX0) (N := 12) tu_X0 rfl (by decide) tw_172 dG0_shareOf_82 ?_
    refine s_iload X dG0_shareOf_85 ?_
    refine s_iald X dG0_shareOf_87 ?_
    refine s_istore X (by decide) dG0_shareOf_88 ?_
    exact s_G0_shareOf_90 X hJ
  · refine s_iload X dG0_shareOf_71 ?_
    exact s_iret X dG0_shareOf_73
set_option maxRecDepth 100000 in
def b_G0_shareOf_9 (J : Nat → List qV → List qV → qW → Prop) (Q : qR) : qK := x_iload 6 (x_aload 0 (x_get 0 7 (x_icmp_ge (b_G0_shareOf_96 J Q) (x_aload 0 (x_iload 5 (x_callr (some 0) 2 spr_X0_has (x_if_eq (b_G0_shareOf_96 J Q) (x_aload 0 (x_get 0 1 (x_iload 5 (x_iald (x_int (-1) (x_icmp_ne (x_iload 4 (x_int 2 (x_idiv (b_G0_shareOf_47 J Q)))) (x_iload 4 (b_G0_shareOf_47 J Q)))))))))))))))
set_option maxRecDepth 100000 in
theorem s_G0_shareOf_9 {p : Program} {l : Launch} {e : Env} {R : Room} {s : State} {m : MethodId} {args : Array Value} {below : List Frame} {meth : Method} {c : Code} {nW : Nat} {dC : Nat → ClassId} {dI : Nat → Nat → Nat} {k : Nat → ClassId} {g : Nat → Nat} {A : Nat → Prop} {J : Nat → List qV → List qV → qW → Prop} {Q : qR} (X : q_X p R s m args meth c cX0_shareOf 9 nW 1 21 RX0 (some .int) dC dI k g A) (hJ : ∀ d : Nat, q_Sd p l e R s m args below meth c 9 nW dC dI k g A (MQ below (q_post (dC, dI) k g nW Q A) args s 0 0 A) d (x_cut (is_G0_shareOf d) (J d))) : q_Sd p l e R s m args below meth c 9 nW dC dI k g A (MQ below (q_post (dC, dI) k g nW Q A) args s 0 0 A) 9 (b_G0_shareOf_9 J Q) := by
  unfold b_G0_shareOf_9
  refine s_iload X dG0_shareOf_9 ?_
  refine s_aload_n X rfl dG0_shareOf_11 ?_
  refine s_get X (T := TX0) (C := RX0) (N := 12) tu_X0 rfl (by decide) tw_193 dG0_shareOf_12 ?_
  refine s_icmp_ge X (tgt := 96) dG0_shareOf_15 (by decide) ?_ ?_
  · exact s_G0_shareOf_96 X hJ
  · refine s_aload_n X rfl dG0_shareOf_18 ?_
    refine s_iload X dG0_shareOf_19 ?_
    refine s_callVr X (m_X0_has l) tw_398 tw_399 tw_400 tw_122 tw_401 rfl (by decide +kernel) ⟨by decide, by decide⟩ dG0_shareOf_21 ?_
    refine s_if_eq X (tgt := 96) dG0_shareOf_24 (by decide) ?_ ?_
    · exact s_G0_shareOf_96 X hJ
    · refine s_aload_n X rfl dG0_shareOf_27 ?_
      refine s_get X (T := TX0) (C := RX0) (N := 12) tu_X0 rfl (by decide) tw_172 dG0_shareOf_28 ?_
      refine s_iload X dG0_shareOf_31 ?_
      refine s_iald X dG0_shareOf_33 ?_
      refine s_iconst X ⟨by decide, by decide⟩ dG0_shareOf_34 ?_
      refine s_icmp_ne X (tgt := 43) dG0_shareOf_35 (by decide) ?_ ?_
      · refine s_iload X dG0_shareOf_43 ?_
        refine s_iconst X ⟨by decide, by decide⟩ dG0_shareOf_45 ?_
        refine s_idiv X dG0_shareOf_46 ?_
        exact s_G0_shareOf_47 X hJ
      · refine s_iload X dG0_shareOf_38 ?_
        refine s_goto X (tgt := 47) dG0_shareOf_40 (by decide) ?_
        exact s_G0_shareOf_47 X hJ
set_option maxRecDepth 100000 in
def b_G0_shareOf_0 (J : Nat → List qV → List qV → qW → Prop) (Q : qR) : qK := x_iload 2 (x_istore 4 (x_iload 1 (x_istore 5 (x_int 0 (x_istore 6 (x_cut [0, 3, 4, 5, 6] (J 9)))))))
set_option maxRecDepth 100000 in
theorem s_G0_shareOf_0 {p : Program} {l : Launch} {e : Env} {R : Room} {s : State} {m : MethodId} {args : Array Value} {below : List Frame} {meth : Method} {c : Code} {nW : Nat} {dC : Nat → ClassId} {dI : Nat → Nat → Nat} {k : Nat → ClassId} {g : Nat → Nat} {A : Nat → Prop} {J : Nat → List qV → List qV → qW → Prop} {Q : qR} (X : q_X p R s m args meth c cX0_shareOf 9 nW 1 21 RX0 (some .int) dC dI k g A) (hJ : ∀ d : Nat, q_Sd p l e R s m args below meth c 9 nW dC dI k g A (MQ below (q_post (dC, dI) k g nW Q A) args s 0 0 A) d (x_cut (is_G0_shareOf d) (J d))) : q_Sd p l e R s m args below meth c 9 nW dC dI k g A (MQ below (q_post (dC, dI) k g nW Q A) args s 0 0 A) 0 (b_G0_shareOf_0 J Q) := by
  unfold b_G0_shareOf_0
  refine s_iload_n X rfl dG0_shareOf_0 ?_
  refine s_istore X (by decide) dG0_shareOf_1 ?_
  refine s_iload_n X rfl dG0_shareOf_3 ?_
  refine s_istore X (by decide) dG0_shareOf_4 ?_
  refine s_iconst X ⟨by decide, by decide⟩ dG0_shareOf_6 ?_
  refine s_istore X (by decide) dG0_shareOf_7 ?_
  exact hJ 9

def spr_G0_shareOf : List qV → qW → (Option qV → Prop) → Prop := fun av w Q => ∃ (f1 : Nat → Int) (f2 : Nat → Int) (f3 : Nat → Int) (f4 : Nat → Int) (f5 : Nat → Int) (f6 : Nat → Int) (f7 : Nat → Int) (u0 : Int) (u1 : Int) (u2 : Int) (u3 : Int) (u4 : Int) (D : Nat → Int) (a : Int) (b : Int) (c : Int), av = [q2 0, q1 a, q1 b, q1 c] ∧ w = wB f1 f2 f3 f4 f5 f6 f7 u0 u1 u2 u3 u4 ∧ (0 ≤ u0 ∧ u0 ≤ 8) ∧ (CBK f1 f2 f3 f4 f5 f6 f7 u0 u1 u2 u3 u4 D) ∧ (0 ≤ a ∧ a < u0) ∧ (1 ≤ b ∧ b ≤ 99) ∧ (∀ (r : Int) , ShP D a b c r → Q (some (q1 r)))
def sp_G0_shareOf : qS := fun av w Q => spr_G0_shareOf av w (fun r => Q r w)
def I_G0_shareOf (f1 : Nat → Int) (f2 : Nat → Int) (f3 : Nat → Int) (f4 : Nat → Int) (f5 : Nat → Int) (f6 : Nat → Int) (f7 : Nat → Int) (u0 : Int) (u1 : Int) (u2 : Int) (u3 : Int) (u4 : Int) (D : Nat → Int) (a : Int) (b : Int) (c : Int) : Nat → Nat → List qV → List qV → qW → Prop := fun dz mz vz sz wz => if dz = 9 then (∃ (v4 : Int) (v5 : Int) (v6 : Int), vz = [q2 0, q1 c, q1 v4, q1 v5, q1 v6] ∧ sz = [] ∧ wz = wB f1 f2 f3 f4 f5 f6 f7 u0 u1 u2 u3 u4 ∧ mz = (u0 - v6).toNat ∧ (0 ≤ v6 ∧ v6 ≤ u0) ∧ (0 ≤ v4 ∧ v4 ≤ 99) ∧ (ShW D a b c v6 v5 v4)) else False
set_option maxHeartbeats 4000000 in
set_option maxRecDepth 100000 in
theorem m_G0_shareOf (l : Launch) : q_M l yX0_shareOf cX0_shareOf 9 (some .int) 1 21 sp_G0_shareOf := by
  refine q_meth (by decide) (fun av w Q h => by obtain ⟨f1, f2, f3, f4, f5, f6, f7, u0, u1, u2, u3, u4, D, a, b, c, rfl, rfl, hu0, hD, ha, hb, hQ⟩ := h; exact Nat.le_of_ble_eq_true rfl) ?_
  intro p e R s m args below meth c dC dI k g A av w Q hsp oka okw X
  obtain ⟨f1, f2, f3, f4, f5, f6, f7, u0, u1, u2, u3, u4, D, a, b, c, rfl, rfl, hu0, hD, ha, hb, hQ⟩ := hsp
  have o_a : -2147483648 ≤ a ∧ a ≤ 2147483647 := oka _ (List.mem_of_getElem? (i := 1) rfl)
  have o_b : -2147483648 ≤ b ∧ b ≤ 2147483647 := oka _ (List.mem_of_getElem? (i := 2) rfl)
  have o_c : -2147483648 ≤ c ∧ c ≤ 2147483647 := oka _ (List.mem_of_getElem? (i := 3) rfl)
  refine s_mono (s_G0_shareOf_0 X (J := fun dz vz sz wz => ∃ mz, I_G0_shareOf f1 f2 f3 f4 f5 f6 f7 u0 u1 u2 u3 u4 D a b c dz mz vz sz wz) (q_loopn (I_G0_shareOf f1 f2 f3 f4 f5 f6 f7 u0 u1 u2 u3 u4 D a b c) (fun dz J => if dz = 9 then b_G0_shareOf_9 J Q else q_F) ?hs ?hv)) ?_
  case hs =>
    intro d J hJ
    by_cases h9 : d = 9
    · subst h9; exact s_G0_shareOf_9 X hJ
    simp only [h9, if_false]
    exact s_F
  case hv =>
    intro dz mz vz sz wz hI okv oks okw hlen
    by_cases h9 : dz = 9
    · subst h9
      obtain ⟨v4, v5, v6, rfl, rfl, rfl, hn, hp, hv, hs9⟩ := hI
      have hu := cb_u0 hD
      apply And.intro
      · intro h15
        apply And.intro
        · intro h98
          exact hQ _ (by first | exact ShW_r hs9 (by omega) (by omega) q60 | exact ShW_x hs9 hD.2 (by omega) (by omega) (by omega))
        · intro h98
          exact hQ _ (by first | exact ShW_r hs9 (by omega) (by omega) q60 | exact ShW_x hs9 hD.2 (by omega) (by omega) (by omega))
      · intro h15
        refine Exists.intro [0, 1, 2, 3, 4, 5, 6, 7] (Exists.intro [q2 0, q1 _] (Exists.intro (wB _ _ _ _ _ _ _ _ _ _ _ _) (And.intro rfl (And.intro rfl (And.intro rfl (And.intro ⟨⟨_, rfl⟩, rfl⟩ ?_))))))
        refine Exists.intro _ (Exists.intro _ (Exists.intro _ (Exists.intro _ (Exists.intro _ (Exists.intro _ (Exists.intro _ (Exists.intro _ (Exists.intro _ (Exists.intro _ (Exists.intro _ (Exists.intro _ (Exists.intro _ (And.intro rfl (And.intro rfl (?_)))))))))))))))
        intro z21 h21
        apply And.intro
        · intro h24
          replace h21 := dj0 h21 h24
          apply And.intro
          · intro h98
            exact hQ _ (by first | exact ShW_r hs9 (by omega) (by omega) q60 | exact ShW_x hs9 hD.2 (by omega) (by omega) (by omega))
          · intro h98
            exact hQ _ (by first | exact ShW_r hs9 (by omega) (by omega) q60 | exact ShW_x hs9 hD.2 (by omega) (by omega) (by omega))
        · intro h24
          replace h21 := dj1 h21 h24
          apply And.intro
          · exact ⟨by omega, by omega⟩
          intro z33 h33
          have p33 := (cb_p hD h33 (by omega)).1
          apply And.intro
          · intro h35
            apply And.intro
            · first | omega | (intro e9; omega)
            intro z46 h46
            first | replace h46 := e_div h46 (by omega) (by omega) | replace h46 := e_rng h46
            apply And.intro
            · exact ⟨by omega, by omega⟩
            intro z57 h57
            obtain ⟨i57, j57⟩ := cb_i hD h57 (by omega)
            intro z59 h59
            first | replace h59 := e_sub h59 (by omega) | replace h59 := e_rng h59
            intro z60 h60
            have q60 : z60 = shL D v4 v5 := (by first | exact shL_y p33 (by omega) i57 h60 (by omega) | exact shL_n p33 (by omega) i57 h60 h46 (by omega))
            have r60 := shL_rg hD.2 (r := v4) (o := v5) (by omega) (by omega) q60
            apply And.intro
            · intro h68
              intro z78 h78
              first | replace h78 := e_sub h78 (by omega) | replace h78 := e_rng h78
              apply And.intro
              · exact ⟨by omega, by omega⟩
              intro z87 h87
              have p87 := (cb_p hD h87 (by omega)).1
              intro z90 h90
              first | replace h90 := e_add h90 (by omega) | replace h90 := e_rng h90
              exact ⟨_, ⟨_, _, _, rfl, rfl, rfl, rfl, (by first | omega | assumption | exact q_rg_up (by assumption) (by omega) | exact q_rg_up (q_rg_up (by assumption) (by omega)) (by omega) | exact q_rg_cpy (by assumption) (by assumption)), (by first | omega | assumption | exact q_rg_up (by assumption) (by omega) | exact q_rg_up (q_rg_up (by assumption) (by omega)) (by omega) | exact q_rg_cpy (by assumption) (by assumption)), (by first | exact ShW_0 | exact ShW_s hs9 (by omega) (by omega) q60 p87 (by omega) (by omega))⟩, by omega⟩
            · intro h68
              exact hQ _ (by first | exact ShW_r hs9 (by omega) (by omega) q60 | exact ShW_x hs9 hD.2 (by omega) (by omega) (by omega))
          · intro h35
            apply And.intro
            · exact ⟨by omega, by omega⟩
            intro z57 h57
            obtain ⟨i57, j57⟩ := cb_i hD h57 (by omega)
            intro z59 h59
            first | replace h59 := e_sub h59 (by omega) | replace h59 := e_rng h59
            intro z60 h60
            have q60 : z60 = shL D v4 v5 := (by first | exact shL_y p33 (by omega) i57 h60 (by omega) | exact shL_n p33 (by omega) i57 h60 h46 (by omega))
            have r60 := shL_rg hD.2 (r := v4) (o := v5) (by omega) (by omega) q60
            apply And.intro
            · intro h68
              intro z78 h78
              first | replace h78 := e_sub h78 (by omega) | replace h78 := e_rng h78
              apply And.intro
              · exact ⟨by omega, by omega⟩
              intro z87 h87
              have p87 := (cb_p hD h87 (by omega)).1
              intro z90 h90
              first | replace h90 := e_add h90 (by omega) | replace h90 := e_rng h90
              exact ⟨_, ⟨_, _, _, rfl, rfl, rfl, rfl, (by first | omega | assumption | exact q_rg_up (by assumption) (by omega) | exact q_rg_up (q_rg_up (by assumption) (by omega)) (by omega) | exact q_rg_cpy (by assumption) (by assumption)), (by first | omega | assumption | exact q_rg_up (by assumption) (by omega) | exact q_rg_up (q_rg_up (by assumption) (by omega)) (by omega) | exact q_rg_cpy (by assumption) (by assumption)), (by first | exact ShW_0 | exact ShW_s hs9 (by omega) (by omega) q60 p87 (by omega) (by omega))⟩, by omega⟩
            · intro h68
              exact hQ _ (by first | exact ShW_r hs9 (by omega) (by omega) q60 | exact ShW_x hs9 hD.2 (by omega) (by omega) (by omega))
    simp only [I_G0_shareOf, h9, if_false] at hI
  rintro lv st w' ⟨rfl, rfl, rfl⟩
  exact ⟨_, _, _, _, rfl, rfl, rfl, rfl, (by first | omega | assumption | exact q_rg_up (by assumption) (by omega) | exact q_rg_up (q_rg_up (by assumption) (by omega)) (by omega) | exact q_rg_cpy (by assumption) (by assumption)), (by first | omega | assumption | exact q_rg_up (by assumption) (by omega) | exact q_rg_up (q_rg_up (by assumption) (by omega)) (by omega) | exact q_rg_cpy (by assumption) (by assumption)), (by first | exact ShW_0 | exact ShW_s hs9 (by omega) (by omega) q60 p87 (by omega) (by omega))⟩

theorem dGX11_share_0 : decode cX11_share 0 = .ok (.aload_n 0, 1) := by decide +kernel
theorem dGX11_share_1 : decode cX11_share 1 = .ok (.getfield 10, 3) := by decide +kernel
theorem dGX11_share_4 : decode cX11_share 4 = .ok (.iload_n 1, 1) := by decide +kernel
theorem dGX11_share_5 : decode cX11_share 5 = .ok (.invokevirtual 94, 3) := by decide +kernel
theorem dGX11_share_8 : decode cX11_share 8 = .ok (.astore 5, 2) := by decide +kernel
theorem dGX11_share_10 : decode cX11_share 10 = .ok (.aload 5, 2) := by decide +kernel
theorem dGX11_share_12 : decode cX11_share 12 = .ok (.ifnull 23, 3) := by decide +kernel
theorem dGX11_share_15 : decode cX11_share 15 = .ok (.aload 5, 2) := by decide +kernel
theorem dGX11_share_17 : decode cX11_share 17 = .ok (.iload_n 2, 1) := by decide +kernel
theorem dGX11_share_18 : decode cX11_share 18 = .ok (.invokevirtual 173, 3) := by decide +kernel
theorem dGX11_share_21 : decode cX11_share 21 = .ok (.ifCond .eq 14, 3) := by decide +kernel
theorem dGX11_share_24 : decode cX11_share 24 = .ok (.iload_n 3, 1) := by decide +kernel
theorem dGX11_share_25 : decode cX11_share 25 = .ok (.iconst 1, 1) := by decide +kernel
theorem dGX11_share_26 : decode cX11_share 26 = .ok (.if_icmp .lt 9, 3) := by decide +kernel
theorem dGX11_share_29 : decode cX11_share 29 = .ok (.iload_n 3, 1) := by decide +kernel
theorem dGX11_share_30 : decode cX11_share 30 = .ok (.bipush 99, 2) := by decide +kernel
theorem dGX11_share_32 : decode cX11_share 32 = .ok (.if_icmp .le 5, 3) := by decide +kernel
theorem dGX11_share_35 : decode cX11_share 35 = .ok (.iconst (-1), 1) := by decide +kernel
theorem dGX11_share_36 : decode cX11_share 36 = .ok (.ireturn, 1) := by decide +kernel
theorem dGX11_share_37 : decode cX11_share 37 = .ok (.iload 4, 2) := by decide +kernel
theorem dGX11_share_39 : decode cX11_share 39 = .ok (.iconst (-1), 1) := by decide +kernel
theorem dGX11_share_40 : decode cX11_share 40 = .ok (.if_icmp .eq 15, 3) := by decide +kernel
theorem dGX11_share_43 : decode cX11_share 43 = .ok (.aload 5, 2) := by decide +kernel
theorem dGX11_share_45 : decode cX11_share 45 = .ok (.iload 4, 2) := by decide +kernel
theorem dGX11_share_47 : decode cX11_share 47 = .ok (.invokevirtual 173, 3) := by decide +kernel
theorem dGX11_share_50 : decode cX11_share 50 = .ok (.ifCond .ne 5, 3) := by decide +kernel
theorem dGX11_share_53 : decode cX11_share 53 = .ok (.iconst (-1), 1) := by decide +kernel
theorem dGX11_share_54 : decode cX11_share 54 = .ok (.ireturn, 1) := by decide +kernel
theorem dGX11_share_55 : decode cX11_share 55 = .ok (.aload 5, 2) := by decide +kernel
theorem dGX11_share_57 : decode cX11_share 57 = .ok (.iload_n 2, 1) := by decide +kernel
theorem dGX11_share_58 : decode cX11_share 58 = .ok (.iload_n 3, 1) := by decide +kernel
theorem dGX11_share_59 : decode cX11_share 59 = .ok (.iload 4, 2) := by decide +kernel
theorem dGX11_share_61 : decode cX11_share 61 = .ok (.invokevirtual 177, 3) := by decide +kernel
theorem dGX11_share_64 : decode cX11_share 64 = .ok (.ireturn, 1) := by decide +kernel
def is_GX11_share : Nat → List Nat := fun d => []
set_option maxRecDepth 100000 in
def b_GX11_share_55 (J : Nat → List qV → List qV → qW → Prop) (Q : qR) : qK := x_aload 5 (x_iload 2 (x_iload 3 (x_iload 4 (x_callr (some 0) 4 spr_G0_shareOf (x_iret Q)))))
set_option maxRecDepth 100000 in
theorem s_GX11_share_55 {p : Program} {l : Launch} {e : Env} {R : Room} {s : State} {m : MethodId} {args : Array Value} {below : List Frame} {meth : Method} {c : Code} {nW : Nat} {dC : Nat → ClassId} {dI : Nat → Nat → Nat} {k : Nat → ClassId} {g : Nat → Nat} {A : Nat → Prop} {J : Nat → List qV → List qV → qW → Prop} {Q : qR} (X : q_X p R s m args meth c cX11_share 6 nW 2 49 RX11 (some .int) dC dI k g A) (hJ : ∀ d : Nat, q_Sd p l e R s m args below meth c 6 nW dC dI k g A (MQ below (q_post (dC, dI) k g nW Q A) args s 0 0 A) d (x_cut (is_GX11_share d) (J d))) : q_Sd p l e R s m args below meth c 6 nW dC dI k g A (MQ below (q_post (dC, dI) k g nW Q A) args s 0 0 A) 55 (b_GX11_share_55 J Q) := by
  unfold b_GX11_share_55
  refine s_aload X dGX11_share_55 ?_
  refine s_iload_n X rfl dGX11_share_57 ?_
  refine s_iload_n X rfl dGX11_share_58 ?_
  refine s_iload X dGX11_share_59 ?_
  refine s_callVr X (m_G0_shareOf l) tw_743 tw_744 tw_745 tw_122 tw_746 rfl (by decide +kernel) ⟨by decide, by decide⟩ dGX11_share_61 ?_
  exact s_iret X dGX11_share_64
set_option maxRecDepth 100000 in
def b_GX11_share_35 (J : Nat → List qV → List qV → qW → Prop) (Q : qR) : qK := x_int (-1) (x_iret Q)
set_option maxRecDepth 100000 in
theorem s_GX11_share_35 {p : Program} {l : Launch} {e : Env} {R : Room} {s : State} {m : MethodId} {args : Array Value} {below : List Frame} {meth : Method} {c : Code} {nW : Nat} {dC : Nat → ClassId} {dI : Nat → Nat → Nat} {k : Nat → ClassId} {g : Nat → Nat} {A : Nat → Prop} {J : Nat → List qV → List qV → qW → Prop} {Q : qR} (X : q_X p R s m args meth c cX11_share 6 nW 2 49 RX11 (some .int) dC dI k g A) (hJ : ∀ d : Nat, q_Sd p l e R s m args below meth c 6 nW dC dI k g A (MQ below (q_post (dC, dI) k g nW Q A) args s 0 0 A) d (x_cut (is_GX11_share d) (J d))) : q_Sd p l e R s m args below meth c 6 nW dC dI k g A (MQ below (q_post (dC, dI) k g nW Q A) args s 0 0 A) 35 (b_GX11_share_35 J Q) := by
  unfold b_GX11_share_35
  refine s_iconst X ⟨by decide, by decide⟩ dGX11_share_35 ?_
  exact s_iret X dGX11_share_36
set_option maxRecDepth 100000 in
def b_GX11_share_0 (J : Nat → List qV → List qV → qW → Prop) (Q : qR) : qK := x_aload 0 (x_get 11 0 (x_iload 1 (x_callr (some 8) 2 spr_G8_boroughAt (x_astore 5 (x_aload 5 (x_ifnull (b_GX11_share_35 J Q) (x_aload 5 (x_iload 2 (x_callr (some 0) 2 spr_X0_has (x_if_eq (b_GX11_share_35 J Q) (x_iload 3 (x_int 1 (x_icmp_lt (b_GX11_share_35 J Q) (x_iload 3 (x_int 99 (x_icmp_le (x_iload 4 (x_int (-1) (x_icmp_eq (b_GX11_share_55 J Q) (x_aload 5 (x_iload 4 (x_callr (some 0) 2 spr_X0_has (x_if_ne (b_GX11_share_55 J Q) (x_int (-1) (x_iret Q))))))))) (b_GX11_share_35 J Q)))))))))))))))))
set_option maxRecDepth 100000 in
theorem s_GX11_share_0 {p : Program} {l : Launch} {e : Env} {R : Room} {s : State} {m : MethodId} {args : Array Value} {below : List Frame} {meth : Method} {c : Code} {nW : Nat} {dC : Nat → ClassId} {dI : Nat → Nat → Nat} {k : Nat → ClassId} {g : Nat → Nat} {A : Nat → Prop} {J : Nat → List qV → List qV → qW → Prop} {Q : qR} (X : q_X p R s m args meth c cX11_share 6 nW 2 49 RX11 (some .int) dC dI k g A) (hJ : ∀ d : Nat, q_Sd p l e R s m args below meth c 6 nW dC dI k g A (MQ below (q_post (dC, dI) k g nW Q A) args s 0 0 A) d (x_cut (is_GX11_share d) (J d))) : q_Sd p l e R s m args below meth c 6 nW dC dI k g A (MQ below (q_post (dC, dI) k g nW Q A) args s 0 0 A) 0 (b_GX11_share_0 J Q) := by
  unfold b_GX11_share_0
  refine s_aload_n X rfl dGX11_share_0 ?_
  refine s_get X (T := TX11) (C := RX11) (N := 8) tu_X11 rfl (by decide) tw_326 dGX11_share_1 ?_
  refine s_iload_n X rfl dGX11_share_4 ?_
  refine s_callVr X (m_G8_boroughAt l) tw_541 tw_542 tw_543 tw_121 tw_544 rfl (by decide +kernel) ⟨by decide, by decide⟩ dGX11_share_5 ?_
  refine s_astore X (by decide) dGX11_share_8 ?_
  refine s_aload X dGX11_share_10 ?_
  refine s_ifnull X (tgt := 35) dGX11_share_12 (by decide) ?_ ?_
  · exact s_GX11_share_35 X hJ
  · refine s_aload X dGX11_share_15 ?_
    refine s_iload_n X rfl dGX11_share_17 ?_
    refine s_callVr X (m_X0_has l) tw_742 tw_399 tw_400 tw_122 tw_401 rfl (by decide +kernel) ⟨by decide, by decide⟩ dGX11_share_18 ?_
    refine s_if_eq X (tgt := 35) dGX11_share_21 (by decide) ?_ ?_
    · exact s_GX11_share_35 X hJ
    · refine s_iload_n X rfl dGX11_share_24 ?_
      refine s_iconst X ⟨by decide, by decide⟩ dGX11_share_25 ?_
      refine s_icmp_lt X (tgt := 35) dGX11_share_26 (by decide) ?_ ?_
      · exact s_GX11_share_35 X hJ
      · refine s_iload_n X rfl dGX11_share_29 ?_
        refine s_bipush X ⟨by decide, by decide⟩ (by decide) dGX11_share_30 ?_
        refine s_icmp_le X (tgt := 37) dGX11_share_32 (by decide) ?_ ?_
        · refine s_iload X dGX11_share_37 ?_
          refine s_iconst X ⟨by decide, by decide⟩ dGX11_share_39 ?_
          refine s_icmp_eq X (tgt := 55) dGX11_share_40 (by decide) ?_ ?_
          · exact s_GX11_share_55 X hJ
          · refine s_aload X dGX11_share_43 ?_
            refine s_iload X dGX11_share_45 ?_
            refine s_callVr X (m_X0_has l) tw_742 tw_399 tw_400 tw_122 tw_401 rfl (by decide +kernel) ⟨by decide, by decide⟩ dGX11_share_47 ?_
            refine s_if_ne X (tgt := 55) dGX11_share_50 (by decide) ?_ ?_
            · exact s_GX11_share_55 X hJ
            · refine s_iconst X ⟨by decide, by decide⟩ dGX11_share_53 ?_
              exact s_iret X dGX11_share_54
        · exact s_GX11_share_35 X hJ

def spr_GX11_share : List qV → qW → (Option qV → Prop) → Prop := fun av w Q => ∃ (tp : Nat → Int) (ct : Nat → Int) (ln : Int) (fa : Int) (pl : Int) (b0f1 : Nat → Int) (b0f2 : Nat → Int) (b0f3 : Nat → Int) (b0f4 : Nat → Int) (b0f5 : Nat → Int) (b0f6 : Nat → Int) (b0f7 : Nat → Int) (b0u0 : Int) (b0u1 : Int) (b0u2 : Int) (b0u3 : Int) (b0u4 : Int) (b1f1 : Nat → Int) (b1f2 : Nat → Int) (b1f3 : Nat → Int) (b1f4 : Nat → Int) (b1f5 : Nat → Int) (b1f6 : Nat → Int) (b1f7 : Nat → Int) (b1u0 : Int) (b1u1 : Int) (b1u2 : Int) (b1u3 : Int) (b1u4 : Int) (a : Int) (b : Int) (cc : Int) (dd : Int) (D0 : Nat → Int) (D1 : Nat → Int), av = [q2 0, q1 a, q1 b, q1 cc, q1 dd] ∧ w = [.inr (11, [q2 1, q2 21, q2 22, q2 23, q2 24, q2 25, q2 26, q2 27]), .inr (8, [q2 2, q2 3, q2 4, q2 28, q2 29, q2 30, q1 ln, q1 fa, q1 pl]), .inl (1, 600, .inl tp), .inl (0, 4, .inl ct), .inl (4, 2, .inr (.inr [some 5, some 13])), .inr (0, [q2 6, q2 7, q2 8, q2 9, q2 10, q2 11, q2 12, q1 b0u0, q1 b0u1, q1 b0u2, q1 b0u3, q1 b0u4]), .inl (0, 8, .inl b0f1), .inl (0, 8, .inl b0f2), .inl (0, 4, .inl b0f3), .inl (0, 32, .inl b0f4), .inl (0, 6, .inl b0f5), .inl (0, 6, .inl b0f6), .inl (0, 6, .inl b0f7), .inr (0, [q2 14, q2 15, q2 16, q2 17, q2 18, q2 19, q2 20, q1 b1u0, q1 b1u1, q1 b1u2, q1 b1u3, q1 b1u4]), .inl (0, 8, .inl b1f1), .inl (0, 8, .inl b1f2), .inl (0, 4, .inl b1f3), .inl (0, 32, .inl b1f4), .inl (0, 6, .inl b1f5), .inl (0, 6, .inl b1f6), .inl (0, 6, .inl b1f7)] ∧ (q_rg 0 2 ct) ∧ (0 ≤ ln ∧ ln ≤ 600) ∧ (0 ≤ b0u0 ∧ b0u0 ≤ 8 ∧ 0 ≤ b0u3 ∧ b0u3 ≤ 6 ∧ 0 ≤ b0u4 ∧ b0u4 ≤ 6) ∧ (q_rg 0 9 b0f3) ∧ (0 ≤ b1u0 ∧ b1u0 ≤ 8 ∧ 0 ≤ b1u3 ∧ b1u3 ≤ 6 ∧ 0 ≤ b1u4 ∧ b1u4 ≤ 6) ∧ (q_rg 0 9 b1f3) ∧ (0 < ct (0 : Int).toNat → CBK b0f1 b0f2 b0f3 b0f4 b0f5 b0f6 b0f7 b0u0 b0u1 b0u2 b0u3 b0u4 D0) ∧ (1 < ct (0 : Int).toNat → CBK b1f1 b1f2 b1f3 b1f4 b1f5 b1f6 b1f7 b1u0 b1u1 b1u2 b1u3 b1u4 D1) ∧ (∀ (r : Int) , (((bA (ct (0 : Int).toNat) D0 D1 a (-1) r (fun D z => ShA D b cc dd z)))) → Q (some (q1 r)))
def sp_GX11_share : qS := fun av w Q => spr_GX11_share av w (fun r => Q r w)
set_option maxHeartbeats 4000000 in
set_option maxRecDepth 100000 in
theorem m_GX11_share (l : Launch) : q_M l yX11_share cX11_share 6 (some .int) 2 49 sp_GX11_share := by
  refine q_meth (by decide) (fun av w Q h => by obtain ⟨tp, ct, ln, fa, pl, b0f1, b0f2, b0f3, b0f4, b0f5, b0f6, b0f7, b0u0, b0u1, b0u2, b0u3, b0u4, b1f1, b1f2, b1f3, b1f4, b1f5, b1f6, b1f7, b1u0, b1u1, b1u2, b1u3, b1u4, a, b, cc, dd, D0, D1, rfl, rfl, hct, hln, hb0, hf0, hb1, hf1, hr0, hr1, hQ⟩ := h; exact Nat.le_of_ble_eq_true rfl) ?_
  intro p e R s m args below meth c dC dI k g A av w Q hsp oka okw X
  obtain ⟨tp, ct, ln, fa, pl, b0f1, b0f2, b0f3, b0f4, b0f5, b0f6, b0f7, b0u0, b0u1, b0u2, b0u3, b0u4, b1f1, b1f2, b1f3, b1f4, b1f5, b1f6, b1f7, b1u0, b1u1, b1u2, b1u3, b1u4, a, b, cc, dd, D0, D1, rfl, rfl, hct, hln, hb0, hf0, hb1, hf1, hr0, hr1, hQ⟩ := hsp
  have o_a : -2147483648 ≤ a ∧ a ≤ 2147483647 := oka _ (List.mem_of_getElem? (i := 1) rfl)
  have o_b : -2147483648 ≤ b ∧ b ≤ 2147483647 := oka _ (List.mem_of_getElem? (i := 2) rfl)
  have o_cc : -2147483648 ≤ cc ∧ cc ≤ 2147483647 := oka _ (List.mem_of_getElem? (i := 3) rfl)
  have o_dd : -2147483648 ≤ dd ∧ dd ≤ 2147483647 := oka _ (List.mem_of_getElem? (i := 4) rfl)
  refine s_mono (s_GX11_share_0 X (J := fun _ _ _ _ => False) (fun d => s_cutF)) ?_
  rintro lv st w' ⟨rfl, rfl, rfl⟩
  refine Exists.intro [1, 2, 3, 4, 28, 29, 30, 5, 13] (Exists.intro [q2 0, q1 _] (Exists.intro ((wT4_0 _ _ _ _ _)) (And.intro rfl (And.intro rfl (And.intro rfl (And.intro ⟨⟨_, rfl⟩, rfl⟩ ?_))))))
  refine Exists.intro _ (Exists.intro _ (Exists.intro _ (Exists.intro _ (Exists.intro _ (Exists.intro _ (And.intro rfl (And.intro rfl (?_))))))))
  intro z5 h5
  rcases h5 with ⟨rfl, c5⟩ | ⟨rfl, rfl, c5⟩ | ⟨rfl, rfl, c5⟩
  · first | have hD := hr0 c5 | have hD := hr1 c5 | skip
    first | have hu := cb_u0 hD | skip
    exact hQ _ (by first | exact Or.inr ⟨(by have q9 := hct (0 : Int).toNat; omega), rfl⟩ | exact Or.inl ⟨⟨by omega, by omega⟩, Or.inl ⟨rfl, (by first | exact Or.inl ⟨⟨⟨by omega, by omega⟩, ⟨by omega, by omega⟩, by omega⟩, h61⟩ | exact Or.inr ⟨fun q9 => (by obtain ⟨⟨q1, q2⟩, ⟨q3, q4⟩, q5⟩ := q9; omega), rfl⟩)⟩⟩ | exact Or.inl ⟨⟨by omega, by omega⟩, Or.inr ⟨rfl, (by first | exact Or.inl ⟨⟨⟨by omega, by omega⟩, ⟨by omega, by omega⟩, by omega⟩, h61⟩ | exact Or.inr ⟨fun q9 => (by obtain ⟨⟨q1, q2⟩, ⟨q3, q4⟩, q5⟩ := q9; omega), rfl⟩)⟩⟩)
  · first | have hD := hr0 c5 | have hD := hr1 c5 | skip
    first | have hu := cb_u0 hD | skip
    refine Exists.intro [5, 6, 7, 8, 9, 10, 11, 12] (Exists.intro [q2 0, q1 _] (Exists.intro (wB _ _ _ _ _ _ _ _ _ _ _ _) (And.intro rfl (And.intro rfl (And.intro rfl (And.intro ⟨⟨_, rfl⟩, rfl⟩ ?_))))))
    refine Exists.intro _ (Exists.intro _ (Exists.intro _ (Exists.intro _ (Exists.intro _ (Exists.intro _ (Exists.intro _ (Exists.intro _ (Exists.intro _ (Exists.intro _ (Exists.intro _ (Exists.intro _ (Exists.intro _ (And.intro rfl (And.intro rfl (?_)))))))))))))))
    intro z18 h18
    apply And.intro
    · intro h21
      exact hQ _ (by first | exact Or.inr ⟨(by have q9 := hct (0 : Int).toNat; omega), rfl⟩ | exact Or.inl ⟨⟨by omega, by omega⟩, Or.inl ⟨rfl, (by first | exact Or.inl ⟨⟨⟨by omega, by omega⟩, ⟨by omega, by omega⟩, by omega⟩, h61⟩ | exact Or.inr ⟨fun q9 => (by obtain ⟨⟨q1, q2⟩, ⟨q3, q4⟩, q5⟩ := q9; omega), rfl⟩)⟩⟩ | exact Or.inl ⟨⟨by omega, by omega⟩, Or.inr ⟨rfl, (by first | exact Or.inl ⟨⟨⟨by omega, by omega⟩, ⟨by omega, by omega⟩, by omega⟩, h61⟩ | exact Or.inr ⟨fun q9 => (by obtain ⟨⟨q1, q2⟩, ⟨q3, q4⟩, q5⟩ := q9; omega), rfl⟩)⟩⟩)
    · intro h21
      apply And.intro
      · intro h26
        exact hQ _ (by first | exact Or.inr ⟨(by have q9 := hct (0 : Int).toNat; omega), rfl⟩ | exact Or.inl ⟨⟨by omega, by omega⟩, Or.inl ⟨rfl, (by first | exact Or.inl ⟨⟨⟨by omega, by omega⟩, ⟨by omega, by omega⟩, by omega⟩, h61⟩ | exact Or.inr ⟨fun q9 => (by obtain ⟨⟨q1, q2⟩, ⟨q3, q4⟩, q5⟩ := q9; omega), rfl⟩)⟩⟩ | exact Or.inl ⟨⟨by omega, by omega⟩, Or.inr ⟨rfl, (by first | exact Or.inl ⟨⟨⟨by omega, by omega⟩, ⟨by omega, by omega⟩, by omega⟩, h61⟩ | exact Or.inr ⟨fun q9 => (by obtain ⟨⟨q1, q2⟩, ⟨q3, q4⟩, q5⟩ := q9; omega), rfl⟩)⟩⟩)
      · intro h26
        apply And.intro
        · intro h32
          apply And.intro
          · intro h40
            refine Exists.intro [5, 6, 7, 8, 9, 10, 11, 12] (Exists.intro [q2 0, q1 _, q1 _, q1 _] (Exists.intro (wB _ _ _ _ _ _ _ _ _ _ _ _) (And.intro rfl (And.intro rfl (And.intro rfl (And.intro ⟨⟨_, rfl⟩, rfl⟩ ?_))))))
            refine Exists.intro _ (Exists.intro _ (Exists.intro _ (Exists.intro _ (Exists.intro _ (Exists.intro _ (Exists.intro _ (Exists.intro _ (Exists.intro _ (Exists.intro _ (Exists.intro _ (Exists.intro _ (Exists.intro _ (Exists.intro _ (Exists.intro _ (Exists.intro _ (And.intro rfl (And.intro rfl (And.intro (by first | omega | assumption | exact q_rg_up (by assumption) (by omega) | exact q_rg_up (q_rg_up (by assumption) (by omega)) (by omega) | exact q_rg_cpy (by assumption) (by assumption)) (And.intro hD (And.intro (by first | omega | assumption | exact q_rg_up (by assumption) (by omega) | exact q_rg_up (q_rg_up (by assumption) (by omega)) (by omega) | exact q_rg_cpy (by assumption) (by assumption)) (And.intro (by first | omega | assumption | exact q_rg_up (by assumption) (by omega) | exact q_rg_up (q_rg_up (by assumption) (by omega)) (by omega) | exact q_rg_cpy (by assumption) (by assumption)) (?_))))))))))))))))))))))
            intro z61 h61
            exact hQ _ (by first | exact Or.inr ⟨(by have q9 := hct (0 : Int).toNat; omega), rfl⟩ | exact Or.inl ⟨⟨by omega, by omega⟩, Or.inl ⟨rfl, (by first | exact Or.inl ⟨⟨⟨by omega, by omega⟩, ⟨by omega, by omega⟩, by omega⟩, h61⟩ | exact Or.inr ⟨fun q9 => (by obtain ⟨⟨q1, q2⟩, ⟨q3, q4⟩, q5⟩ := q9; omega), rfl⟩)⟩⟩ | exact Or.inl ⟨⟨by omega, by omega⟩, Or.inr ⟨rfl, (by first | exact Or.inl ⟨⟨⟨by omega, by omega⟩, ⟨by omega, by omega⟩, by omega⟩, h61⟩ | exact Or.inr ⟨fun q9 => (by obtain ⟨⟨q1, q2⟩, ⟨q3, q4⟩, q5⟩ := q9; omega), rfl⟩)⟩⟩)
          · intro h40
            refine Exists.intro [5, 6, 7, 8, 9, 10, 11, 12] (Exists.intro [q2 0, q1 _] (Exists.intro (wB _ _ _ _ _ _ _ _ _ _ _ _) (And.intro rfl (And.intro rfl (And.intro rfl (And.intro ⟨⟨_, rfl⟩, rfl⟩ ?_))))))
            refine Exists.intro _ (Exists.intro _ (Exists.intro _ (Exists.intro _ (Exists.intro _ (Exists.intro _ (Exists.intro _ (Exists.intro _ (Exists.intro _ (Exists.intro _ (Exists.intro _ (Exists.intro _ (Exists.intro _ (And.intro rfl (And.intro rfl (?_)))))))))))))))
            intro z47 h47
            apply And.intro
            · intro h50
              refine Exists.intro [5, 6, 7, 8, 9, 10, 11, 12] (Exists.intro [q2 0, q1 _, q1 _, q1 _] (Exists.intro (wB _ _ _ _ _ _ _ _ _ _ _ _) (And.intro rfl (And.intro rfl (And.intro rfl (And.intro ⟨⟨_, rfl⟩, rfl⟩ ?_))))))
              refine Exists.intro _ (Exists.intro _ (Exists.intro _ (Exists.intro _ (Exists.intro _ (Exists.intro _ (Exists.intro _ (Exists.intro _ (Exists.intro _ (Exists.intro _ (Exists.intro _ (Exists.intro _ (Exists.intro _ (Exists.intro _ (Exists.intro _ (Exists.intro _ (And.intro rfl (And.intro rfl (And.intro (by first | omega | assumption | exact q_rg_up (by assumption) (by omega) | exact q_rg_up (q_rg_up (by assumption) (by omega)) (by omega) | exact q_rg_cpy (by assumption) (by assumption)) (And.intro hD (And.intro (by first | omega | assumption | exact q_rg_up (by assumption) (by omega) | exact q_rg_up (q_rg_up (by assumption) (by omega)) (by omega) | exact q_rg_cpy (by assumption) (by assumption)) (And.intro (by first | omega | assumption | exact q_rg_up (by assumption) (by omega) | exact q_rg_up (q_rg_up (by assumption) (by omega)) (by omega) | exact q_rg_cpy (by assumption) (by assumption)) (?_))))))))))))))))))))))
              intro z61 h61
              exact hQ _ (by first | exact Or.inr ⟨(by have q9 := hct (0 : Int).toNat; omega), rfl⟩ | exact Or.inl ⟨⟨by omega, by omega⟩, Or.inl ⟨rfl, (by first | exact Or.inl ⟨⟨⟨by omega, by omega⟩, ⟨by omega, by omega⟩, by omega⟩, h61⟩ | exact Or.inr ⟨fun q9 => (by obtain ⟨⟨q1, q2⟩, ⟨q3, q4⟩, q5⟩ := q9; omega), rfl⟩)⟩⟩ | exact Or.inl ⟨⟨by omega, by omega⟩, Or.inr ⟨rfl, (by first | exact Or.inl ⟨⟨⟨by omega, by omega⟩, ⟨by omega, by omega⟩, by omega⟩, h61⟩ | exact Or.inr ⟨fun q9 => (by obtain ⟨⟨q1, q2⟩, ⟨q3, q4⟩, q5⟩ := q9; omega), rfl⟩)⟩⟩)
            · intro h50
              exact hQ _ (by first | exact Or.inr ⟨(by have q9 := hct (0 : Int).toNat; omega), rfl⟩ | exact Or.inl ⟨⟨by omega, by omega⟩, Or.inl ⟨rfl, (by first | exact Or.inl ⟨⟨⟨by omega, by omega⟩, ⟨by omega, by omega⟩, by omega⟩, h61⟩ | exact Or.inr ⟨fun q9 => (by obtain ⟨⟨q1, q2⟩, ⟨q3, q4⟩, q5⟩ := q9; omega), rfl⟩)⟩⟩ | exact Or.inl ⟨⟨by omega, by omega⟩, Or.inr ⟨rfl, (by first | exact Or.inl ⟨⟨⟨by omega, by omega⟩, ⟨by omega, by omega⟩, by omega⟩, h61⟩ | exact Or.inr ⟨fun q9 => (by obtain ⟨⟨q1, q2⟩, ⟨q3, q4⟩, q5⟩ := q9; omega), rfl⟩)⟩⟩)
        · intro h32
          exact hQ _ (by first | exact Or.inr ⟨(by have q9 := hct (0 : Int).toNat; omega), rfl⟩ | exact Or.inl ⟨⟨by omega, by omega⟩, Or.inl ⟨rfl, (by first | exact Or.inl ⟨⟨⟨by omega, by omega⟩, ⟨by omega, by omega⟩, by omega⟩, h61⟩ | exact Or.inr ⟨fun q9 => (by obtain ⟨⟨q1, q2⟩, ⟨q3, q4⟩, q5⟩ := q9; omega), rfl⟩)⟩⟩ | exact Or.inl ⟨⟨by omega, by omega⟩, Or.inr ⟨rfl, (by first | exact Or.inl ⟨⟨⟨by omega, by omega⟩, ⟨by omega, by omega⟩, by omega⟩, h61⟩ | exact Or.inr ⟨fun q9 => (by obtain ⟨⟨q1, q2⟩, ⟨q3, q4⟩, q5⟩ := q9; omega), rfl⟩)⟩⟩)
  · first | have hD := hr0 c5 | have hD := hr1 c5 | skip
    first | have hu := cb_u0 hD | skip
    refine Exists.intro [13, 14, 15, 16, 17, 18, 19, 20] (Exists.intro [q2 0, q1 _] (Exists.intro (wB _ _ _ _ _ _ _ _ _ _ _ _) (And.intro rfl (And.intro rfl (And.intro rfl (And.intro ⟨⟨_, rfl⟩, rfl⟩ ?_))))))
    refine Exists.intro _ (Exists.intro _ (Exists.intro _ (Exists.intro _ (Exists.intro _ (Exists.intro _ (Exists.intro _ (Exists.intro _ (Exists.intro _ (Exists.intro _ (Exists.intro _ (Exists.intro _ (Exists.intro _ (And.intro rfl (And.intro rfl (?_)))))))))))))))
    intro z18 h18
    apply And.intro
    · intro h21
      exact hQ _ (by first | exact Or.inr ⟨(by have q9 := hct (0 : Int).toNat; omega), rfl⟩ | exact Or.inl ⟨⟨by omega, by omega⟩, Or.inl ⟨rfl, (by first | exact Or.inl ⟨⟨⟨by omega, by omega⟩, ⟨by omega, by omega⟩, by omega⟩, h61⟩ | exact Or.inr ⟨fun q9 => (by obtain ⟨⟨q1, q2⟩, ⟨q3, q4⟩, q5⟩ := q9; omega), rfl⟩)⟩⟩ | exact Or.inl ⟨⟨by omega, by omega⟩, Or.inr ⟨rfl, (by first | exact Or.inl ⟨⟨⟨by omega, by omega⟩, ⟨by omega, by omega⟩, by omega⟩, h61⟩ | exact Or.inr ⟨fun q9 => (by obtain ⟨⟨q1, q2⟩, ⟨q3, q4⟩, q5⟩ := q9; omega), rfl⟩)⟩⟩)
    · intro h21
      apply And.intro
      · intro h26
        exact hQ _ (by first | exact Or.inr ⟨(by have q9 := hct (0 : Int).toNat; omega), rfl⟩ | exact Or.inl ⟨⟨by omega, by omega⟩, Or.inl ⟨rfl, (by first | exact Or.inl ⟨⟨⟨by omega, by omega⟩, ⟨by omega, by omega⟩, by omega⟩, h61⟩ | exact Or.inr ⟨fun q9 => (by obtain ⟨⟨q1, q2⟩, ⟨q3, q4⟩, q5⟩ := q9; omega), rfl⟩)⟩⟩ | exact Or.inl ⟨⟨by omega, by omega⟩, Or.inr ⟨rfl, (by first | exact Or.inl ⟨⟨⟨by omega, by omega⟩, ⟨by omega, by omega⟩, by omega⟩, h61⟩ | exact Or.inr ⟨fun q9 => (by obtain ⟨⟨q1, q2⟩, ⟨q3, q4⟩, q5⟩ := q9; omega), rfl⟩)⟩⟩)
      · intro h26
        apply And.intro
        · intro h32
          apply And.intro
          · intro h40
            refine Exists.intro [13, 14, 15, 16, 17, 18, 19, 20] (Exists.intro [q2 0, q1 _, q1 _, q1 _] (Exists.intro (wB _ _ _ _ _ _ _ _ _ _ _ _) (And.intro rfl (And.intro rfl (And.intro rfl (And.intro ⟨⟨_, rfl⟩, rfl⟩ ?_))))))
            refine Exists.intro _ (Exists.intro _ (Exists.intro _ (Exists.intro _ (Exists.intro _ (Exists.intro _ (Exists.intro _ (Exists.intro _ (Exists.intro _ (Exists.intro _ (Exists.intro _ (Exists.intro _ (Exists.intro _ (Exists.intro _ (Exists.intro _ (Exists.intro _ (And.intro rfl (And.intro rfl (And.intro (by first | omega | assumption | exact q_rg_up (by assumption) (by omega) | exact q_rg_up (q_rg_up (by assumption) (by omega)) (by omega) | exact q_rg_cpy (by assumption) (by assumption)) (And.intro hD (And.intro (by first | omega | assumption | exact q_rg_up (by assumption) (by omega) | exact q_rg_up (q_rg_up (by assumption) (by omega)) (by omega) | exact q_rg_cpy (by assumption) (by assumption)) (And.intro (by first | omega | assumption | exact q_rg_up (by assumption) (by omega) | exact q_rg_up (q_rg_up (by assumption) (by omega)) (by omega) | exact q_rg_cpy (by assumption) (by assumption)) (?_))))))))))))))))))))))
            intro z61 h61
            exact hQ _ (by first | exact Or.inr ⟨(by have q9 := hct (0 : Int).toNat; omega), rfl⟩ | exact Or.inl ⟨⟨by omega, by omega⟩, Or.inl ⟨rfl, (by first | exact Or.inl ⟨⟨⟨by omega, by omega⟩, ⟨by omega, by omega⟩, by omega⟩, h61⟩ | exact Or.inr ⟨fun q9 => (by obtain ⟨⟨q1, q2⟩, ⟨q3, q4⟩, q5⟩ := q9; omega), rfl⟩)⟩⟩ | exact Or.inl ⟨⟨by omega, by omega⟩, Or.inr ⟨rfl, (by first | exact Or.inl ⟨⟨⟨by omega, by omega⟩, ⟨by omega, by omega⟩, by omega⟩, h61⟩ | exact Or.inr ⟨fun q9 => (by obtain ⟨⟨q1, q2⟩, ⟨q3, q4⟩, q5⟩ := q9; omega), rfl⟩)⟩⟩)
          · intro h40
            refine Exists.intro [13, 14, 15, 16, 17, 18, 19, 20] (Exists.intro [q2 0, q1 _] (Exists.intro (wB _ _ _ _ _ _ _ _ _ _ _ _) (And.intro rfl (And.intro rfl (And.intro rfl (And.intro ⟨⟨_, rfl⟩, rfl⟩ ?_))))))
            refine Exists.intro _ (Exists.intro _ (Exists.intro _ (Exists.intro _ (Exists.intro _ (Exists.intro _ (Exists.intro _ (Exists.intro _ (Exists.intro _ (Exists.intro _ (Exists.intro _ (Exists.intro _ (Exists.intro _ (And.intro rfl (And.intro rfl (?_)))))))))))))))
            intro z47 h47
            apply And.intro
            · intro h50
              refine Exists.intro [13, 14, 15, 16, 17, 18, 19, 20] (Exists.intro [q2 0, q1 _, q1 _, q1 _] (Exists.intro (wB _ _ _ _ _ _ _ _ _ _ _ _) (And.intro rfl (And.intro rfl (And.intro rfl (And.intro ⟨⟨_, rfl⟩, rfl⟩ ?_))))))
              refine Exists.intro _ (Exists.intro _ (Exists.intro _ (Exists.intro _ (Exists.intro _ (Exists.intro _ (Exists.intro _ (Exists.intro _ (Exists.intro _ (Exists.intro _ (Exists.intro _ (Exists.intro _ (Exists.intro _ (Exists.intro _ (Exists.intro _ (Exists.intro _ (And.intro rfl (And.intro rfl (And.intro (by first | omega | assumption | exact q_rg_up (by assumption) (by omega) | exact q_rg_up (q_rg_up (by assumption) (by omega)) (by omega) | exact q_rg_cpy (by assumption) (by assumption)) (And.intro hD (And.intro (by first | omega | assumption | exact q_rg_up (by assumption) (by omega) | exact q_rg_up (q_rg_up (by assumption) (by omega)) (by omega) | exact q_rg_cpy (by assumption) (by assumption)) (And.intro (by first | omega | assumption | exact q_rg_up (by assumption) (by omega) | exact q_rg_up (q_rg_up (by assumption) (by omega)) (by omega) | exact q_rg_cpy (by assumption) (by assumption)) (?_))))))))))))))))))))))
              intro z61 h61
              exact hQ _ (by first | exact Or.inr ⟨(by have q9 := hct (0 : Int).toNat; omega), rfl⟩ | exact Or.inl ⟨⟨by omega, by omega⟩, Or.inl ⟨rfl, (by first | exact Or.inl ⟨⟨⟨by omega, by omega⟩, ⟨by omega, by omega⟩, by omega⟩, h61⟩ | exact Or.inr ⟨fun q9 => (by obtain ⟨⟨q1, q2⟩, ⟨q3, q4⟩, q5⟩ := q9; omega), rfl⟩)⟩⟩ | exact Or.inl ⟨⟨by omega, by omega⟩, Or.inr ⟨rfl, (by first | exact Or.inl ⟨⟨⟨by omega, by omega⟩, ⟨by omega, by omega⟩, by omega⟩, h61⟩ | exact Or.inr ⟨fun q9 => (by obtain ⟨⟨q1, q2⟩, ⟨q3, q4⟩, q5⟩ := q9; omega), rfl⟩)⟩⟩)
            · intro h50
              exact hQ _ (by first | exact Or.inr ⟨(by have q9 := hct (0 : Int).toNat; omega), rfl⟩ | exact Or.inl ⟨⟨by omega, by omega⟩, Or.inl ⟨rfl, (by first | exact Or.inl ⟨⟨⟨by omega, by omega⟩, ⟨by omega, by omega⟩, by omega⟩, h61⟩ | exact Or.inr ⟨fun q9 => (by obtain ⟨⟨q1, q2⟩, ⟨q3, q4⟩, q5⟩ := q9; omega), rfl⟩)⟩⟩ | exact Or.inl ⟨⟨by omega, by omega⟩, Or.inr ⟨rfl, (by first | exact Or.inl ⟨⟨⟨by omega, by omega⟩, ⟨by omega, by omega⟩, by omega⟩, h61⟩ | exact Or.inr ⟨fun q9 => (by obtain ⟨⟨q1, q2⟩, ⟨q3, q4⟩, q5⟩ := q9; omega), rfl⟩)⟩⟩)
        · intro h32
          exact hQ _ (by first | exact Or.inr ⟨(by have q9 := hct (0 : Int).toNat; omega), rfl⟩ | exact Or.inl ⟨⟨by omega, by omega⟩, Or.inl ⟨rfl, (by first | exact Or.inl ⟨⟨⟨by omega, by omega⟩, ⟨by omega, by omega⟩, by omega⟩, h61⟩ | exact Or.inr ⟨fun q9 => (by obtain ⟨⟨q1, q2⟩, ⟨q3, q4⟩, q5⟩ := q9; omega), rfl⟩)⟩⟩ | exact Or.inl ⟨⟨by omega, by omega⟩, Or.inr ⟨rfl, (by first | exact Or.inl ⟨⟨⟨by omega, by omega⟩, ⟨by omega, by omega⟩, by omega⟩, h61⟩ | exact Or.inr ⟨fun q9 => (by obtain ⟨⟨q1, q2⟩, ⟨q3, q4⟩, q5⟩ := q9; omega), rfl⟩)⟩⟩)
