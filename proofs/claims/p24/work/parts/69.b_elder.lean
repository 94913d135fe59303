/-! ===== elder, the reference ===== -/
def ElI (f : Nat → Int) (B : Nat) (x y p best least : Int) : Prop := (best = -1 ∧ least = 1000000 ∧ ∀ q i j : Int, 0 ≤ q → q < p → ScR f B x q i → ScR f B y q j → i = -1 ∨ j = -1) ∨ (0 ≤ best ∧ best < p ∧ ∃ i j : Int, ScR f B x best i ∧ ScR f B y best j ∧ (0 ≤ i ∧ 0 ≤ j ∧ i ≤ 7 ∧ j ≤ 7) ∧ least = i + j ∧ ∀ q i' j' : Int, 0 ≤ q → q < p → ScR f B x q i' → ScR f B y q j' → i' = -1 ∨ j' = -1 ∨ i + j ≤ i' + j')
theorem ElI_0 {f : Nat → Int} {B : Nat} {x y : Int} : ElI f B x y 0 (-1) 1000000 := Or.inl ⟨rfl, rfl, fun q i j h1 h2 => by omega⟩
theorem ElI_le {f : Nat → Int} {B : Nat} {x y p best least : Int} (h : ElI f B x y p best least) : 0 ≤ least ∧ least ≤ 1000000 := by
  rcases h with ⟨-, h, -⟩ | ⟨-, -, i, j, -, -, h1, h2, -⟩ <;> omega
theorem ScR_rg {f : Nat → Int} {b : Nat} {a t r : Int} (h : ScR f b a t r) : -1 ≤ r ∧ r ≤ 7 := by
  rcases h with ⟨h1, -⟩ | ⟨h1, -⟩ <;> omega
theorem ElI_n {f : Nat → Int} {B : Nat} {x y p p' best least one other : Int} (h : ElI f B x y p best least) (h1 : ScR f B x p one) (h2 : ScR f B y p other) (hn : one = -1 ∨ other = -1) (hp : p' = p + 1) : ElI f B x y p' best least := by
  subst hp
  rcases h with ⟨a1, a2, a3⟩ | ⟨a1, a2, i, j, a3, a4, a5, a6, a7⟩
  · refine Or.inl ⟨a1, a2, fun q i j b1 b2 b3 b4 => ?_⟩
    by_cases c : q < p
    · exact a3 q i j b1 c b3 b4
    · have e : q = p := by omega
      subst e
      rw [ScR_u b3 h1, ScR_u b4 h2]; exact hn
  · refine Or.inr ⟨a1, by omega, i, j, a3, a4, a5, a6, fun q i' j' b1 b2 b3 b4 => ?_⟩
    by_cases c : q < p
    · exact a7 q i' j' b1 c b3 b4
    · have e : q = p := by omega
      subst e
      have e1 := ScR_u b3 h1
      have e2 := ScR_u b4 h2
      omega
theorem ElI_l {f : Nat → Int} {B : Nat} {x y p p' best least one other l : Int} (h : ElI f B x y p best least) (h0 : 0 ≤ p) (h1 : ScR f B x p one) (h2 : ScR f B y p other) (hn : ¬ one = -1 ∧ ¬ other = -1) (hl : one + other < least) (e : l = one + other) (hp : p' = p + 1) : ElI f B x y p' p l := by
  subst hp
  have r1 := ScR_rg h1
  have r2 := ScR_rg h2
  refine Or.inr ⟨h0, by omega, one, other, h1, h2, by omega, e, fun q i' j' b1 b2 b3 b4 => ?_⟩
  have r3 := ScR_rg b3
  have r4 := ScR_rg b4
  by_cases c : q < p
  · rcases h with ⟨a1, a2, a3⟩ | ⟨a1, a2, i, j, a3, a4, a5, a6, a7⟩
    · have := a3 q i' j' b1 c b3 b4; omega
    · have := a7 q i' j' b1 c b3 b4; omega
  · have e : q = p := by omega
    subst e
    have e1 := ScR_u b3 h1
    have e2 := ScR_u b4 h2
    omega
theorem ElI_g {f : Nat → Int} {B : Nat} {x y p p' best least one other : Int} (h : ElI f B x y p best least) (h1 : ScR f B x p one) (h2 : ScR f B y p other) (hn : ¬ one = -1 ∧ ¬ other = -1) (hl : ¬ one + other < least) (hp : p' = p + 1) : ElI f B x y p' best least := by
  subst hp
  have r1 := ScR_rg h1
  have r2 := ScR_rg h2
  rcases h with ⟨a1, a2, a3⟩ | ⟨a1, a2, i, j, a3, a4, a5, a6, a7⟩
  · exfalso; omega
  · refine Or.inr ⟨a1, by omega, i, j, a3, a4, a5, a6, fun q i' j' b1 b2 b3 b4 => ?_⟩
    by_cases c : q < p
    · exact a7 q i' j' b1 c b3 b4
    · have e : q = p := by omega
      subst e
      have e1 := ScR_u b3 h1
      have e2 := ScR_u b4 h2
      omega
def ElM (f : Nat → Int) (a b c r : Int) : Prop := (0 ≤ ofR f a 0 ∧ ofR f a 0 ≤ 8) ∧ (((0 ≤ b ∧ b < ofR f a 0) ∧ 0 ≤ c ∧ c < ofR f a 0) ∧ (∃ l : Int, ElI f (75 * a.toNat) b c (ofR f a 0) r l) ∨ ¬ ((0 ≤ b ∧ b < ofR f a 0) ∧ 0 ≤ c ∧ c < ofR f a 0) ∧ r = -1)

theorem dG12_elder_0 : decode cX12_elder 0 = .ok (.aload_n 0, 1) := by decide +kernel
theorem dG12_elder_1 : decode cX12_elder 1 = .ok (.iconst 0, 1) := by decide +kernel
theorem dG12_elder_2 : decode cX12_elder 2 = .ok (.putfield 88, 3) := by decide +kernel
theorem dG12_elder_5 : decode cX12_elder 5 = .ok (.aload_n 0, 1) := by decide +kernel
theorem dG12_elder_6 : decode cX12_elder 6 = .ok (.iload_n 1, 1) := by decide +kernel
theorem dG12_elder_7 : decode cX12_elder 7 = .ok (.invokevirtual 306, 3) := by decide +kernel
theorem dG12_elder_10 : decode cX12_elder 10 = .ok (.ifCond .eq 19, 3) := by decide +kernel
theorem dG12_elder_13 : decode cX12_elder 13 = .ok (.aload_n 0, 1) := by decide +kernel
theorem dG12_elder_14 : decode cX12_elder 14 = .ok (.iload_n 2, 1) := by decide +kernel
theorem dG12_elder_15 : decode cX12_elder 15 = .ok (.invokevirtual 309, 3) := by decide +kernel
theorem dG12_elder_18 : decode cX12_elder 18 = .ok (.ifCond .eq 11, 3) := by decide +kernel
theorem dG12_elder_21 : decode cX12_elder 21 = .ok (.aload_n 0, 1) := by decide +kernel
theorem dG12_elder_22 : decode cX12_elder 22 = .ok (.iload_n 3, 1) := by decide +kernel
theorem dG12_elder_23 : decode cX12_elder 23 = .ok (.invokevirtual 309, 3) := by decide +kernel
theorem dG12_elder_26 : decode cX12_elder 26 = .ok (.ifCond .ne 5, 3) := by decide +kernel
theorem dG12_elder_29 : decode cX12_elder 29 = .ok (.iconst (-1), 1) := by decide +kernel
theorem dG12_elder_30 : decode cX12_elder 30 = .ok (.ireturn, 1) := by decide +kernel
theorem dG12_elder_31 : decode cX12_elder 31 = .ok (.iconst (-1), 1) := by decide +kernel
theorem dG12_elder_32 : decode cX12_elder 32 = .ok (.istore 4, 2) := by decide +kernel
theorem dG12_elder_34 : decode cX12_elder 34 = .ok (.ldc_w 376, 3) := by decide +kernel
theorem dG12_elder_37 : decode cX12_elder 37 = .ok (.istore 5, 2) := by decide +kernel
theorem dG12_elder_39 : decode cX12_elder 39 = .ok (.iconst 0, 1) := by decide +kernel
theorem dG12_elder_40 : decode cX12_elder 40 = .ok (.istore 6, 2) := by decide +kernel
theorem dG12_elder_42 : decode cX12_elder 42 = .ok (.iload 6, 2) := by decide +kernel
theorem dG12_elder_44 : decode cX12_elder 44 = .ok (.aload_n 0, 1) := by decide +kernel
theorem dG12_elder_45 : decode cX12_elder 45 = .ok (.getfield 303, 3) := by decide +kernel
theorem dG12_elder_48 : decode cX12_elder 48 = .ok (.if_icmp .ge 77, 3) := by decide +kernel
theorem dG12_elder_51 : decode cX12_elder 51 = .ok (.aload_n 0, 1) := by decide +kernel
theorem dG12_elder_52 : decode cX12_elder 52 = .ok (.iload_n 2, 1) := by decide +kernel
theorem dG12_elder_53 : decode cX12_elder 53 = .ok (.iload 6, 2) := by decide +kernel
theorem dG12_elder_55 : decode cX12_elder 55 = .ok (.invokevirtual 425, 3) := by decide +kernel
theorem dG12_elder_58 : decode cX12_elder 58 = .ok (.istore 7, 2) := by decide +kernel
theorem dG12_elder_60 : decode cX12_elder 60 = .ok (.aload_n 0, 1) := by decide +kernel
theorem dG12_elder_61 : decode cX12_elder 61 = .ok (.iload_n 3, 1) := by decide +kernel
theorem dG12_elder_62 : decode cX12_elder 62 = .ok (.iload 6, 2) := by decide +kernel
theorem dG12_elder_64 : decode cX12_elder 64 = .ok (.invokevirtual 425, 3) := by decide +kernel
theorem dG12_elder_67 : decode cX12_elder 67 = .ok (.istore 8, 2) := by decide +kernel
theorem dG12_elder_69 : decode cX12_elder 69 = .ok (.iload 7, 2) := by decide +kernel
theorem dG12_elder_71 : decode cX12_elder 71 = .ok (.iconst (-1), 1) := by decide +kernel
theorem dG12_elder_72 : decode cX12_elder 72 = .ok (.if_icmp .eq 9, 3) := by decide +kernel
theorem dG12_elder_75 : decode cX12_elder 75 = .ok (.iload 8, 2) := by decide +kernel
theorem dG12_elder_77 : decode cX12_elder 77 = .ok (.iconst (-1), 1) := by decide +kernel
theorem dG12_elder_78 : decode cX12_elder 78 = .ok (.if_icmp .ne 9, 3) := by decide +kernel
theorem dG12_elder_81 : decode cX12_elder 81 = .ok (.ldc_w 376, 3) := by decide +kernel
theorem dG12_elder_84 : decode cX12_elder 84 = .ok (.goto 8, 3) := by decide +kernel
theorem dG12_elder_87 : decode cX12_elder 87 = .ok (.iload 7, 2) := by decide +kernel
theorem dG12_elder_89 : decode cX12_elder 89 = .ok (.iload 8, 2) := by decide +kernel
theorem dG12_elder_91 : decode cX12_elder 91 = .ok (.iadd, 1) := by decide +kernel
theorem dG12_elder_92 : decode cX12_elder 92 = .ok (.istore 9, 2) := by decide +kernel
theorem dG12_elder_94 : decode cX12_elder 94 = .ok (.iload 9, 2) := by decide +kernel
theorem dG12_elder_96 : decode cX12_elder 96 = .ok (.iload 5, 2) := by decide +kernel
theorem dG12_elder_98 : decode cX12_elder 98 = .ok (.if_icmp .ge 8, 3) := by decide +kernel
theorem dG12_elder_101 : decode cX12_elder 101 = .ok (.iload 6, 2) := by decide +kernel
theorem dG12_elder_103 : decode cX12_elder 103 = .ok (.goto 5, 3) := by decide +kernel
theorem dG12_elder_106 : decode cX12_elder 106 = .ok (.iload 4, 2) := by decide +kernel
theorem dG12_elder_108 : decode cX12_elder 108 = .ok (.istore 4, 2) := by decide +kernel
theorem dG12_elder_110 : decode cX12_elder 110 = .ok (.iload 5, 2) := by decide +kernel
theorem dG12_elder_112 : decode cX12_elder 112 = .ok (.iload 9, 2) := by decide +kernel
theorem dG12_elder_114 : decode cX12_elder 114 = .ok (.invokestatic 327, 3) := by decide +kernel
theorem dG12_elder_117 : decode cX12_elder 117 = .ok (.istore 5, 2) := by decide +kernel
theorem dG12_elder_119 : decode cX12_elder 119 = .ok (.iinc 6 1, 3) := by decide +kernel
theorem dG12_elder_122 : decode cX12_elder 122 = .ok (.goto (-80), 3) := by decide +kernel
theorem dG12_elder_125 : decode cX12_elder 125 = .ok (.iload 4, 2) := by decide +kernel
theorem dG12_elder_127 : decode cX12_elder 127 = .ok (.ireturn, 1) := by decide +kernel
def is_G12_elder : Nat → List Nat := fun d => if d = 42 then [0, 2, 3, 4, 5, 6] else []
set_option maxRecDepth 100000 in
def b_G12_elder_108 (J : Nat → List qV → List qV → qW → Prop) (Q : qR) : qK := x_istore 4 (x_iload 5 (x_iload 9 (x_callr none 2 spr_X12_lesser (x_istore 5 (x_iinc 6 1 (x_cut [0, 2, 3, 4, 5, 6] (J 42)))))))
set_option maxRecDepth 100000 in
theorem s_G12_elder_108 {p : Program} {l : Launch} {e : Env} {R : Room} {s : State} {m : MethodId} {args : Array Value} {below : List Frame} {meth : Method} {c : Code} {nW : Nat} {dC : Nat → ClassId} {dI : Nat → Nat → Nat} {k : Nat → ClassId} {g : Nat → Nat} {A : Nat → Prop} {J : Nat → List qV → List qV → qW → Prop} {Q : qR} (X : q_X p R s m args meth c cX12_elder 10 nW 3 65 RX12 (some .int) dC dI k g A) (hJ : ∀ d : Nat, q_Sd p l e R s m args below meth c 10 nW dC dI k g A (MQ below (q_post (dC, dI) k g nW Q A) args s 0 0 A) d (x_cut (is_G12_elder d) (J d))) : q_Sd p l e R s m args below meth c 10 nW dC dI k g A (MQ below (q_post (dC, dI) k g nW Q A) args s 0 0 A) 108 (b_G12_elder_108 J Q) := by
  unfold b_G12_elder_108
  refine s_istore X (by decide) dG12_elder_108 ?_
  refine s_iload X dG12_elder_110 ?_
  refine s_iload X dG12_elder_112 ?_
  refine s_callSr X (m_X12_lesser l) tw_1239 tw_1240 tw_134 tw_1241 (by decide +kernel) ⟨by decide, by decide⟩ dG12_elder_114 ?_
  refine s_istore X (by decide) dG12_elder_117 ?_
  refine s_iinc X (by decide) dG12_elder_119 ?_
  refine s_goto X (tgt := 42) dG12_elder_122 (by decide) ?_
  exact hJ 42
set_option maxRecDepth 100000 in
def b_G12_elder_92 (J : Nat → List qV → List qV → qW → Prop) (Q : qR) : qK := x_istore 9 (x_iload 9 (x_iload 5 (x_icmp_ge (x_iload 4 (b_G12_elder_108 J Q)) (x_iload 6 (b_G12_elder_108 J Q)))))
set_option maxRecDepth 100000 in
theorem s_G12_elder_92 {p : Program} {l : Launch} {e : Env} {R : Room} {s : State} {m : MethodId} {args : Array Value} {below : List Frame} {meth : Method} {c : Code} {nW : Nat} {dC : Nat → ClassId} {dI : Nat → Nat → Nat} {k : Nat → ClassId} {g : Nat → Nat} {A : Nat → Prop} {J : Nat → List qV → List qV → qW → Prop} {Q : qR} (X : q_X p R s m args meth c cX12_elder 10 nW 3 65 RX12 (some .int) dC dI k g A) (hJ : ∀ d : Nat, q_Sd p l e R s m args below meth c 10 nW dC dI k g A (MQ below (q_post (dC, dI) k g nW Q A) args s 0 0 A) d (x_cut (is_G12_elder d) (J d))) : q_Sd p l e R s m args below meth c 10 nW dC dI k g A (MQ below (q_post (dC, dI) k g nW Q A) args s 0 0 A) 92 (b_G12_elder_92 J Q) := by
  unfold b_G12_elder_92
  refine s_istore X (by decide) dG12_elder_92 ?_
  refine s_iload X dG12_elder_94 ?_
  refine s_iload X dG12_elder_96 ?_
  refine s_icmp_ge X (tgt := 106) dG12_elder_98 (by decide) ?_ ?_
  · refine s_iload X dG12_elder_106 ?_
    exact s_G12_elder_108 X hJ
  · refine s_iload X dG12_elder_101 ?_
    refine s_goto X (tgt := 108) dG12_elder_103 (by decide) ?_
    exact s_G12_elder_108 X hJ
set_option maxRecDepth 100000 in
def b_G12_elder_81 (J : Nat → List qV → List qV → qW → Prop) (Q : qR) : qK := x_int 1000000 (b_G12_elder_92 J Q)
set_option maxRecDepth 100000 in
theorem s_G12_elder_81 {p : Program} {l : Launch} {e : Env} {R : Room} {s : State} {m : MethodId} {args : Array Value} {below : List Frame} {meth : Method} {c : Code} {nW : Nat} {dC : Nat → ClassId} {dI : Nat → Nat → Nat} {k : Nat → ClassId} {g : Nat → Nat} {A : Nat → Prop} {J : Nat → List qV → List qV → qW → Prop} {Q : qR} (X : q_X p R s m args meth c cX12_elder 10 nW 3 65 RX12 (some .int) dC dI k g A) (hJ : ∀ d : Nat, q_Sd p l e R s m args below meth c 10 nW dC dI k g A (MQ below (q_post (dC, dI) k g nW Q A) args s 0 0 A) d (x_cut (is_G12_elder d) (J d))) : q_Sd p l e R s m args below meth c 10 nW dC dI k g A (MQ below (q_post (dC, dI) k g nW Q A) args s 0 0 A) 81 (b_G12_elder_81 J Q) := by
  unfold b_G12_elder_81
  refine s_ldcw X ⟨by decide, by decide⟩ tw_1271 dG12_elder_81 ?_
  refine s_goto X (tgt := 92) dG12_elder_84 (by decide) ?_
  exact s_G12_elder_92 X hJ
set_option maxRecDepth 100000 in
def b_G12_elder_42 (J : Nat → List qV → List qV → qW → Prop) (Q : qR) : qK := x_iload 6 (x_aload 0 (x_get 12 25 (x_icmp_ge (x_iload 4 (x_iret Q)) (x_aload 0 (x_iload 2 (x_iload 6 (x_callr (some 12) 3 spr_G12_stepsUp (x_istore 7 (x_aload 0 (x_iload 3 (x_iload 6 (x_callr (some 12) 3 spr_G12_stepsUp (x_istore 8 (x_iload 7 (x_int (-1) (x_icmp_eq (b_G12_elder_81 J Q) (x_iload 8 (x_int (-1) (x_icmp_ne (x_iload 7 (x_iload 8 (x_iadd (b_G12_elder_92 J Q)))) (b_G12_elder_81 J Q))))))))))))))))))))
set_option maxRecDepth 100000 in
theorem s_G12_elder_42 {p : Program} {l : Launch} {e : Env} {R : Room} {s : State} {m : MethodId} {args : Array Value} {below : List Frame} {meth : Method} {c : Code} {nW : Nat} {dC : Nat → ClassId} {dI : Nat → Nat → Nat} {k : Nat → ClassId} {g : Nat → Nat} {A : Nat → Prop} {J : Nat → List qV → List qV → qW → Prop} {Q : qR} (X : q_X p R s m args meth c cX12_elder 10 nW 3 65 RX12 (some .int) dC dI k g A) (hJ : ∀ d : Nat, q_Sd p l e R s m args below meth c 10 nW dC dI k g A (MQ below (q_post (dC, dI) k g nW Q A) args s 0 0 A) d (x_cut (is_G12_elder d) (J d))) : q_Sd p l e R s m args below meth c 10 nW dC dI k g A (MQ below (q_post (dC, dI) k g nW Q A) args s 0 0 A) 42 (b_G12_elder_42 J Q) := by
  unfold b_G12_elder_42
  refine s_iload X dG12_elder_42 ?_
  refine s_aload_n X rfl dG12_elder_44 ?_
  refine s_get X (T := TX12) (C := RX12) (N := 45) tu_X12 rfl (by decide) tw_1022 dG12_elder_45 ?_
  refine s_icmp_ge X (tgt := 125) dG12_elder_48 (by decide) ?_ ?_
  · refine s_iload X dG12_elder_125 ?_
    exact s_iret X dG12_elder_127
  · refine s_aload_n X rfl dG12_elder_51 ?_
    refine s_iload_n X rfl dG12_elder_52 ?_
    refine s_iload X dG12_elder_53 ?_
    refine s_callVr X (m_G12_stepsUp l) tw_1340 tw_1341 tw_1616 tw_134 tw_1342 rfl (by decide +kernel) ⟨by decide, by decide⟩ dG12_elder_55 ?_
    refine s_istore X (by decide) dG12_elder_58 ?_
    refine s_aload_n X rfl dG12_elder_60 ?_
    refine s_iload_n X rfl dG12_elder_61 ?_
    refine s_iload X dG12_elder_62 ?_
    refine s_callVr X (m_G12_stepsUp l) tw_1340 tw_1341 tw_1616 tw_134 tw_1342 rfl (by decide +kernel) ⟨by decide, by decide⟩ dG12_elder_64 ?_
    refine s_istore X (by decide) dG12_elder_67 ?_
    refine s_iload X dG12_elder_69 ?_
    refine s_iconst X ⟨by decide, by decide⟩ dG12_elder_71 ?_
    refine s_icmp_eq X (tgt := 81) dG12_elder_72 (by decide) ?_ ?_
    · exact s_G12_elder_81 X hJ
    · refine s_iload X dG12_elder_75 ?_
      refine s_iconst X ⟨by decide, by decide⟩ dG12_elder_77 ?_
      refine s_icmp_ne X (tgt := 87) dG12_elder_78 (by decide) ?_ ?_
      · refine s_iload X dG12_elder_87 ?_
        refine s_iload X dG12_elder_89 ?_
        refine s_iadd X dG12_elder_91 ?_
        exact s_G12_elder_92 X hJ
      · exact s_G12_elder_81 X hJ
set_option maxRecDepth 100000 in
def b_G12_elder_29 (J : Nat → List qV → List qV → qW → Prop) (Q : qR) : qK := x_int (-1) (x_iret Q)
set_option maxRecDepth 100000 in
theorem s_G12_elder_29 {p : Program} {l : Launch} {e : Env} {R : Room} {s : State} {m : MethodId} {args : Array Value} {below : List Frame} {meth : Method} {c : Code} {nW : Nat} {dC : Nat → ClassId} {dI : Nat → Nat → Nat} {k : Nat → ClassId} {g : Nat → Nat} {A : Nat → Prop} {J : Nat → List qV → List qV → qW → Prop} {Q : qR} (X : q_X p R s m args meth c cX12_elder 10 nW 3 65 RX12 (some .int) dC dI k g A) (hJ : ∀ d : Nat, q_Sd p l e R s m args below meth c 10 nW dC dI k g A (MQ below (q_post (dC, dI) k g nW Q A) args s 0 0 A) d (x_cut (is_G12_elder d) (J d))) : q_Sd p l e R s m args below meth c 10 nW dC dI k g A (MQ below (q_post (dC, dI) k g nW Q A) args s 0 0 A) 29 (b_G12_elder_29 J Q) := by
  unfold b_G12_elder_29
  refine s_iconst X ⟨by decide, by decide⟩ dG12_elder_29 ?_
  exact s_iret X dG12_elder_30
set_option maxRecDepth 100000 in
def b_G12_elder_0 (J : Nat → List qV → List qV → qW → Prop) (Q : qR) : qK := x_aload 0 (x_int 0 (x_put 12 0 q_oki (x_nw (x_aload 0 (x_iload 1 (x_call (some 12) 2 sp_G12_hand (x_nw (x_if_eq (b_G12_elder_29 J Q) (x_aload 0 (x_iload 2 (x_callr (some 12) 2 spr_X12_isPerson (x_if_eq (b_G12_elder_29 J Q) (x_aload 0 (x_iload 3 (x_callr (some 12) 2 spr_X12_isPerson (x_if_ne (x_int (-1) (x_istore 4 (x_int 1000000 (x_istore 5 (x_int 0 (x_istore 6 (x_cut [0, 2, 3, 4, 5, 6] (J 42)))))))) (b_G12_elder_29 J Q)))))))))))))))))
set_option maxRecDepth 100000 in
theorem s_G12_elder_0 {p : Program} {l : Launch} {e : Env} {R : Room} {s : State} {m : MethodId} {args : Array Value} {below : List Frame} {meth : Method} {c : Code} {nW : Nat} {dC : Nat → ClassId} {dI : Nat → Nat → Nat} {k : Nat → ClassId} {g : Nat → Nat} {A : Nat → Prop} {J : Nat → List qV → List qV → qW → Prop} {Q : qR} (X : q_X p R s m args meth c cX12_elder 10 nW 3 65 RX12 (some .int) dC dI k g A) (hJ : ∀ d : Nat, q_Sd p l e R s m args below meth c 10 nW dC dI k g A (MQ below (q_post (dC, dI) k g nW Q A) args s 0 0 A) d (x_cut (is_G12_elder d) (J d))) : q_Sd p l e R s m args below meth c 10 nW dC dI k g A (MQ below (q_post (dC, dI) k g nW Q A) args s 0 0 A) 0 (b_G12_elder_0 J Q) := by
  unfold b_G12_elder_0
  refine s_aload_n X rfl dG12_elder_0 ?_
  refine s_iconst X ⟨by decide, by decide⟩ dG12_elder_1 ?_
  refine s_put X (T := TX12) (C := RX12) (N := 45) tu_X12 tyX12_ok nmX12 rfl (by decide) tw_997 rfl (by decide +kernel) q_oki_t dG12_elder_2 ?_
  refine s_nw ?_
  refine s_aload_n X rfl dG12_elder_5 ?_
  refine s_iload_n X rfl dG12_elder_6 ?_
  refine s_callV X (m_G12_hand l) tw_1186 tw_1187 tw_1585 tw_134 tw_1188 rfl (by decide +kernel) ⟨by decide, by decide⟩ dG12_elder_7 ?_
  refine s_nw ?_
  refine s_if_eq X (tgt := 29) dG12_elder_10 (by decide) ?_ ?_
  · exact s_G12_elder_29 X hJ
  · refine s_aload_n X rfl dG12_elder_13 ?_
    refine s_iload_n X rfl dG12_elder_14 ?_
    refine s_callVr X (m_X12_isPerson l) tw_1192 tw_1193 tw_1591 tw_134 tw_1194 rfl (by decide +kernel) ⟨by decide, by decide⟩ dG12_elder_15 ?_
    refine s_if_eq X (tgt := 29) dG12_elder_18 (by decide) ?_ ?_
    · exact s_G12_elder_29 X hJ
    · refine s_aload_n X rfl dG12_elder_21 ?_
      refine s_iload_n X rfl dG12_elder_22 ?_
      refine s_callVr X (m_X12_isPerson l) tw_1192 tw_1193 tw_1591 tw_134 tw_1194 rfl (by decide +kernel) ⟨by decide, by decide⟩ dG12_elder_23 ?_
      refine s_if_ne X (tgt := 31) dG12_elder_26 (by decide) ?_ ?_
      · refine s_iconst X ⟨by decide, by decide⟩ dG12_elder_31 ?_
        refine s_istore X (by decide) dG12_elder_32 ?_
        refine s_ldcw X ⟨by decide, by decide⟩ tw_1271 dG12_elder_34 ?_
        refine s_istore X (by decide) dG12_elder_37 ?_
        refine s_iconst X ⟨by decide, by decide⟩ dG12_elder_39 ?_
        refine s_istore X (by decide) dG12_elder_40 ?_
        exact hJ 42
      · exact s_G12_elder_29 X hJ

def sp_G12_elder : qS := fun av w Q => ∃ (mco : Int) (mre : Int) (mle : Int) (mbe : Int) (mso : Int) (mva : Int) (mwo : Int) (mwr : Int) (mlf : Int) (mlp : Int) (mfp : Int) (mfd : Int) (mgo : Int) (mbo : Int) (mpe : Int) (mye : Int) (mpr : Int) (mld : Int) (msi : Int) (mse : Int) (mn : Nat → Int) (bs : Nat → Int) (a : Int) (b : Int) (cc : Int), av = [q2 0, q1 a, q1 b, q1 cc] ∧ w = [.inr (12, [q1 mco, q2 3, q2 4, q2 5, q2 6, q2 1, q2 2, q2 7, q2 8, q2 9, q1 mre, q1 mle, q1 mbe, q1 mso, q1 mva, q3 mwo, q1 mwr, q1 mlf, q1 mlp, q2 10, q2 11, q1 mfp, q1 mfd, q1 mgo, q1 mbo, q1 mpe, q1 mye, q2 12, q1 mpr, q2 13, q2 14, q2 15, q2 16, q1 mld, q2 17, q1 msi, q2 18, q2 19, q2 20, q2 21, q2 22, q1 mse, q2 23, q2 24, q2 25]), .inl (0, 16, .inl mn), .inl (0, 600, .inl bs)] ∧ (q_rg 0 2 mn) ∧ (BI bs) ∧ (∀ (r : Int) (x_mco : Int) (x_mbo : Int) (x_mpe : Int), ((0 ≤ a ∧ a < mn (0 : Int).toNat) ∧ ElM bs a b cc r ∨ (¬ (0 ≤ a ∧ a < mn (0 : Int).toNat)) ∧ r = -1) → Q (some (q1 r)) ([.inr (12, [q1 x_mco, q2 3, q2 4, q2 5, q2 6, q2 1, q2 2, q2 7, q2 8, q2 9, q1 mre, q1 mle, q1 mbe, q1 mso, q1 mva, q3 mwo, q1 mwr, q1 mlf, q1 mlp, q2 10, q2 11, q1 mfp, q1 mfd, q1 mgo, q1 x_mbo, q1 x_mpe, q1 mye, q2 12, q1 mpr, q2 13, q2 14, q2 15, q2 16, q1 mld, q2 17, q1 msi, q2 18, q2 19, q2 20, q2 21, q2 22, q1 mse, q2 23, q2 24, q2 25]), .inl (0, 16, .inl mn), .inl (0, 600, .inl bs)]))
def I_G12_elder (mco : Int) (mre : Int) (mle : Int) (mbe : Int) (mso : Int) (mva : Int) (mwo : Int) (mwr : Int) (mlf : Int) (mlp : Int) (mfp : Int) (mfd : Int) (mgo : Int) (mbo : Int) (mpe : Int) (mye : Int) (mpr : Int) (mld : Int) (msi : Int) (mse : Int) (mn : Nat → Int) (bs : Nat → Int) (a : Int) (b : Int) (cc : Int) : Nat → Nat → List qV → List qV → qW → Prop := fun dz mz vz sz wz => if dz = 42 then (∃ (y_mco : Int) (y_mbo : Int) (y_mpe : Int) (v4 : Int) (v5 : Int) (v6 : Int), vz = [q2 0, q1 b, q1 cc, q1 v4, q1 v5, q1 v6] ∧ sz = [] ∧ wz = [.inr (12, [q1 y_mco, q2 3, q2 4, q2 5, q2 6, q2 1, q2 2, q2 7, q2 8, q2 9, q1 mre, q1 mle, q1 mbe, q1 mso, q1 mva, q3 mwo, q1 mwr, q1 mlf, q1 mlp, q2 10, q2 11, q1 mfp, q1 mfd, q1 mgo, q1 y_mbo, q1 y_mpe, q1 mye, q2 12, q1 mpr, q2 13, q2 14, q2 15, q2 16, q1 mld, q2 17, q1 msi, q2 18, q2 19, q2 20, q2 21, q2 22, q1 mse, q2 23, q2 24, q2 25]), .inl (0, 16, .inl mn), .inl (0, 600, .inl bs)] ∧ mz = (y_mpe - v6).toNat ∧ (0 ≤ y_mbo ∧ y_mbo ≤ 1 ∧ 0 ≤ y_mpe ∧ y_mpe ≤ 8) ∧ (y_mpe = ofR bs y_mbo 0) ∧ (0 ≤ v6 ∧ v6 ≤ y_mpe ∧ 0 ≤ b ∧ b < y_mpe ∧ 0 ≤ cc ∧ cc < y_mpe) ∧ (y_mbo = a ∧ 0 ≤ a ∧ a < mn (0 : Int).toNat) ∧ (ElI bs (75 * y_mbo.toNat) b cc v6 v4 v5)) else False
set_option maxHeartbeats 4000000 in
set_option maxRecDepth 100000 in
theorem m_G12_elder (l : Launch) : q_M l yX12_elder cX12_elder 10 (some .int) 3 65 sp_G12_elder := by
  refine q_meth (by decide) (fun av w Q h => by obtain ⟨mco, mre, mle, mbe, mso, mva, mwo, mwr, mlf, mlp, mfp, mfd, mgo, mbo, mpe, mye, mpr, mld, msi, mse, mn, bs, a, b, cc, rfl, rfl, hmn, hbi, hQ⟩ := h; exact Nat.le_of_ble_eq_true rfl) ?_
  intro p e R s m args below meth c dC dI k g A av w Q hsp oka okw X
  obtain ⟨mco, mre, mle, mbe, mso, mva, mwo, mwr, mlf, mlp, mfp, mfd, mgo, mbo, mpe, mye, mpr, mld, msi, mse, mn, bs, a, b, cc, rfl, rfl, hmn, hbi, hQ⟩ := hsp
  have o_a : -2147483648 ≤ a ∧ a ≤ 2147483647 := oka _ (List.mem_of_getElem? (i := 1) rfl)
  have o_b : -2147483648 ≤ b ∧ b ≤ 2147483647 := oka _ (List.mem_of_getElem? (i := 2) rfl)
  have o_cc : -2147483648 ≤ cc ∧ cc ≤ 2147483647 := oka _ (List.mem_of_getElem? (i := 3) rfl)
  refine s_mono (s_G12_elder_0 X (J := fun dz vz sz wz => ∃ mz, I_G12_elder mco mre mle mbe mso mva mwo mwr mlf mlp mfp mfd mgo mbo mpe mye mpr mld msi mse mn bs a b cc dz mz vz sz wz) (q_loopn (I_G12_elder mco mre mle mbe mso mva mwo mwr mlf mlp mfp mfd mgo mbo mpe mye mpr mld msi mse mn bs a b cc) (fun dz J => if dz = 42 then b_G12_elder_42 J Q else q_F) ?hs ?hv)) ?_
  case hs =>
    intro d J hJ
    by_cases h42 : d = 42
    · subst h42; exact s_G12_elder_42 X hJ
    simp only [h42, if_false]
    exact s_F
  case hv =>
    intro dz mz vz sz wz hI okv oks okw hlen
    by_cases h42 : dz = 42
    · subst h42
      obtain ⟨y_mco, y_mbo, y_mpe, v4, v5, v6, rfl, rfl, rfl, hn, hyb, hyq, hp, hya, hs9⟩ := hI
      have l9 := ElI_le hs9
      apply And.intro
      · intro h48
        exact hQ _ _ _ _ (by first | exact Or.inr ⟨h7, rfl⟩ | exact Or.inl ⟨⟨h7.2.1.1, h7.2.1.2⟩, (by have q8 := h7.2.2.2.2.2; rw [h7.1] at q8; omega), Or.inr ⟨fun q9 => (by have q8 := h7.2.2.2.2.2; rw [h7.1] at q8; omega), rfl⟩⟩ | exact Or.inl ⟨⟨hya.2.1, hya.2.2⟩, (by have q8 := hyq; rw [hya.1] at q8; omega), Or.inl ⟨by rw [← hya.1, ← hyq]; exact ⟨⟨hp.2.2.1, hp.2.2.2.1⟩, hp.2.2.2.2.1, hp.2.2.2.2.2⟩, v5, by rw [← hya.1, ← hyq, show y_mpe = v6 by omega]; exact hs9⟩⟩)
      · intro h48
        refine Exists.intro [0, 2, 3, 4, 5, 6, 1, 7, 8, 9, 10, 11, 12, 13, 14, 15, 16, 17, 18, 19, 20, 21, 22, 23, 24, 25] (Exists.intro [q2 0, q1 _, q1 _] (Exists.intro ([.inr (12, [q1 _, q2 2, q2 3, q2 4, q2 5, q2 6, q2 1, q2 7, q2 8, q2 9, q1 _, q1 _, q1 _, q1 _, q1 _, q3 _, q1 _, q1 _, q1 _, q2 10, q2 11, q1 _, q1 _, q1 _, q1 _, q1 _, q1 _, q2 12, q1 _, q2 13, q2 14, q2 15, q2 16, q1 _, q2 17, q1 _, q2 18, q2 19, q2 20, q2 21, q2 22, q1 _, q2 23, q2 24, q2 25]), .inl (0, 600, .inl _)]) (And.intro rfl (And.intro rfl (And.intro rfl (And.intro ⟨⟨_, rfl⟩, rfl⟩ ?_))))))
        refine Exists.intro _ (Exists.intro _ (Exists.intro _ (Exists.intro _ (Exists.intro _ (Exists.intro _ (Exists.intro _ (Exists.intro _ (Exists.intro _ (Exists.intro _ (Exists.intro _ (Exists.intro _ (Exists.intro _ (Exists.intro _ (Exists.intro _ (Exists.intro _ (Exists.intro _ (Exists.intro _ (Exists.intro _ (Exists.intro _ (Exists.intro _ (Exists.intro _ (Exists.intro _ (And.intro rfl (And.intro rfl (And.intro (by first | omega | assumption | exact q_rg_up (by assumption) (by omega) | exact q_rg_up (q_rg_up (by assumption) (by omega)) (by omega) | exact q_rg_cpy (by assumption) (by assumption)) (And.intro (by first | omega | assumption | exact q_rg_up (by assumption) (by omega) | exact q_rg_up (q_rg_up (by assumption) (by omega)) (by omega) | exact q_rg_cpy (by assumption) (by assumption)) (And.intro (by first | omega | assumption | exact q_rg_up (by assumption) (by omega) | exact q_rg_up (q_rg_up (by assumption) (by omega)) (by omega) | exact q_rg_cpy (by assumption) (by assumption)) (And.intro (by first | omega | assumption | exact q_rg_up (by assumption) (by omega) | exact q_rg_up (q_rg_up (by assumption) (by omega)) (by omega) | exact q_rg_cpy (by assumption) (by assumption)) (And.intro (by first | omega | assumption | exact q_rg_up (by assumption) (by omega) | exact q_rg_up (q_rg_up (by assumption) (by omega)) (by omega) | exact q_rg_cpy (by assumption) (by assumption)) (And.intro (by first | omega | assumption | exact q_rg_up (by assumption) (by omega) | exact q_rg_up (q_rg_up (by assumption) (by omega)) (by omega) | exact q_rg_cpy (by assumption) (by assumption)) (?_)))))))))))))))))))))))))))))))
        intro z55 h55
        have r55 := ScR_rg h55
        refine Exists.intro [0, 2, 3, 4, 5, 6, 1, 7, 8, 9, 10, 11, 12, 13, 14, 15, 16, 17, 18, 19, 20, 21, 22, 23, 24, 25] (Exists.intro [q2 0, q1 _, q1 _] (Exists.intro ([.inr (12, [q1 _, q2 2, q2 3, q2 4, q2 5, q2 6, q2 1, q2 7, q2 8, q2 9, q1 _, q1 _, q1 _, q1 _, q1 _, q3 _, q1 _, q1 _, q1 _, q2 10, q2 11, q1 _, q1 _, q1 _, q1 _, q1 _, q1 _, q2 12, q1 _, q2 13, q2 14, q2 15, q2 16, q1 _, q2 17, q1 _, q2 18, q2 19, q2 20, q2 21, q2 22, q1 _, q2 23, q2 24, q2 25]), .inl (0, 600, .inl _)]) (And.intro rfl (And.intro rfl (And.intro rfl (And.intro ⟨⟨_, rfl⟩, rfl⟩ ?_))))))
        refine Exists.intro _ (Exists.intro _ (Exists.intro _ (Exists.intro _ (Exists.intro _ (Exists.intro _ (Exists.intro _ (Exists.intro _ (Exists.intro _ (Exists.intro _ (Exists.intro _ (Exists.intro _ (Exists.intro _ (Exists.intro _ (Exists.intro _ (Exists.intro _ (Exists.intro _ (Exists.intro _ (Exists.intro _ (Exists.intro _ (Exists.intro _ (Exists.intro _ (Exists.intro _ (And.intro rfl (And.intro rfl (And.intro (by first | omega | assumption | exact q_rg_up (by assumption) (by omega) | exact q_rg_up (q_rg_up (by assumption) (by omega)) (by omega) | exact q_rg_cpy (by assumption) (by assumption)) (And.intro (by first | omega | assumption | exact q_rg_up (by assumption) (by omega) | exact q_rg_up (q_rg_up (by assumption) (by omega)) (by omega) | exact q_rg_cpy (by assumption) (by assumption)) (And.intro (by first | omega | assumption | exact q_rg_up (by assumption) (by omega) | exact q_rg_up (q_rg_up (by assumption) (by omega)) (by omega) | exact q_rg_cpy (by assumption) (by assumption)) (And.intro (by first | omega | assumption | exact q_rg_up (by assumption) (by omega) | exact q_rg_up (q_rg_up (by assumption) (by omega)) (by omega) | exact q_rg_cpy (by assumption) (by assumption)) (And.intro (by first | omega | assumption | exact q_rg_up (by assumption) (by omega) | exact q_rg_up (q_rg_up (by assumption) (by omega)) (by omega) | exact q_rg_cpy (by assumption) (by assumption)) (And.intro (by first | omega | assumption | exact q_rg_up (by assumption) (by omega) | exact q_rg_up (q_rg_up (by assumption) (by omega)) (by omega) | exact q_rg_cpy (by assumption) (by assumption)) (?_)))))))))))))))))))))))))))))))
        intro z64 h64
        have r64 := ScR_rg h64
        apply And.intro
        · intro h72
          apply And.intro
          · intro h98
            refine Exists.intro [] (Exists.intro [q1 _, q1 _] (Exists.intro [] (And.intro rfl (And.intro rfl (And.intro rfl (And.intro trivial ?_))))))
            refine Exists.intro _ (Exists.intro _ (And.intro rfl (And.intro rfl (?_))))
            intro z114 h114
            intro z119 h119
            first | replace h119 := e_add h119 (by omega) | replace h119 := e_rng h119
            exact ⟨_, ⟨_, _, _, _, _, _, rfl, rfl, rfl, rfl, (by first | omega | assumption | exact q_rg_up (by assumption) (by omega) | exact q_rg_up (q_rg_up (by assumption) (by omega)) (by omega) | exact q_rg_cpy (by assumption) (by assumption)), (by first | omega | assumption | exact q_rg_up (by assumption) (by omega) | exact q_rg_up (q_rg_up (by assumption) (by omega)) (by omega) | exact q_rg_cpy (by assumption) (by assumption)), (by first | omega | assumption | exact q_rg_up (by assumption) (by omega) | exact q_rg_up (q_rg_up (by assumption) (by omega)) (by omega) | exact q_rg_cpy (by assumption) (by assumption)), (by first | assumption | exact ⟨h7.1, h7.2.1.1, h7.2.1.2⟩), (by first | exact ElI_0 | (rw [show z114 = v5 by omega]; exact ElI_n hs9 h55 h64 (by omega) (by omega)) | exact ElI_l hs9 (by omega) h55 h64 ⟨by omega, by omega⟩ (by omega) (by omega) (by omega) | (rw [show z114 = v5 by omega]; exact ElI_g hs9 h55 h64 ⟨by omega, by omega⟩ (by omega) (by omega)))⟩, by omega⟩
          · intro h98
            refine Exists.intro [] (Exists.intro [q1 _, q1 _] (Exists.intro [] (And.intro rfl (And.intro rfl (And.intro rfl (And.intro trivial ?_))))))
            refine Exists.intro _ (Exists.intro _ (And.intro rfl (And.intro rfl (?_))))
            intro z114 h114
            intro z119 h119
            first | replace h119 := e_add h119 (by omega) | replace h119 := e_rng h119
            exact ⟨_, ⟨_, _, _, _, _, _, rfl, rfl, rfl, rfl, (by first | omega | assumption | exact q_rg_up (by assumption) (by omega) | exact q_rg_up (q_rg_up (by assumption) (by omega)) (by omega) | exact q_rg_cpy (by assumption) (by assumption)), (by first | omega | assumption | exact q_rg_up (by assumption) (by omega) | exact q_rg_up (q_rg_up (by assumption) (by omega)) (by omega) | exact q_rg_cpy (by assumption) (by assumption)), (by first | omega | assumption | exact q_rg_up (by assumption) (by omega) | exact q_rg_up (q_rg_up (by assumption) (by omega)) (by omega) | exact q_rg_cpy (by assumption) (by assumption)), (by first | assumption | exact ⟨h7.1, h7.2.1.1, h7.2.1.2⟩), (by first | exact ElI_0 | (rw [show z114 = v5 by omega]; exact ElI_n hs9 h55 h64 (by omega) (by omega)) | exact ElI_l hs9 (by omega) h55 h64 ⟨by omega, by omega⟩ (by omega) (by omega) (by omega) | (rw [show z114 = v5 by omega]; exact ElI_g hs9 h55 h64 ⟨by omega, by omega⟩ (by omega) (by omega)))⟩, by omega⟩
        · intro h72
          apply And.intro
          · intro h78
            intro z91 h91
            first | replace h91 := e_add h91 (by omega) | replace h91 := e_rng h91
            apply And.intro
            · intro h98
              refine Exists.intro [] (Exists.intro [q1 _, q1 _] (Exists.intro [] (And.intro rfl (And.intro rfl (And.intro rfl (And.intro trivial ?_))))))
              refine Exists.intro _ (Exists.intro _ (And.intro rfl (And.intro rfl (?_))))
              intro z114 h114
              intro z119 h119
              first | replace h119 := e_add h119 (by omega) | replace h119 := e_rng h119
              exact ⟨_, ⟨_, _, _, _, _, _, rfl, rfl, rfl, rfl, (by first | omega | assumption | exact q_rg_up (by assumption) (by omega) | exact q_rg_up (q_rg_up (by assumption) (by omega)) (by omega) | exact q_rg_cpy (by assumption) (by assumption)), (by first | omega | assumption | exact q_rg_up (by assumption) (by omega) | exact q_rg_up (q_rg_up (by assumption) (by omega)) (by omega) | exact q_rg_cpy (by assumption) (by assumption)), (by first | omega | assumption | exact q_rg_up (by assumption) (by omega) | exact q_rg_up (q_rg_up (by assumption) (by omega)) (by omega) | exact q_rg_cpy (by assumption) (by assumption)), (by first | assumption | exact ⟨h7.1, h7.2.1.1, h7.2.1.2⟩), (by first | exact ElI_0 | (rw [show z114 = v5 by omega]; exact ElI_n hs9 h55 h64 (by omega) (by omega)) | exact ElI_l hs9 (by omega) h55 h64 ⟨by omega, by omega⟩ (by omega) (by omega) (by omega) | (rw [show z114 = v5 by omega]; exact ElI_g hs9 h55 h64 ⟨by omega, by omega⟩ (by omega) (by omega)))⟩, by omega⟩
            · intro h98
              refine Exists.intro [] (Exists.intro [q1 _, q1 _] (Exists.intro [] (And.intro rfl (And.intro rfl (And.intro rfl (And.intro trivial ?_))))))
              refine Exists.intro _ (Exists.intro _ (And.intro rfl (And.intro rfl (?_))))
              intro z114 h114
              intro z119 h119
              first | replace h119 := e_add h119 (by omega) | replace h119 := e_rng h119
              exact ⟨_, ⟨_, _, _, _, _, _, rfl, rfl, rfl, rfl, (by first | omega | assumption | exact q_rg_up (by assumption) (by omega) | exact q_rg_up (q_rg_up (by assumption) (by omega)) (by omega) | exact q_rg_cpy (by assumption) (by assumption)), (by first | omega | assumption | exact q_rg_up (by assumption) (by omega) | exact q_rg_up (q_rg_up (by assumption) (by omega)) (by omega) | exact q_rg_cpy (by assumption) (by assumption)), (by first | omega | assumption | exact q_rg_up (by assumption) (by omega) | exact q_rg_up (q_rg_up (by assumption) (by omega)) (by omega) | exact q_rg_cpy (by assumption) (by assumption)), (by first | assumption | exact ⟨h7.1, h7.2.1.1, h7.2.1.2⟩), (by first | exact ElI_0 | (rw [show z114 = v5 by omega]; exact ElI_n hs9 h55 h64 (by omega) (by omega)) | exact ElI_l hs9 (by omega) h55 h64 ⟨by omega, by omega⟩ (by omega) (by omega) (by omega) | (rw [show z114 = v5 by omega]; exact ElI_g hs9 h55 h64 ⟨by omega, by omega⟩ (by omega) (by omega)))⟩, by omega⟩
          · intro h78
            apply And.intro
            · intro h98
              refine Exists.intro [] (Exists.intro [q1 _, q1 _] (Exists.intro [] (And.intro rfl (And.intro rfl (And.intro rfl (And.intro trivial ?_))))))
              refine Exists.intro _ (Exists.intro _ (And.intro rfl (And.intro rfl (?_))))
              intro z114 h114
              intro z119 h119
              first | replace h119 := e_add h119 (by omega) | replace h119 := e_rng h119
              exact ⟨_, ⟨_, _, _, _, _, _, rfl, rfl, rfl, rfl, (by first | omega | assumption | exact q_rg_up (by assumption) (by omega) | exact q_rg_up (q_rg_up (by assumption) (by omega)) (by omega) | exact q_rg_cpy (by assumption) (by assumption)), (by first | omega | assumption | exact q_rg_up (by assumption) (by omega) | exact q_rg_up (q_rg_up (by assumption) (by omega)) (by omega) | exact q_rg_cpy (by assumption) (by assumption)), (by first | omega | assumption | exact q_rg_up (by assumption) (by omega) | exact q_rg_up (q_rg_up (by assumption) (by omega)) (by omega) | exact q_rg_cpy (by assumption) (by assumption)), (by first | assumption | exact ⟨h7.1, h7.2.1.1, h7.2.1.2⟩), (by first | exact ElI_0 | (rw [show z114 = v5 by omega]; exact ElI_n hs9 h55 h64 (by omega) (by omega)) | exact ElI_l hs9 (by omega) h55 h64 ⟨by omega, by omega⟩ (by omega) (by omega) (by omega) | (rw [show z114 = v5 by omega]; exact ElI_g hs9 h55 h64 ⟨by omega, by omega⟩ (by omega) (by omega)))⟩, by omega⟩
            · intro h98
              refine Exists.intro [] (Exists.intro [q1 _, q1 _] (Exists.intro [] (And.intro rfl (And.intro rfl (And.intro rfl (And.intro trivial ?_))))))
              refine Exists.intro _ (Exists.intro _ (And.intro rfl (And.intro rfl (?_))))
              intro z114 h114
              intro z119 h119
              first | replace h119 := e_add h119 (by omega) | replace h119 := e_rng h119
              exact ⟨_, ⟨_, _, _, _, _, _, rfl, rfl, rfl, rfl, (by first | omega | assumption | exact q_rg_up (by assumption) (by omega) | exact q_rg_up (q_rg_up (by assumption) (by omega)) (by omega) | exact q_rg_cpy (by assumption) (by assumption)), (by first | omega | assumption | exact q_rg_up (by assumption) (by omega) | exact q_rg_up (q_rg_up (by assumption) (by omega)) (by omega) | exact q_rg_cpy (by assumption) (by assumption)), (by first | omega | assumption | exact q_rg_up (by assumption) (by omega) | exact q_rg_up (q_rg_up (by assumption) (by omega)) (by omega) | exact q_rg_cpy (by assumption) (by assumption)), (by first | assumption | exact ⟨h7.1, h7.2.1.1, h7.2.1.2⟩), (by first | exact ElI_0 | (rw [show z114 = v5 by omega]; exact ElI_n hs9 h55 h64 (by omega) (by omega)) | exact ElI_l hs9 (by omega) h55 h64 ⟨by omega, by omega⟩ (by omega) (by omega) (by omega) | (rw [show z114 = v5 by omega]; exact ElI_g hs9 h55 h64 ⟨by omega, by omega⟩ (by omega) (by omega)))⟩, by omega⟩
    simp only [I_G12_elder, h42, if_false] at hI
  rintro lv st w' ⟨rfl, rfl, rfl⟩
  apply And.intro
  · exact trivial
  refine Exists.intro [0, 1, 2, 3, 4, 5, 6, 7, 8, 9, 10, 11, 12, 13, 14, 15, 16, 17, 18, 19, 20, 21, 22, 23, 24, 25] (Exists.intro [q2 0, q1 _] (Exists.intro ([.inr (12, [q1 _, q2 3, q2 4, q2 5, q2 6, q2 1, q2 2, q2 7, q2 8, q2 9, q1 _, q1 _, q1 _, q1 _, q1 _, q3 _, q1 _, q1 _, q1 _, q2 10, q2 11, q1 _, q1 _, q1 _, q1 _, q1 _, q1 _, q2 12, q1 _, q2 13, q2 14, q2 15, q2 16, q1 _, q2 17, q1 _, q2 18, q2 19, q2 20, q2 21, q2 22, q1 _, q2 23, q2 24, q2 25]), .inl (0, 16, .inl _), .inl (0, 600, .inl _)]) (And.intro rfl (And.intro rfl (And.intro rfl (And.intro ⟨⟨_, rfl⟩, rfl⟩ ?_))))))
  refine Exists.intro _ (Exists.intro _ (Exists.intro _ (Exists.intro _ (Exists.intro _ (Exists.intro _ (Exists.intro _ (Exists.intro _ (Exists.intro _ (Exists.intro _ (Exists.intro _ (Exists.intro _ (Exists.intro _ (Exists.intro _ (Exists.intro _ (Exists.intro _ (Exists.intro _ (Exists.intro _ (Exists.intro _ (Exists.intro _ (Exists.intro _ (Exists.intro _ (Exists.intro _ (And.intro rfl (And.intro rfl (And.intro (by first | omega | assumption | exact q_rg_up (by assumption) (by omega) | exact q_rg_up (q_rg_up (by assumption) (by omega)) (by omega) | exact q_rg_cpy (by assumption) (by assumption)) (And.intro (by first | omega | assumption | exact q_rg_up (by assumption) (by omega) | exact q_rg_up (q_rg_up (by assumption) (by omega)) (by omega) | exact q_rg_cpy (by assumption) (by assumption)) (?_)))))))))))))))))))))))))))
  intro z7 x_mbo_7 x_mpe_7 h7
  apply And.intro
  · intro h10
    first | replace h7 := dj1 h7 h10 | replace h7 := dj0 h7 h10
    exact hQ _ _ _ _ (by first | exact Or.inr ⟨h7, rfl⟩ | exact Or.inl ⟨⟨h7.2.1.1, h7.2.1.2⟩, (by have q8 := h7.2.2.2.2.2; rw [h7.1] at q8; omega), Or.inr ⟨fun q9 => (by have q8 := h7.2.2.2.2.2; rw [h7.1] at q8; omega), rfl⟩⟩ | exact Or.inl ⟨⟨hya.2.1, hya.2.2⟩, (by have q8 := hyq; rw [hya.1] at q8; omega), Or.inl ⟨by rw [← hya.1, ← hyq]; exact ⟨⟨hp.2.2.1, hp.2.2.2.1⟩, hp.2.2.2.2.1, hp.2.2.2.2.2⟩, v5, by rw [← hya.1, ← hyq, show y_mpe = v6 by omega]; exact hs9⟩⟩)
  · intro h10
    first | replace h7 := dj1 h7 h10 | replace h7 := dj0 h7 h10
    refine Exists.intro [0, 3, 4, 5, 6, 1, 2, 7, 8, 9, 10, 11, 12, 13, 14, 15, 16, 17, 18, 19, 20, 21, 22, 23, 24, 25] (Exists.intro [q2 0, q1 _] (Exists.intro ([.inr (12, [q1 _, q2 1, q2 2, q2 3, q2 4, q2 5, q2 6, q2 7, q2 8, q2 9, q1 _, q1 _, q1 _, q1 _, q1 _, q3 _, q1 _, q1 _, q1 _, q2 10, q2 11, q1 _, q1 _, q1 _, q1 _, q1 _, q1 _, q2 12, q1 _, q2 13, q2 14, q2 15, q2 16, q1 _, q2 17, q1 _, q2 18, q2 19, q2 20, q2 21, q2 22, q1 _, q2 23, q2 24, q2 25])]) (And.intro rfl (And.intro rfl (And.intro rfl (And.intro ⟨⟨_, rfl⟩, rfl⟩ ?_))))))
    refine Exists.intro _ (Exists.intro _ (Exists.intro _ (Exists.intro _ (Exists.intro _ (Exists.intro _ (Exists.intro _ (Exists.intro _ (Exists.intro _ (Exists.intro _ (Exists.intro _ (Exists.intro _ (Exists.intro _ (Exists.intro _ (Exists.intro _ (Exists.intro _ (Exists.intro _ (Exists.intro _ (Exists.intro _ (Exists.intro _ (Exists.intro _ (And.intro rfl (And.intro rfl (And.intro (by first | omega | assumption | exact q_rg_up (by assumption) (by omega) | exact q_rg_up (q_rg_up (by assumption) (by omega)) (by omega) | exact q_rg_cpy (by assumption) (by assumption)) (?_))))))))))))))))))))))))
    intro z15 h15
    apply And.intro
    · intro h18
      first | replace h15 := dj1 h15 h18 | replace h15 := dj0 h15 h18
      exact hQ _ _ _ _ (by first | exact Or.inr ⟨h7, rfl⟩ | exact Or.inl ⟨⟨h7.2.1.1, h7.2.1.2⟩, (by have q8 := h7.2.2.2.2.2; rw [h7.1] at q8; omega), Or.inr ⟨fun q9 => (by have q8 := h7.2.2.2.2.2; rw [h7.1] at q8; omega), rfl⟩⟩ | exact Or.inl ⟨⟨hya.2.1, hya.2.2⟩, (by have q8 := hyq; rw [hya.1] at q8; omega), Or.inl ⟨by rw [← hya.1, ← hyq]; exact ⟨⟨hp.2.2.1, hp.2.2.2.1⟩, hp.2.2.2.2.1, hp.2.2.2.2.2⟩, v5, by rw [← hya.1, ← hyq, show y_mpe = v6 by omega]; exact hs9⟩⟩)
    · intro h18
      first | replace h15 := dj1 h15 h18 | replace h15 := dj0 h15 h18
      refine Exists.intro [0, 3, 4, 5, 6, 1, 2, 7, 8, 9, 10, 11, 12, 13, 14, 15, 16, 17, 18, 19, 20, 21, 22, 23, 24, 25] (Exists.intro [q2 0, q1 _] (Exists.intro ([.inr (12, [q1 _, q2 1, q2 2, q2 3, q2 4, q2 5, q2 6, q2 7, q2 8, q2 9, q1 _, q1 _, q1 _, q1 _, q1 _, q3 _, q1 _, q1 _, q1 _, q2 10, q2 11, q1 _, q1 _, q1 _, q1 _, q1 _, q1 _, q2 12, q1 _, q2 13, q2 14, q2 15, q2 16, q1 _, q2 17, q1 _, q2 18, q2 19, q2 20, q2 21, q2 22, q1 _, q2 23, q2 24, q2 25])]) (And.intro rfl (And.intro rfl (And.intro rfl (And.intro ⟨⟨_, rfl⟩, rfl⟩ ?_))))))
      refine Exists.intro _ (Exists.intro _ (Exists.intro _ (Exists.intro _ (Exists.intro _ (Exists.intro _ (Exists.intro _ (Exists.intro _ (Exists.intro _ (Exists.intro _ (Exists.intro _ (Exists.intro _ (Exists.intro _ (Exists.intro _ (Exists.intro _ (Exists.intro _ (Exists.intro _ (Exists.intro _ (Exists.intro _ (Exists.intro _ (Exists.intro _ (And.intro rfl (And.intro rfl (And.intro (by first | omega | assumption | exact q_rg_up (by assumption) (by omega) | exact q_rg_up (q_rg_up (by assumption) (by omega)) (by omega) | exact q_rg_cpy (by assumption) (by assumption)) (?_))))))))))))))))))))))))
      intro z23 h23
      apply And.intro
      · intro h26
        first | replace h23 := dj1 h23 h26 | replace h23 := dj0 h23 h26
        exact ⟨_, _, _, _, _, _, _, rfl, rfl, rfl, rfl, (by first | omega | assumption | exact q_rg_up (by assumption) (by omega) | exact q_rg_up (q_rg_up (by assumption) (by omega)) (by omega) | exact q_rg_cpy (by assumption) (by assumption)), (by first | omega | assumption | exact q_rg_up (by assumption) (by omega) | exact q_rg_up (q_rg_up (by assumption) (by omega)) (by omega) | exact q_rg_cpy (by assumption) (by assumption)), (by first | omega | assumption | exact q_rg_up (by assumption) (by omega) | exact q_rg_up (q_rg_up (by assumption) (by omega)) (by omega) | exact q_rg_cpy (by assumption) (by assumption)), (by first | assumption | exact ⟨h7.1, h7.2.1.1, h7.2.1.2⟩), (by first | exact ElI_0 | (rw [show z114 = v5 by omega]; exact ElI_n hs9 h55 h64 (by omega) (by omega)) | exact ElI_l hs9 (by omega) h55 h64 ⟨by omega, by omega⟩ (by omega) (by omega) (by omega) | (rw [show z114 = v5 by omega]; exact ElI_g hs9 h55 h64 ⟨by omega, by omega⟩ (by omega) (by omega)))⟩
      · intro h26
        first | replace h23 := dj1 h23 h26 | replace h23 := dj0 h23 h26
        exact hQ _ _ _ _ (by first | exact Or.inr ⟨h7, rfl⟩ | exact Or.inl ⟨⟨h7.2.1.1, h7.2.1.2⟩, (by have q8 := h7.2.2.2.2.2; rw [h7.1] at q8; omega), Or.inr ⟨fun q9 => (by have q8 := h7.2.2.2.2.2; rw [h7.1] at q8; omega), rfl⟩⟩ | exact Or.inl ⟨⟨hya.2.1, hya.2.2⟩, (by have q8 := hyq; rw [hya.1] at q8; omega), Or.inl ⟨by rw [← hya.1, ← hyq]; exact ⟨⟨hp.2.2.1, hp.2.2.2.1⟩, hp.2.2.2.2.1, hp.2.2.2.2.2⟩, v5, by rw [← hya.1, ← hyq, show y_mpe = v6 by omega]; exact hs9⟩⟩)
