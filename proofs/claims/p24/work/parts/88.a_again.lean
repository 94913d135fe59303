theorem dX11_again_0 : decode cX11_again 0 = .ok (.iload_n 1, 1) := by decide +kernel
theorem dX11_again_1 : decode cX11_again 1 = .ok (.ifCond .lt 17, 3) := by decide +kernel
theorem dX11_again_4 : decode cX11_again 4 = .ok (.iload_n 1, 1) := by decide +kernel
theorem dX11_again_5 : decode cX11_again 5 = .ok (.iconst 3, 1) := by decide +kernel
theorem dX11_again_6 : decode cX11_again 6 = .ok (.if_icmp .ge 12, 3) := by decide +kernel
theorem dX11_again_9 : decode cX11_again 9 = .ok (.aload_n 0, 1) := by decide +kernel
theorem dX11_again_10 : decode cX11_again 10 = .ok (.getfield 16, 3) := by decide +kernel
theorem dX11_again_13 : decode cX11_again 13 = .ok (.iload_n 1, 1) := by decide +kernel
theorem dX11_again_14 : decode cX11_again 14 = .ok (.aaload, 1) := by decide +kernel
theorem dX11_again_15 : decode cX11_again 15 = .ok (.ifnonnull 5, 3) := by decide +kernel
theorem dX11_again_18 : decode cX11_again 18 = .ok (.iconst 0, 1) := by decide +kernel
theorem dX11_again_19 : decode cX11_again 19 = .ok (.ireturn, 1) := by decide +kernel
theorem dX11_again_20 : decode cX11_again 20 = .ok (.aload_n 0, 1) := by decide +kernel
theorem dX11_again_21 : decode cX11_again 21 = .ok (.getfield 10, 3) := by decide +kernel
theorem dX11_again_24 : decode cX11_again 24 = .ok (.aload_n 0, 1) := by decide +kernel
theorem dX11_again_25 : decode cX11_again 25 = .ok (.getfield 16, 3) := by decide +kernel
theorem dX11_again_28 : decode cX11_again 28 = .ok (.iload_n 1, 1) := by decide +kernel
theorem dX11_again_29 : decode cX11_again 29 = .ok (.aaload, 1) := by decide +kernel
theorem dX11_again_30 : decode cX11_again 30 = .ok (.invokevirtual 293, 3) := by decide +kernel
theorem dX11_again_33 : decode cX11_again 33 = .ok (.iconst 1, 1) := by decide +kernel
theorem dX11_again_34 : decode cX11_again 34 = .ok (.ireturn, 1) := by decide +kernel
def is_X11_again : Nat → List Nat := fun d => []
set_option maxRecDepth 100000 in
def b_X11_again_18 (J : Nat → List qV → List qV → qW → Prop) (Q : qR) : qK := x_int 0 (x_zret Q)
set_option maxRecDepth 100000 in
theorem s_X11_again_18 {p : Program} {l : Launch} {e : Env} {R : Room} {s : State} {m : MethodId} {args : Array Value} {below : List Frame} {meth : Method} {c : Code} {nW : Nat} {dC : Nat → ClassId} {dI : Nat → Nat → Nat} {k : Nat → ClassId} {g : Nat → Nat} {A : Nat → Prop} {J : Nat → List qV → List qV → qW → Prop} {Q : qR} (X : q_X p R s m args meth c cX11_again 2 nW 3 111 RX11 (some .boolean) dC dI k g A) (hJ : ∀ d : Nat, q_Sd p l e R s m args below meth c 2 nW dC dI k g A (MQ below (q_post (dC, dI) k g nW Q A) args s 0 0 A) d (x_cut (is_X11_again d) (J d))) : q_Sd p l e R s m args below meth c 2 nW dC dI k g A (MQ below (q_post (dC, dI) k g nW Q A) args s 0 0 A) 18 (b_X11_again_18 J Q) := by
  unfold b_X11_again_18
  refine s_iconst X ⟨by decide, by decide⟩ dX11_again_18 ?_
  exact s_zret X dX11_again_19
set_option maxRecDepth 100000 in
def b_X11_again_0 (J : Nat → List qV → List qV → qW → Prop) (Q : qR) : qK := x_iload 1 (x_if_lt (b_X11_again_18 J Q) (x_iload 1 (x_int 3 (x_icmp_ge (b_X11_again_18 J Q) (x_aload 0 (x_get 11 1 (x_iload 1 (x_aald (x_ifnonnull (x_aload 0 (x_get 11 0 (x_aload 0 (x_get 11 1 (x_iload 1 (x_aald (x_calla 8 2 (sU 0) (x_int 1 (x_zret Q))))))))) (b_X11_again_18 J Q))))))))))
set_option maxRecDepth 100000 in
theorem s_X11_again_0 {p : Program} {l : Launch} {e : Env} {R : Room} {s : State} {m : MethodId} {args : Array Value} {below : List Frame} {meth : Method} {c : Code} {nW : Nat} {dC : Nat → ClassId} {dI : Nat → Nat → Nat} {k : Nat → ClassId} {g : Nat → Nat} {A : Nat → Prop} {J : Nat → List qV → List qV → qW → Prop} {Q : qR} (X : q_X p R s m args meth c cX11_again 2 nW 3 111 RX11 (some .boolean) dC dI k g A) (hJ : ∀ d : Nat, q_Sd p l e R s m args below meth c 2 nW dC dI k g A (MQ below (q_post (dC, dI) k g nW Q A) args s 0 0 A) d (x_cut (is_X11_again d) (J d))) : q_Sd p l e R s m args below meth c 2 nW dC dI k g A (MQ below (q_post (dC, dI) k g nW Q A) args s 0 0 A) 0 (b_X11_again_0 J Q) := by
  unfold b_X11_again_0
  refine s_iload_n X rfl dX11_again_0 ?_
  refine s_if_lt X (tgt := 18) dX11_again_1 (by decide) ?_ ?_
  · exact s_X11_again_18 X hJ
  · refine s_iload_n X rfl dX11_again_4 ?_
    refine s_iconst X ⟨by decide, by decide⟩ dX11_again_5 ?_
    refine s_icmp_ge X (tgt := 18) dX11_again_6 (by decide) ?_ ?_
    · exact s_X11_again_18 X hJ
    · refine s_aload_n X rfl dX11_again_9 ?_
      refine s_get X (T := TX11) (C := RX11) (N := 8) tu_X11 rfl (by decide) tw_327 dX11_again_10 ?_
      refine s_iload_n X rfl dX11_again_13 ?_
      refine s_aald X dX11_again_14 ?_
      refine s_ifnonnull X (tgt := 20) dX11_again_15 (by decide) ?_ ?_
      · refine s_aload_n X rfl dX11_again_20 ?_
        refine s_get X (T := TX11) (C := RX11) (N := 8) tu_X11 rfl (by decide) tw_326 dX11_again_21 ?_
        refine s_aload_n X rfl dX11_again_24 ?_
        refine s_get X (T := TX11) (C := RX11) (N := 8) tu_X11 rfl (by decide) tw_327 dX11_again_25 ?_
        refine s_iload_n X rfl dX11_again_28 ?_
        refine s_aald X dX11_again_29 ?_
        refine s_calla X (mU_0 l) tw_984 tw_985 tw_986 tw_121 tw_987 rfl (by decide +kernel) ⟨by decide, by decide⟩ (sU_mo 0) dX11_again_30 ?_
        refine s_iconst X ⟨by decide, by decide⟩ dX11_again_33 ?_
        exact s_zret X dX11_again_34
      · exact s_X11_again_18 X hJ

theorem cnO_le (i : Option Nat) : cnO i ≤ 1 := by
  cases i with
  | none => exact Nat.zero_le _
  | some v => exact Nat.le_refl _
def agC (γ : qG) (a z : Int) (γ' : qG) : Prop := (z = 1 ∧ (0 ≤ a ∧ a ≤ 2) ∧ ∃ j : Nat, γ.2.2 a.toNat = some (111 + 43 * j) ∧ cpG 0 j γ γ') ∨ (z = 0 ∧ ¬ ((0 ≤ a ∧ a ≤ 2) ∧ ¬ γ.2.2 a.toNat = none) ∧ γ' = γ)
set_option maxHeartbeats 4000000 in
set_option maxRecDepth 100000 in
theorem mN_again (l : Launch) (n : Nat) : q_M l yX11_again cX11_again 2 (some .boolean) 3 111 (spM n (fun av => ∃ a : Int, av = [q2 0, q1 a]) (fun γ av r γ' => ∃ a z : Int, av = [q2 0, q1 a] ∧ r = some (q1 z) ∧ agC γ a z γ')) := by
  refine q_meth (by decide) (fun av w Q h => by obtain ⟨_, _, ⟨a, rfl⟩, _⟩ := h; exact Nat.le_of_ble_eq_true rfl) ?_
  intro p e R s m args below meth c dC dI k g A av w Q hsp oka okw X
  obtain ⟨γ, hPN, ⟨a, rfl⟩, hQ⟩ := hsp
  have o_a : -2147483648 ≤ a ∧ a ≤ 2147483647 := oka _ (List.mem_of_getElem? (i := 1) rfl)
  refine s_mono (s_X11_again_0 X (J := fun _ _ _ _ => False) (fun d => s_cutF)) ?_
  rintro lv st w' ⟨rfl, rfl, rfl⟩
  obtain ⟨hPW, hlen9, ⟨eI, k0, k1, k2, hc⟩, hb⟩ := id hPN
  have c0 := cnO_le (γ.2.2 0)
  have c1 := cnO_le (γ.2.2 1)
  have c2 := cnO_le (γ.2.2 2)
  obtain ⟨i0, g0⟩ : ∃ x, x = γ.2.2 0 := ⟨_, rfl⟩
  obtain ⟨i1, g1⟩ : ∃ x, x = γ.2.2 1 := ⟨_, rfl⟩
  obtain ⟨i2, g2⟩ : ∃ x, x = γ.2.2 2 := ⟨_, rfl⟩
  rw [← g0, ← g1, ← g2] at eI hc
  rw [← g0] at k0 c0
  rw [← g1] at k1 c1
  rw [← g2] at k2 c2
  obtain ⟨_, eH, rfl⟩ := hPW 0 _ rfl
  obtain ⟨_, eT, ln, fa, pl, rfl, -⟩ := hPW 1 _ rfl
  apply And.intro
  · intro h1
    apply And.intro
    · exact Or.inl rfl
    exact hQ _ γ _ hPN rfl ⟨a, 0, rfl, rfl, Or.inr ⟨rfl, fun h9 => by omega, rfl⟩⟩
  · intro h1
    apply And.intro
    · intro h6
      apply And.intro
      · exact Or.inl rfl
      exact hQ _ γ _ hPN rfl ⟨a, 0, rfl, rfl, Or.inr ⟨rfl, fun h9 => by omega, rfl⟩⟩
    · intro h6
      refine p_get eH rfl ?_
      refine p_aald eI rfl ⟨by omega, by omega⟩ ?_
      rcases (show a = 0 ∨ a = 1 ∨ a = 2 by omega) with rfl | rfl | rfl
      · rcases k0 with rfl | ⟨j, hj, rfl⟩
        · apply And.intro
          · exact Or.inl rfl
          exact hQ _ γ _ hPN rfl ⟨0, 0, rfl, rfl, Or.inr ⟨rfl, fun h9 => h9.2 g0.symm, rfl⟩⟩
        · refine p_get eH rfl ?_
          refine p_get eH rfl ?_
          refine p_aald eI rfl ⟨by omega, by omega⟩ ?_
          refine ⟨1, [q2 (111 + 43 * j)], [], _, rfl, rfl, eT, Nat.le_of_ble_eq_true rfl, ⟨γ, n, j, hPN, hj, by omega, rfl, fun γ' w' hw' hl' hc' _ => ?_⟩⟩
          apply And.intro
          · exact Or.inr rfl
          exact hQ _ _ _ hw' hl' ⟨0, 1, rfl, rfl, Or.inl ⟨rfl, ⟨by decide, by decide⟩, j, g0.symm, hc'⟩⟩
      · rcases k1 with rfl | ⟨j, hj, rfl⟩
        · apply And.intro
          · exact Or.inl rfl
          exact hQ _ γ _ hPN rfl ⟨1, 0, rfl, rfl, Or.inr ⟨rfl, fun h9 => h9.2 g1.symm, rfl⟩⟩
        · refine p_get eH rfl ?_
          refine p_get eH rfl ?_
          refine p_aald eI rfl ⟨by omega, by omega⟩ ?_
          refine ⟨1, [q2 (111 + 43 * j)], [], _, rfl, rfl, eT, Nat.le_of_ble_eq_true rfl, ⟨γ, n, j, hPN, hj, by omega, rfl, fun γ' w' hw' hl' hc' _ => ?_⟩⟩
          apply And.intro
          · exact Or.inr rfl
          exact hQ _ _ _ hw' hl' ⟨1, 1, rfl, rfl, Or.inl ⟨rfl, ⟨by decide, by decide⟩, j, g1.symm, hc'⟩⟩
      · rcases k2 with rfl | ⟨j, hj, rfl⟩
        · apply And.intro
          · exact Or.inl rfl
          exact hQ _ γ _ hPN rfl ⟨2, 0, rfl, rfl, Or.inr ⟨rfl, fun h9 => h9.2 g2.symm, rfl⟩⟩
        · refine p_get eH rfl ?_
          refine p_get eH rfl ?_
          refine p_aald eI rfl ⟨by omega, by omega⟩ ?_
          refine ⟨1, [q2 (111 + 43 * j)], [], _, rfl, rfl, eT, Nat.le_of_ble_eq_true rfl, ⟨γ, n, j, hPN, hj, by omega, rfl, fun γ' w' hw' hl' hc' _ => ?_⟩⟩
          apply And.intro
          · exact Or.inr rfl
          exact hQ _ _ _ hw' hl' ⟨2, 1, rfl, rfl, Or.inl ⟨rfl, ⟨by decide, by decide⟩, j, g2.symm, hc'⟩⟩
