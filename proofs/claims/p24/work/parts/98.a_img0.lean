def is_X11_image : Nat → List Nat := fun d => []
set_option maxRecDepth 100000 in
def b_X11_image_33 (J : Nat → List qV → List qV → qW → Prop) (Q : qR) : qK := x_aload 0 (x_get 11 1 (x_iload 1 (x_aald (x_aload 0 (x_get 11 0 (x_calla 8 2 (sU 1) (x_int 1 (x_zret Q))))))))
set_option maxRecDepth 100000 in
theorem s_X11_image_33 {p : Program} {l : Launch} {e : Env} {R : Room} {s : State} {m : MethodId} {args : Array Value} {below : List Frame} {meth : Method} {c : Code} {nW : Nat} {dC : Nat → ClassId} {dI : Nat → Nat → Nat} {k : Nat → ClassId} {g : Nat → Nat} {A : Nat → Prop} {J : Nat → List qV → List qV → qW → Prop} {Q : qR} (X : q_X p R s m args meth c cX11_image 2 nW 3 111 RX11 (some .boolean) dC dI k g A) (hJ : ∀ d : Nat, q_Sd p l e R s m args below meth c 2 nW dC dI k g A (MQ below (q_post (dC, dI) k g nW Q A) args s 0 0 A) d (x_cut (is_X11_image d) (J d))) : q_Sd p l e R s m args below meth c 2 nW dC dI k g A (MQ below (q_post (dC, dI) k g nW Q A) args s 0 0 A) 33 (b_X11_image_33 J Q) := by
  unfold b_X11_image_33
  refine s_aload_n X rfl dX11_image_33 ?_
  refine s_get X (T := TX11) (C := RX11) (N := 8) tu_X11 rfl (by decide) tw_327 dX11_image_34 ?_
  refine s_iload_n X rfl dX11_image_37 ?_
  refine s_aald X dX11_image_38 ?_
  refine s_aload_n X rfl dX11_image_39 ?_
  refine s_get X (T := TX11) (C := RX11) (N := 8) tu_X11 rfl (by decide) tw_326 dX11_image_40 ?_
  refine s_calla X (mU_1 l) tw_984 tw_985 tw_986 tw_121 tw_987 rfl (by decide +kernel) ⟨by decide, by decide⟩ (sU_mo 1) dX11_image_43 ?_
  refine s_iconst X ⟨by decide, by decide⟩ dX11_image_46 ?_
  exact s_zret X dX11_image_47
set_option maxRecDepth 100000 in
def b_X11_image_9 (J : Nat → List qV → List qV → qW → Prop) (Q : qR) : qK := x_int 0 (x_zret Q)
set_option maxRecDepth 100000 in
theorem s_X11_image_9 {p : Program} {l : Launch} {e : Env} {R : Room} {s : State} {m : MethodId} {args : Array Value} {below : List Frame} {meth : Method} {c : Code} {nW : Nat} {dC : Nat → ClassId} {dI : Nat → Nat → Nat} {k : Nat → ClassId} {g : Nat → Nat} {A : Nat → Prop} {J : Nat → List qV → List qV → qW → Prop} {Q : qR} (X : q_X p R s m args meth c cX11_image 2 nW 3 111 RX11 (some .boolean) dC dI k g A) (hJ : ∀ d : Nat, q_Sd p l e R s m args below meth c 2 nW dC dI k g A (MQ below (q_post (dC, dI) k g nW Q A) args s 0 0 A) d (x_cut (is_X11_image d) (J d))) : q_Sd p l e R s m args below meth c 2 nW dC dI k g A (MQ below (q_post (dC, dI) k g nW Q A) args s 0 0 A) 9 (b_X11_image_9 J Q) := by
  unfold b_X11_image_9
  refine s_iconst X ⟨by decide, by decide⟩ dX11_image_9 ?_
  exact s_zret X dX11_image_10
set_option maxRecDepth 100000 in
def b_X11_image_0 (J : Nat → List qV → List qV → qW → Prop) (Q : qR) : qK := x_iload 1 (x_if_lt (b_X11_image_9 J Q) (x_iload 1 (x_int 3 (x_icmp_lt (x_aload 0 (x_get 11 1 (x_iload 1 (x_aald (x_ifnonnull (b_X11_image_33 J Q) (x_aload 0 (x_get 11 1 (x_iload 1 (q_F))))))))) (b_X11_image_9 J Q)))))
set_option maxRecDepth 100000 in
theorem s_X11_image_0 {p : Program} {l : Launch} {e : Env} {R : Room} {s : State} {m : MethodId} {args : Array Value} {below : List Frame} {meth : Method} {c : Code} {nW : Nat} {dC : Nat → ClassId} {dI : Nat → Nat → Nat} {k : Nat → ClassId} {g : Nat → Nat} {A : Nat → Prop} {J : Nat → List qV → List qV → qW → Prop} {Q : qR} (X : q_X p R s m args meth c cX11_image 2 nW 3 111 RX11 (some .boolean) dC dI k g A) (hJ : ∀ d : Nat, q_Sd p l e R s m args below meth c 2 nW dC dI k g A (MQ below (q_post (dC, dI) k g nW Q A) args s 0 0 A) d (x_cut (is_X11_image d) (J d))) : q_Sd p l e R s m args below meth c 2 nW dC dI k g A (MQ below (q_post (dC, dI) k g nW Q A) args s 0 0 A) 0 (b_X11_image_0 J Q) := by
  unfold b_X11_image_0
  refine s_iload_n X rfl dX11_image_0 ?_
  refine s_if_lt X (tgt := 9) dX11_image_1 (by decide) ?_ ?_
  · exact s_X11_image_9 X hJ
  · refine s_iload_n X rfl dX11_image_4 ?_
    refine s_iconst X ⟨by decide, by decide⟩ dX11_image_5 ?_
    refine s_icmp_lt X (tgt := 11) dX11_image_6 (by decide) ?_ ?_
    · refine s_aload_n X rfl dX11_image_11 ?_
      refine s_get X (T := TX11) (C := RX11) (N := 8) tu_X11 rfl (by decide) tw_327 dX11_image_12 ?_
      refine s_iload_n X rfl dX11_image_15 ?_
      refine s_aald X dX11_image_16 ?_
      refine s_ifnonnull X (tgt := 33) dX11_image_17 (by decide) ?_ ?_
      · exact s_X11_image_33 X hJ
      · refine s_aload_n X rfl dX11_image_20 ?_
        refine s_get X (T := TX11) (C := RX11) (N := 8) tu_X11 rfl (by decide) tw_327 dX11_image_21 ?_
        refine s_iload_n X rfl dX11_image_24 ?_
        exact s_F
    · exact s_X11_image_9 X hJ

def imC (γ : qG) (a z : Int) (γ' : qG) : Prop := (z = 1 ∧ (0 ≤ a ∧ a ≤ 2) ∧ ∃ j : Nat, γ.2.2 a.toNat = some (111 + 43 * j) ∧ cpG 1 j γ γ') ∨ (z = 0 ∧ ¬ (0 ≤ a ∧ a ≤ 2) ∧ γ' = γ)
def spI (n : Nat) : qS := fun av w Q => ∃ (γ : qG) (a : Int), PN γ n w ∧ av = [q2 0, q1 a] ∧ (0 ≤ a ∧ a ≤ 2 → ¬ γ.2.2 a.toNat = none) ∧ ∀ (z : Int) (γ' : qG) (w' : qW), PN γ' n w' → w'.length = w.length → imC γ a z γ' → Q (some (q1 z)) w'
theorem spI_mo (n : Nat) : ∀ (av : List qV) (w : qW) (P P' : Option qV → qW → Prop), (∀ r w1, P r w1 → P' r w1) → spI n av w P → spI n av w P' := fun av w P P' h hs => by
  obtain ⟨γ, a, h1, h2, h3, h4⟩ := hs
  exact ⟨γ, a, h1, h2, h3, fun z γ' w' a b c => h _ _ (h4 z γ' w' a b c)⟩
set_option maxHeartbeats 4000000 in
set_option maxRecDepth 100000 in
theorem mN_image0 (l : Launch) (n : Nat) : q_M l yX11_image cX11_image 2 (some .boolean) 3 111 (spI n) := by
  refine q_meth (by decide) (fun av w Q h => by obtain ⟨_, a, _, rfl, _⟩ := h; exact Nat.le_of_ble_eq_true rfl) ?_
  intro p e R s m args below meth c dC dI k g A av w Q hsp oka okw X
  obtain ⟨γ, a, hPN, rfl, hne, hQ⟩ := hsp
  have o_a : -2147483648 ≤ a ∧ a ≤ 2147483647 := oka _ (List.mem_of_getElem? (i := 1) rfl)
  refine s_mono (s_X11_image_0 X (J := fun _ _ _ _ => False) (fun d => s_cutF)) ?_
  rintro lv st w' ⟨rfl, rfl, rfl⟩
  obtain ⟨hPW, hlen9, ⟨eI, k0, k1, k2, hc⟩, hb⟩ := id hPN
  have hn3 := PN_3 hPN
  obtain ⟨_, eH, rfl⟩ := hPW 0 _ rfl
  apply And.intro
  · intro h1
    apply And.intro
    · exact Or.inl rfl
    exact hQ 0 γ _ hPN rfl (Or.inr ⟨rfl, by omega, rfl⟩)
  · intro h1
    apply And.intro
    · intro h6
      refine p_get eH rfl ?_
      refine p_aald eI rfl ⟨by omega, by omega⟩ ?_
      have hka : IMk n (γ.2.2 a.toNat) := by
        rcases (show a = 0 ∨ a = 1 ∨ a = 2 by omega) with rfl | rfl | rfl
        · exact k0
        · exact k1
        · exact k2
      have hgd : [γ.2.2 0, γ.2.2 1, γ.2.2 2].getD a.toNat none = γ.2.2 a.toNat := by
        rcases (show a = 0 ∨ a = 1 ∨ a = 2 by omega) with rfl | rfl | rfl <;> rfl
      rcases hka with hka | ⟨j, hj, hka⟩
      · exact absurd hka (hne ⟨by omega, by omega⟩)
      · rw [hgd, hka]
        obtain ⟨x, hx, hp⟩ := hb j hj 0 _ rfl
        obtain ⟨ln, fa, pl, rfl, -⟩ := hp
        refine p_get eH rfl ?_
        refine p_aald eI rfl ⟨by omega, by omega⟩ ?_
        rw [hgd, hka]
        refine p_get eH rfl ?_
        refine ⟨111 + 43 * j, [q2 1], [], _, rfl, rfl, hx, Nat.le_of_ble_eq_true rfl, ⟨γ, n, j, hPN, hj, by omega, rfl, fun γ' w' hw' hl' hc' _ => ?_⟩⟩
        apply And.intro
        · exact Or.inr rfl
        exact hQ 1 _ _ hw' hl' (Or.inl ⟨rfl, ⟨by omega, by omega⟩, j, hka, hc'⟩)
    · intro h6
      apply And.intro
      · exact Or.inl rfl
      exact hQ 0 γ _ hPN rfl (Or.inr ⟨rfl, by omega, rfl⟩)
