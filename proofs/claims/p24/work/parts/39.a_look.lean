/-! ===== what borough, deed, fact answer ===== -/
/-- a sight's facts -/
def SiR (p q : Nat → Int) (c k w r : Int) : Prop := (0 ≤ k ∧ k < c ∧ w = 0 ∧ r = p k.toNat) ∨ (0 ≤ k ∧ k < c ∧ w = 1 ∧ r = q k.toNat) ∨ (¬ (0 ≤ k ∧ k < c ∧ 0 ≤ w ∧ w ≤ 1) ∧ r = -2)
def FtR (p q : Nat → Int) (c k w r : Int) : Prop := (k = -1 ∧ w = 0 ∧ r = c) ∨ (k = -1 ∧ ¬ w = 0 ∧ r = -2) ∨ (¬ k = -1 ∧ SiR p q c k w r)
theorem SiR_e {p q p' q' : Nat → Int} {c k w r r' : Int} (h : SiR p q c k w r) (h' : SiR p' q' c k w r') (e : ∀ i : Nat, (i : Int) < c → p i = p' i ∧ q i = q' i) : r = r' := by
  rcases h with ⟨a1, a2, a3, a4⟩ | ⟨a1, a2, a3, a4⟩ | ⟨a1, a2⟩ <;> rcases h' with ⟨b1, b2, b3, b4⟩ | ⟨b1, b2, b3, b4⟩ | ⟨b1, b2⟩
  · rw [a4, b4]; exact (e k.toNat (by omega)).1
  · omega
  · omega
  · omega
  · rw [a4, b4]; exact (e k.toNat (by omega)).2
  · omega
  · omega
  · omega
  · omega
theorem FtR_e {p q p' q' : Nat → Int} {c c' k w r r' : Int} (h : FtR p q c k w r) (h' : FtR p' q' c' k w r') (hc : c = c') (e : ∀ i : Nat, (i : Int) < c → p i = p' i ∧ q i = q' i) : r = r' := by
  subst hc
  rcases h with ⟨a1, a2, a3⟩ | ⟨a1, a2, a3⟩ | ⟨a1, a2⟩ <;> rcases h' with ⟨b1, b2, b3⟩ | ⟨b1, b2, b3⟩ | ⟨b1, b2⟩
  · omega
  · omega
  · omega
  · omega
  · omega
  · omega
  · omega
  · omega
  · exact SiR_e a2 b2 e
/-- a year's deeds -/
def YeR (p q s t : Nat → Int) (c k w r : Int) : Prop := (0 ≤ k ∧ k < c ∧ w = 0 ∧ r = p k.toNat) ∨ (0 ≤ k ∧ k < c ∧ w = 1 ∧ r = q k.toNat) ∨ (0 ≤ k ∧ k < c ∧ w = 2 ∧ r = s k.toNat) ∨ (0 ≤ k ∧ k < c ∧ w = 3 ∧ r = t k.toNat) ∨ (¬ (0 ≤ k ∧ k < c ∧ 0 ≤ w ∧ w ≤ 3) ∧ r = -2)
def DeR (p q s t : Nat → Int) (c k w r : Int) : Prop := (k = -1 ∧ w = 0 ∧ r = c) ∨ (k = -1 ∧ ¬ w = 0 ∧ r = -2) ∨ (¬ k = -1 ∧ YeR p q s t c k w r)
theorem YeR_e {p q s t p' q' s' t' : Nat → Int} {c k w r r' : Int} (h : YeR p q s t c k w r) (h' : YeR p' q' s' t' c k w r') (e : ∀ i : Nat, (i : Int) < c → p i = p' i ∧ q i = q' i ∧ s i = s' i ∧ t i = t' i) : r = r' := by
  rcases h with ⟨a1, a2, a3, a4⟩ | ⟨a1, a2, a3, a4⟩ | ⟨a1, a2, a3, a4⟩ | ⟨a1, a2, a3, a4⟩ | ⟨a1, a2⟩ <;> rcases h' with ⟨b1, b2, b3, b4⟩ | ⟨b1, b2, b3, b4⟩ | ⟨b1, b2, b3, b4⟩ | ⟨b1, b2, b3, b4⟩ | ⟨b1, b2⟩ <;> first | omega | (rw [a4, b4]; exact (e k.toNat (by omega)).1) | (rw [a4, b4]; exact (e k.toNat (by omega)).2.1) | (rw [a4, b4]; exact (e k.toNat (by omega)).2.2.1) | (rw [a4, b4]; exact (e k.toNat (by omega)).2.2.2)
theorem DeR_e {p q s t p' q' s' t' : Nat → Int} {c c' k w r r' : Int} (h : DeR p q s t c k w r) (h' : DeR p' q' s' t' c' k w r') (hc : c = c') (e : ∀ i : Nat, (i : Int) < c → p i = p' i ∧ q i = q' i ∧ s i = s' i ∧ t i = t' i) : r = r' := by
  subst hc
  rcases h with ⟨a1, a2, a3⟩ | ⟨a1, a2, a3⟩ | ⟨a1, a2⟩ <;> rcases h' with ⟨b1, b2, b3⟩ | ⟨b1, b2, b3⟩ | ⟨b1, b2⟩ <;> first | omega | exact YeR_e a2 b2 e
/-- a row's entry -/
def EnR (f : Nat → Int) (n : Nat) (s k r : Int) : Prop := (0 ≤ k ∧ k < s ∧ k < n ∧ r = f k.toNat) ∨ (¬ (0 ≤ k ∧ k < s ∧ k < n) ∧ r = -2)
theorem EnR_e {f g : Nat → Int} {n : Nat} {s s' k r r' : Int} (h : EnR f n s k r) (h' : EnR g n s' k r') (hs : s = s') (e : ∀ i : Nat, i < n → f i = g i) : r = r' := by
  subst hs
  rcases h with ⟨a1, a2, a3, a4⟩ | ⟨a1, a2⟩ <;> rcases h' with ⟨b1, b2, b3, b4⟩ | ⟨b1, b2⟩
  · rw [a4, b4]; exact e _ (by omega)
  · exact absurd ⟨a1, a2, a3⟩ b1
  · exact absurd ⟨b1, b2, b3⟩ a1
  · rw [a2, b2]
def ToR (u0 u1 u2 u3 u4 a r : Int) : Prop := (a = 0 ∧ r = u0) ∨ (a = 1 ∧ r = u1) ∨ (a = 2 ∧ r = u2) ∨ (a = 3 ∧ r = u3) ∨ (a = 4 ∧ r = u4) ∨ (¬ (0 ≤ a ∧ a ≤ 4) ∧ r = -2)
theorem ToR_e {u0 u1 u2 u3 u4 a r r' : Int} (h : ToR u0 u1 u2 u3 u4 a r) (h' : ToR u0 u1 u2 u3 u4 a r') : r = r' := by
  unfold ToR at h h'
  omega
/-- a borough's numbers: f the rows, u the numbers -/
def BoR (f1 f2 f3 f4 f5 f6 f7 : Nat → Int) (u0 u1 u2 u3 u4 a r : Int) : Prop := (a < 10 ∧ ToR u0 u1 u2 u3 u4 a r) ∨ ((10 ≤ a ∧ a < 20) ∧ EnR f1 8 u0 (a - 10) r) ∨ ((20 ≤ a ∧ a < 30) ∧ EnR f2 8 u0 (a - 20) r) ∨ ((30 ≤ a ∧ a < 40) ∧ EnR f3 4 4 (a - 30) r) ∨ ((40 ≤ a ∧ a < 50) ∧ EnR f5 6 u3 (a - 40) r) ∨ ((50 ≤ a ∧ a < 60) ∧ EnR f6 6 u3 (a - 50) r) ∨ ((60 ≤ a ∧ a < 70) ∧ EnR f7 6 u4 (a - 60) r) ∨ (70 ≤ a ∧ EnR f4 32 (4 * u0) (a - 70) r)
theorem BoR_e {f1 f2 f3 f4 f5 f6 f7 g1 g2 g3 g4 g5 g6 g7 : Nat → Int} {u0 u1 u2 u3 u4 v0 v1 v2 v3 v4 a r r' : Int} (h : BoR f1 f2 f3 f4 f5 f6 f7 u0 u1 u2 u3 u4 a r) (h' : BoR g1 g2 g3 g4 g5 g6 g7 v0 v1 v2 v3 v4 a r') (hu : u0 = v0 ∧ u1 = v1 ∧ u2 = v2 ∧ u3 = v3 ∧ u4 = v4) (e1 : ∀ i : Nat, i < 8 → f1 i = g1 i) (e2 : ∀ i : Nat, i < 8 → f2 i = g2 i) (e3 : ∀ i : Nat, i < 4 → f3 i = g3 i) (e4 : ∀ i : Nat, i < 32 → f4 i = g4 i) (e5 : ∀ i : Nat, i < 6 → f5 i = g5 i) (e6 : ∀ i : Nat, i < 6 → f6 i = g6 i) (e7 : ∀ i : Nat, i < 6 → f7 i = g7 i) : r = r' := by
  obtain ⟨rfl, rfl, rfl, rfl, rfl⟩ := hu
  rcases h with ⟨x, h⟩ | ⟨x, h⟩ | ⟨x, h⟩ | ⟨x, h⟩ | ⟨x, h⟩ | ⟨x, h⟩ | ⟨x, h⟩ | ⟨x, h⟩ <;> rcases h' with ⟨y, k⟩ | ⟨y, k⟩ | ⟨y, k⟩ | ⟨y, k⟩ | ⟨y, k⟩ | ⟨y, k⟩ | ⟨y, k⟩ | ⟨y, k⟩ <;> first | (exfalso; omega) | exact ToR_e h k | exact EnR_e h k rfl e1 | exact EnR_e h k rfl e2 | exact EnR_e h k rfl e3 | exact EnR_e h k rfl e4 | exact EnR_e h k rfl e5 | exact EnR_e h k rfl e6 | exact EnR_e h k rfl e7

theorem dG0_total_0 : decode cX0_total 0 = .ok (.iload_n 1, 1) := by decide +kernel
theorem dG0_total_1 : decode cX0_total 1 = .ok (.tableswitch 60 0 4 #[35, 40, 45, 50, 55], 35) := by decide +kernel
theorem dG0_total_36 : decode cX0_total 36 = .ok (.aload_n 0, 1) := by decide +kernel
theorem dG0_total_37 : decode cX0_total 37 = .ok (.getfield 51, 3) := by decide +kernel
theorem dG0_total_40 : decode cX0_total 40 = .ok (.ireturn, 1) := by decide +kernel
theorem dG0_total_41 : decode cX0_total 41 = .ok (.aload_n 0, 1) := by decide +kernel
theorem dG0_total_42 : decode cX0_total 42 = .ok (.getfield 55, 3) := by decide +kernel
theorem dG0_total_45 : decode cX0_total 45 = .ok (.ireturn, 1) := by decide +kernel
theorem dG0_total_46 : decode cX0_total 46 = .ok (.aload_n 0, 1) := by decide +kernel
theorem dG0_total_47 : decode cX0_total 47 = .ok (.getfield 58, 3) := by decide +kernel
theorem dG0_total_50 : decode cX0_total 50 = .ok (.ireturn, 1) := by decide +kernel
theorem dG0_total_51 : decode cX0_total 51 = .ok (.aload_n 0, 1) := by decide +kernel
theorem dG0_total_52 : decode cX0_total 52 = .ok (.getfield 61, 3) := by decide +kernel
theorem dG0_total_55 : decode cX0_total 55 = .ok (.ireturn, 1) := by decide +kernel
theorem dG0_total_56 : decode cX0_total 56 = .ok (.aload_n 0, 1) := by decide +kernel
theorem dG0_total_57 : decode cX0_total 57 = .ok (.getfield 64, 3) := by decide +kernel
theorem dG0_total_60 : decode cX0_total 60 = .ok (.ireturn, 1) := by decide +kernel
theorem dG0_total_61 : decode cX0_total 61 = .ok (.bipush (-2), 2) := by decide +kernel
theorem dG0_total_63 : decode cX0_total 63 = .ok (.ireturn, 1) := by decide +kernel
def is_G0_total : Nat → List Nat := fun d => []
set_option maxRecDepth 100000 in
def b_G0_total_0 (J : Nat → List qV → List qV → qW → Prop) (Q : qR) : qK := x_iload 1 (x_sw 0 4 [x_aload 0 (x_get 0 7 (x_iret Q)), x_aload 0 (x_get 0 8 (x_iret Q)), x_aload 0 (x_get 0 9 (x_iret Q)), x_aload 0 (x_get 0 10 (x_iret Q)), x_aload 0 (x_get 0 11 (x_iret Q))] (x_int (-2) (x_iret Q)))
set_option maxRecDepth 100000 in
theorem s_G0_total_0 {p : Program} {l : Launch} {e : Env} {R : Room} {s : State} {m : MethodId} {args : Array Value} {below : List Frame} {meth : Method} {c : Code} {nW : Nat} {dC : Nat → ClassId} {dI : Nat → Nat → Nat} {k : Nat → ClassId} {g : Nat → Nat} {A : Nat → Prop} {J : Nat → List qV → List qV → qW → Prop} {Q : qR} (X : q_X p R s m args meth c cX0_total 2 nW 0 0 RX0 (some .int) dC dI k g A) (hJ : ∀ d : Nat, q_Sd p l e R s m args below meth c 2 nW dC dI k g A (MQ below (q_post (dC, dI) k g nW Q A) args s 0 0 A) d (x_cut (is_G0_total d) (J d))) : q_Sd p l e R s m args below meth c 2 nW dC dI k g A (MQ below (q_post (dC, dI) k g nW Q A) args s 0 0 A) 0 (b_G0_total_0 J Q) := by
  unfold b_G0_total_0
  refine s_iload_n X rfl dG0_total_0 ?_
  refine s_sw X (ts := [36, 41, 46, 51, 56]) (td := 61) dG0_total_1 (by decide) (by decide) (by decide) rfl ?_ ?_
  · intro i t K ht hK
    match i, ht, hK with
    | 0, ht, hK =>
      cases ht
      cases hK
      refine s_aload_n X rfl dG0_total_36 ?_
      refine s_get X (T := TX0) (C := RX0) (N := 12) tu_X0 rfl (by decide) tw_193 dG0_total_37 ?_
      exact s_iret X dG0_total_40
    | 1, ht, hK =>
      cases ht
      cases hK
      refine s_aload_n X rfl dG0_total_41 ?_
      refine s_get X (T := TX0) (C := RX0) (N := 12) tu_X0 rfl (by decide) tw_198 dG0_total_42 ?_
      exact s_iret X dG0_total_45
    | 2, ht, hK =>
      cases ht
      cases hK
      refine s_aload_n X rfl dG0_total_46 ?_
      refine s_get X (T := TX0) (C := RX0) (N := 12) tu_X0 rfl (by decide) tw_200 dG0_total_47 ?_
      exact s_iret X dG0_total_50
    | 3, ht, hK =>
      cases ht
      cases hK
      refine s_aload_n X rfl dG0_total_51 ?_
      refine s_get X (T := TX0) (C := RX0) (N := 12) tu_X0 rfl (by decide) tw_203 dG0_total_52 ?_
      exact s_iret X dG0_total_55
    | 4, ht, hK =>
      cases ht
      cases hK
      refine s_aload_n X rfl dG0_total_56 ?_
      refine s_get X (T := TX0) (C := RX0) (N := 12) tu_X0 rfl (by decide) tw_207 dG0_total_57 ?_
      exact s_iret X dG0_total_60
    | i + 5, ht, hK => exact absurd ht (by simp)
  · refine s_bipush X ⟨by decide, by decide⟩ (by decide) dG0_total_61 ?_
    exact s_iret X dG0_total_63

def spr_G0_total : List qV → qW → (Option qV → Prop) → Prop := fun av w Q => ∃ (f1 : Nat → Int) (f2 : Nat → Int) (f3 : Nat → Int) (f4 : Nat → Int) (f5 : Nat → Int) (f6 : Nat → Int) (f7 : Nat → Int) (u0 : Int) (u1 : Int) (u2 : Int) (u3 : Int) (u4 : Int) (a : Int), av = [q2 0, q1 a] ∧ w = wB f1 f2 f3 f4 f5 f6 f7 u0 u1 u2 u3 u4 ∧ (∀ (r : Int) , ToR u0 u1 u2 u3 u4 a r → Q (some (q1 r)))
def sp_G0_total : qS := fun av w Q => spr_G0_total av w (fun r => Q r w)
set_option maxHeartbeats 4000000 in
set_option maxRecDepth 100000 in
theorem m_G0_total (l : Launch) : q_M l yX0_total cX0_total 2 (some .int) 0 0 sp_G0_total := by
  refine q_meth (by decide) (fun av w Q h => by obtain ⟨f1, f2, f3, f4, f5, f6, f7, u0, u1, u2, u3, u4, a, rfl, rfl, hQ⟩ := h; exact Nat.le_of_ble_eq_true rfl) ?_
  intro p e R s m args below meth c dC dI k g A av w Q hsp oka okw X
  obtain ⟨f1, f2, f3, f4, f5, f6, f7, u0, u1, u2, u3, u4, a, rfl, rfl, hQ⟩ := hsp
  have o_a : -2147483648 ≤ a ∧ a ≤ 2147483647 := oka _ (List.mem_of_getElem? (i := 1) rfl)
  refine s_mono (s_G0_total_0 X (J := fun _ _ _ _ => False) (fun d => s_cutF)) ?_
  rintro lv st w' ⟨rfl, rfl, rfl⟩
  apply And.intro
  · apply And.intro
    · intro h1
      exact hQ _ (by unfold ToR; omega)
    apply And.intro
    · intro h1
      exact hQ _ (by unfold ToR; omega)
    apply And.intro
    · intro h1
      exact hQ _ (by unfold ToR; omega)
    apply And.intro
    · intro h1
      exact hQ _ (by unfold ToR; omega)
    apply And.intro
    · intro h1
      exact hQ _ (by unfold ToR; omega)
    exact trivial
  · intro h1
    exact hQ _ (by unfold ToR; omega)

theorem dG0_entry_0 : decode cX0_entry 0 = .ok (.iload_n 2, 1) := by decide +kernel
theorem dG0_entry_1 : decode cX0_entry 1 = .ok (.ifCond .lt 14, 3) := by decide +kernel
theorem dG0_entry_4 : decode cX0_entry 4 = .ok (.iload_n 2, 1) := by decide +kernel
theorem dG0_entry_5 : decode cX0_entry 5 = .ok (.iload_n 1, 1) := by decide +kernel
theorem dG0_entry_6 : decode cX0_entry 6 = .ok (.if_icmp .ge 9, 3) := by decide +kernel
theorem dG0_entry_9 : decode cX0_entry 9 = .ok (.iload_n 2, 1) := by decide +kernel
theorem dG0_entry_10 : decode cX0_entry 10 = .ok (.aload_n 0, 1) := by decide +kernel
theorem dG0_entry_11 : decode cX0_entry 11 = .ok (.arraylength, 1) := by decide +kernel
theorem dG0_entry_12 : decode cX0_entry 12 = .ok (.if_icmp .lt 8, 3) := by decide +kernel
theorem dG0_entry_15 : decode cX0_entry 15 = .ok (.bipush (-2), 2) := by decide +kernel
theorem dG0_entry_17 : decode cX0_entry 17 = .ok (.goto 6, 3) := by decide +kernel
theorem dG0_entry_20 : decode cX0_entry 20 = .ok (.aload_n 0, 1) := by decide +kernel
theorem dG0_entry_21 : decode cX0_entry 21 = .ok (.iload_n 2, 1) := by decide +kernel
theorem dG0_entry_22 : decode cX0_entry 22 = .ok (.iaload, 1) := by decide +kernel
theorem dG0_entry_23 : decode cX0_entry 23 = .ok (.ireturn, 1) := by decide +kernel
def is_G0_entry : Nat → List Nat := fun d => []
set_option maxRecDepth 100000 in
def b_G0_entry_23 (J : Nat → List qV → List qV → qW → Prop) (Q : qR) : qK := x_iret Q
set_option maxRecDepth 100000 in
theorem s_G0_entry_23 {p : Program} {l : Launch} {e : Env} {R : Room} {s : State} {m : MethodId} {args : Array Value} {below : List Frame} {meth : Method} {c : Code} {nW : Nat} {dC : Nat → ClassId} {dI : Nat → Nat → Nat} {k : Nat → ClassId} {g : Nat → Nat} {A : Nat → Prop} {J : Nat → List qV → List qV → qW → Prop} {Q : qR} (X : q_X p R s m args meth c cX0_entry 3 nW 0 0 RX0 (some .int) dC dI k g A) (hJ : ∀ d : Nat, q_Sd p l e R s m args below meth c 3 nW dC dI k g A (MQ below (q_post (dC, dI) k g nW Q A) args s 0 0 A) d (x_cut (is_G0_entry d) (J d))) : q_Sd p l e R s m args below meth c 3 nW dC dI k g A (MQ below (q_post (dC, dI) k g nW Q A) args s 0 0 A) 23 (b_G0_entry_23 J Q) := by
  unfold b_G0_entry_23
  exact s_iret X dG0_entry_23
set_option maxRecDepth 100000 in
def b_G0_entry_15 (J : Nat → List qV → List qV → qW → Prop) (Q : qR) : qK := x_int (-2) (b_G0_entry_23 J Q)
set_option maxRecDepth 100000 in
theorem s_G0_entry_15 {p : Program} {l : Launch} {e : Env} {R : Room} {s : State} {m : MethodId} {args : Array Value} {below : List Frame} {meth : Method} {c : Code} {nW : Nat} {dC : Nat → ClassId} {dI : Nat → Nat → Nat} {k : Nat → ClassId} {g : Nat → Nat} {A : Nat → Prop} {J : Nat → List qV → List qV → qW → Prop} {Q : qR} (X : q_X p R s m args meth c cX0_entry 3 nW 0 0 RX0 (some .int) dC dI k g A) (hJ : ∀ d : Nat, q_Sd p l e R s m args below meth c 3 nW dC dI k g A (MQ below (q_post (dC, dI) k g nW Q A) args s 0 0 A) d (x_cut (is_G0_entry d) (J d))) : q_Sd p l e R s m args below meth c 3 nW dC dI k g A (MQ below (q_post (dC, dI) k g nW Q A) args s 0 0 A) 15 (b_G0_entry_15 J Q) := by
  unfold b_G0_entry_15
  refine s_bipush X ⟨by decide, by decide⟩ (by decide) dG0_entry_15 ?_
  refine s_goto X (tgt := 23) dG0_entry_17 (by decide) ?_
  exact s_G0_entry_23 X hJ
set_option maxRecDepth 100000 in
def b_G0_entry_0 (J : Nat → List qV → List qV → qW → Prop) (Q : qR) : qK := x_iload 2 (x_if_lt (b_G0_entry_15 J Q) (x_iload 2 (x_iload 1 (x_icmp_ge (b_G0_entry_15 J Q) (x_iload 2 (x_aload 0 (x_alen (x_icmp_lt (x_aload 0 (x_iload 2 (x_iald (b_G0_entry_23 J Q)))) (b_G0_entry_15 J Q)))))))))
set_option maxRecDepth 100000 in
theorem s_G0_entry_0 {p : Program} {l : Launch} {e : Env} {R : Room} {s : State} {m : MethodId} {args : Array Value} {below : List Frame} {meth : Method} {c : Code} {nW : Nat} {dC : Nat → ClassId} {dI : Nat → Nat → Nat} {k : Nat → ClassId} {g : Nat → Nat} {A : Nat → Prop} {J : Nat → List qV → List qV → qW → Prop} {Q : qR} (X : q_X p R s m args meth c cX0_entry 3 nW 0 0 RX0 (some .int) dC dI k g A) (hJ : ∀ d : Nat, q_Sd p l e R s m args below meth c 3 nW dC dI k g A (MQ below (q_post (dC, dI) k g nW Q A) args s 0 0 A) d (x_cut (is_G0_entry d) (J d))) : q_Sd p l e R s m args below meth c 3 nW dC dI k g A (MQ below (q_post (dC, dI) k g nW Q A) args s 0 0 A) 0 (b_G0_entry_0 J Q) := by
  unfold b_G0_entry_0
  refine s_iload_n X rfl dG0_entry_0 ?_
  refine s_if_lt X (tgt := 15) dG0_entry_1 (by decide) ?_ ?_
  · exact s_G0_entry_15 X hJ
  · refine s_iload_n X rfl dG0_entry_4 ?_
    refine s_iload_n X rfl dG0_entry_5 ?_
    refine s_icmp_ge X (tgt := 15) dG0_entry_6 (by decide) ?_ ?_
    · exact s_G0_entry_15 X hJ
    · refine s_iload_n X rfl dG0_entry_9 ?_
      refine s_aload_n X rfl dG0_entry_10 ?_
      refine s_alen X dG0_entry_11 ?_
      refine s_icmp_lt X (tgt := 20) dG0_entry_12 (by decide) ?_ ?_
      · refine s_aload_n X rfl dG0_entry_20 ?_
        refine s_iload_n X rfl dG0_entry_21 ?_
        refine s_iald X dG0_entry_22 ?_
        exact s_G0_entry_23 X hJ
      · exact s_G0_entry_15 X hJ

def spr_G0_entry : List qV → qW → (Option qV → Prop) → Prop := fun av w Q => ∃ (n : Nat) (f : Nat → Int) (a : Int) (b : Int), av = [q2 0, q1 a, q1 b] ∧ w = [.inl (0, n, .inl f)] ∧ (n < 2147483648) ∧ (∀ (r : Int) , EnR f n a b r → Q (some (q1 r)))
def sp_G0_entry : qS := fun av w Q => spr_G0_entry av w (fun r => Q r w)
set_option maxHeartbeats 4000000 in
set_option maxRecDepth 100000 in
theorem m_G0_entry (l : Launch) : q_M l yX0_entry cX0_entry 3 (some .int) 0 0 sp_G0_entry := by
  refine q_meth (by decide) (fun av w Q h => by obtain ⟨n, f, a, b, rfl, rfl, hn, hQ⟩ := h; exact Nat.le_of_ble_eq_true rfl) ?_
  intro p e R s m args below meth c dC dI k g A av w Q hsp oka okw X
  obtain ⟨n, f, a, b, rfl, rfl, hn, hQ⟩ := hsp
  have o_a : -2147483648 ≤ a ∧ a ≤ 2147483647 := oka _ (List.mem_of_getElem? (i := 1) rfl)
  have o_b : -2147483648 ≤ b ∧ b ≤ 2147483647 := oka _ (List.mem_of_getElem? (i := 2) rfl)
  refine s_mono (s_G0_entry_0 X (J := fun _ _ _ _ => False) (fun d => s_cutF)) ?_
  rintro lv st w' ⟨rfl, rfl, rfl⟩
  apply And.intro
  · intro h1
    exact hQ _ (by first | exact Or.inr ⟨by omega, rfl⟩ | exact Or.inl ⟨by omega, by omega, by omega, by assumption⟩)
  · intro h1
    apply And.intro
    · intro h6
      exact hQ _ (by first | exact Or.inr ⟨by omega, rfl⟩ | exact Or.inl ⟨by omega, by omega, by omega, by assumption⟩)
    · intro h6
      apply And.intro
      · omega
      apply And.intro
      · intro h12
        apply And.intro
        · exact ⟨by omega, by omega⟩
        intro z22 h22
        exact hQ _ (by first | exact Or.inr ⟨by omega, rfl⟩ | exact Or.inl ⟨by omega, by omega, by omega, by assumption⟩)
      · intro h12
        exact hQ _ (by first | exact Or.inr ⟨by omega, rfl⟩ | exact Or.inl ⟨by omega, by omega, by omega, by assumption⟩)

theorem dG0_look_0 : decode cX0_look 0 = .ok (.iload_n 1, 1) := by decide +kernel
theorem dG0_look_1 : decode cX0_look 1 = .ok (.bipush 10, 2) := by decide +kernel
theorem dG0_look_3 : decode cX0_look 3 = .ok (.if_icmp .ge 9, 3) := by decide +kernel
theorem dG0_look_6 : decode cX0_look 6 = .ok (.aload_n 0, 1) := by decide +kernel
theorem dG0_look_7 : decode cX0_look 7 = .ok (.iload_n 1, 1) := by decide +kernel
theorem dG0_look_8 : decode cX0_look 8 = .ok (.invokevirtual 67, 3) := by decide +kernel
theorem dG0_look_11 : decode cX0_look 11 = .ok (.ireturn, 1) := by decide +kernel
theorem dG0_look_12 : decode cX0_look 12 = .ok (.iload_n 1, 1) := by decide +kernel
theorem dG0_look_13 : decode cX0_look 13 = .ok (.bipush 20, 2) := by decide +kernel
theorem dG0_look_15 : decode cX0_look 15 = .ok (.if_icmp .ge 19, 3) := by decide +kernel
theorem dG0_look_18 : decode cX0_look 18 = .ok (.aload_n 0, 1) := by decide +kernel
theorem dG0_look_19 : decode cX0_look 19 = .ok (.getfield 9, 3) := by decide +kernel
theorem dG0_look_22 : decode cX0_look 22 = .ok (.aload_n 0, 1) := by decide +kernel
theorem dG0_look_23 : decode cX0_look 23 = .ok (.getfield 51, 3) := by decide +kernel
theorem dG0_look_26 : decode cX0_look 26 = .ok (.iload_n 1, 1) := by decide +kernel
theorem dG0_look_27 : decode cX0_look 27 = .ok (.bipush 10, 2) := by decide +kernel
theorem dG0_look_29 : decode cX0_look 29 = .ok (.isub, 1) := by decide +kernel
theorem dG0_look_30 : decode cX0_look 30 = .ok (.invokestatic 71, 3) := by decide +kernel
theorem dG0_look_33 : decode cX0_look 33 = .ok (.ireturn, 1) := by decide +kernel
theorem dG0_look_34 : decode cX0_look 34 = .ok (.iload_n 1, 1) := by decide +kernel
theorem dG0_look_35 : decode cX0_look 35 = .ok (.bipush 30, 2) := by decide +kernel
theorem dG0_look_37 : decode cX0_look 37 = .ok (.if_icmp .ge 19, 3) := by decide +kernel
theorem dG0_look_40 : decode cX0_look 40 = .ok (.aload_n 0, 1) := by decide +kernel
theorem dG0_look_41 : decode cX0_look 41 = .ok (.getfield 15, 3) := by decide +kernel
theorem dG0_look_44 : decode cX0_look 44 = .ok (.aload_n 0, 1) := by decide +kernel
theorem dG0_look_45 : decode cX0_look 45 = .ok (.getfield 51, 3) := by decide +kernel
theorem dG0_look_48 : decode cX0_look 48 = .ok (.iload_n 1, 1) := by decide +kernel
theorem dG0_look_49 : decode cX0_look 49 = .ok (.bipush 20, 2) := by decide +kernel
theorem dG0_look_51 : decode cX0_look 51 = .ok (.isub, 1) := by decide +kernel
theorem dG0_look_52 : decode cX0_look 52 = .ok (.invokestatic 71, 3) := by decide +kernel
theorem dG0_look_55 : decode cX0_look 55 = .ok (.ireturn, 1) := by decide +kernel
theorem dG0_look_56 : decode cX0_look 56 = .ok (.iload_n 1, 1) := by decide +kernel
theorem dG0_look_57 : decode cX0_look 57 = .ok (.bipush 40, 2) := by decide +kernel
theorem dG0_look_59 : decode cX0_look 59 = .ok (.if_icmp .ge 16, 3) := by decide +kernel
theorem dG0_look_62 : decode cX0_look 62 = .ok (.aload_n 0, 1) := by decide +kernel
theorem dG0_look_63 : decode cX0_look 63 = .ok (.getfield 18, 3) := by decide +kernel
theorem dG0_look_66 : decode cX0_look 66 = .ok (.iconst 4, 1) := by decide +kernel
theorem dG0_look_67 : decode cX0_look 67 = .ok (.iload_n 1, 1) := by decide +kernel
theorem dG0_look_68 : decode cX0_look 68 = .ok (.bipush 30, 2) := by decide +kernel
theorem dG0_look_70 : decode cX0_look 70 = .ok (.isub, 1) := by decide +kernel
theorem dG0_look_71 : decode cX0_look 71 = .ok (.invokestatic 71, 3) := by decide +kernel
theorem dG0_look_74 : decode cX0_look 74 = .ok (.ireturn, 1) := by decide +kernel
theorem dG0_look_75 : decode cX0_look 75 = .ok (.iload_n 1, 1) := by decide +kernel
theorem dG0_look_76 : decode cX0_look 76 = .ok (.bipush 50, 2) := by decide +kernel
theorem dG0_look_78 : decode cX0_look 78 = .ok (.if_icmp .ge 19, 3) := by decide +kernel
theorem dG0_look_81 : decode cX0_look 81 = .ok (.aload_n 0, 1) := by decide +kernel
theorem dG0_look_82 : decode cX0_look 82 = .ok (.getfield 24, 3) := by decide +kernel
theorem dG0_look_85 : decode cX0_look 85 = .ok (.aload_n 0, 1) := by decide +kernel
theorem dG0_look_86 : decode cX0_look 86 = .ok (.getfield 61, 3) := by decide +kernel
theorem dG0_look_89 : decode cX0_look 89 = .ok (.iload_n 1, 1) := by decide +kernel
theorem dG0_look_90 : decode cX0_look 90 = .ok (.bipush 40, 2) := by decide +kernel
theorem dG0_look_92 : decode cX0_look 92 = .ok (.isub, 1) := by decide +kernel
theorem dG0_look_93 : decode cX0_look 93 = .ok (.invokestatic 71, 3) := by decide +kernel
theorem dG0_look_96 : decode cX0_look 96 = .ok (.ireturn, 1) := by decide +kernel
theorem dG0_look_97 : decode cX0_look 97 = .ok (.iload_n 1, 1) := by decide +kernel
theorem dG0_look_98 : decode cX0_look 98 = .ok (.bipush 60, 2) := by decide +kernel
theorem dG0_look_100 : decode cX0_look 100 = .ok (.if_icmp .ge 19, 3) := by decide +kernel
theorem dG0_look_103 : decode cX0_look 103 = .ok (.aload_n 0, 1) := by decide +kernel
theorem dG0_look_104 : decode cX0_look 104 = .ok (.getfield 27, 3) := by decide +kernel
theorem dG0_look_107 : decode cX0_look 107 = .ok (.aload_n 0, 1) := by decide +kernel
theorem dG0_look_108 : decode cX0_look 108 = .ok (.getfield 61, 3) := by decide +kernel
theorem dG0_look_111 : decode cX0_look 111 = .ok (.iload_n 1, 1) := by decide +kernel
theorem dG0_look_112 : decode cX0_look 112 = .ok (.bipush 50, 2) := by decide +kernel
theorem dG0_look_114 : decode cX0_look 114 = .ok (.isub, 1) := by decide +kernel
theorem dG0_look_115 : decode cX0_look 115 = .ok (.invokestatic 71, 3) := by decide +kernel
theorem dG0_look_118 : decode cX0_look 118 = .ok (.ireturn, 1) := by decide +kernel
theorem dG0_look_119 : decode cX0_look 119 = .ok (.iload_n 1, 1) := by decide +kernel
theorem dG0_look_120 : decode cX0_look 120 = .ok (.bipush 70, 2) := by decide +kernel
theorem dG0_look_122 : decode cX0_look 122 = .ok (.if_icmp .ge 19, 3) := by decide +kernel
theorem dG0_look_125 : decode cX0_look 125 = .ok (.aload_n 0, 1) := by decide +kernel
theorem dG0_look_126 : decode cX0_look 126 = .ok (.getfield 30, 3) := by decide +kernel
theorem dG0_look_129 : decode cX0_look 129 = .ok (.aload_n 0, 1) := by decide +kernel
theorem dG0_look_130 : decode cX0_look 130 = .ok (.getfield 64, 3) := by decide +kernel
theorem dG0_look_133 : decode cX0_look 133 = .ok (.iload_n 1, 1) := by decide +kernel
theorem dG0_look_134 : decode cX0_look 134 = .ok (.bipush 60, 2) := by decide +kernel
theorem dG0_look_136 : decode cX0_look 136 = .ok (.isub, 1) := by decide +kernel
theorem dG0_look_137 : decode cX0_look 137 = .ok (.invokestatic 71, 3) := by decide +kernel
theorem dG0_look_140 : decode cX0_look 140 = .ok (.ireturn, 1) := by decide +kernel
theorem dG0_look_141 : decode cX0_look 141 = .ok (.aload_n 0, 1) := by decide +kernel
theorem dG0_look_142 : decode cX0_look 142 = .ok (.getfield 21, 3) := by decide +kernel
theorem dG0_look_145 : decode cX0_look 145 = .ok (.iconst 4, 1) := by decide +kernel
theorem dG0_look_146 : decode cX0_look 146 = .ok (.aload_n 0, 1) := by decide +kernel
theorem dG0_look_147 : decode cX0_look 147 = .ok (.getfield 51, 3) := by decide +kernel
theorem dG0_look_150 : decode cX0_look 150 = .ok (.imul, 1) := by decide +kernel
theorem dG0_look_151 : decode cX0_look 151 = .ok (.iload_n 1, 1) := by decide +kernel
theorem dG0_look_152 : decode cX0_look 152 = .ok (.bipush 70, 2) := by decide +kernel
theorem dG0_look_154 : decode cX0_look 154 = .ok (.isub, 1) := by decide +kernel
theorem dG0_look_155 : decode cX0_look 155 = .ok (.invokestatic 71, 3) := by decide +kernel
theorem dG0_look_158 : decode cX0_look 158 = .ok (.ireturn, 1) := by decide +kernel
def is_G0_look : Nat → List Nat := fun d => []
set_option maxRecDepth 100000 in
def b_G0_look_130 (J : Nat → List qV → List qV → qW → Prop) (Q : qR) : qK := x_get 0 11 (x_iload 1 (x_int 60 (x_isub (x_callr none 3 spr_G0_entry (x_iret Q)))))
set_option maxRecDepth 100000 in
theorem s_G0_look_130 {p : Program} {l : Launch} {e : Env} {R : Room} {s : State} {m : MethodId} {args : Array Value} {below : List Frame} {meth : Method} {c : Code} {nW : Nat} {dC : Nat → ClassId} {dI : Nat → Nat → Nat} {k : Nat → ClassId} {g : Nat → Nat} {A : Nat → Prop} {J : Nat → List qV → List qV → qW → Prop} {Q : qR} (X : q_X p R s m args meth c cX0_look 2 nW 1 22 RX0 (some .int) dC dI k g A) (hJ : ∀ d : Nat, q_Sd p l e R s m args below meth c 2 nW dC dI k g A (MQ below (q_post (dC, dI) k g nW Q A) args s 0 0 A) d (x_cut (is_G0_look d) (J d))) : q_Sd p l e R s m args below meth c 2 nW dC dI k g A (MQ below (q_post (dC, dI) k g nW Q A) args s 0 0 A) 130 (b_G0_look_130 J Q) := by
  unfold b_G0_look_130
  refine s_get X (T := TX0) (C := RX0) (N := 12) tu_X0 rfl (by decide) tw_207 dG0_look_130 ?_
  refine s_iload_n X rfl dG0_look_133 ?_
  refine s_bipush X ⟨by decide, by decide⟩ (by decide) dG0_look_134 ?_
  refine s_isub X dG0_look_136 ?_
  refine s_callSr X (m_G0_entry l) tw_552 tw_553 tw_122 tw_554 (by decide +kernel) ⟨by decide, by decide⟩ dG0_look_137 ?_
  exact s_iret X dG0_look_140
set_option maxRecDepth 100000 in
def b_G0_look_86 (J : Nat → List qV → List qV → qW → Prop) (Q : qR) : qK := x_get 0 10 (x_iload 1 (x_int 40 (x_isub (x_callr none 3 spr_G0_entry (x_iret Q)))))
set_option maxRecDepth 100000 in
theorem s_G0_look_86 {p : Program} {l : Launch} {e : Env} {R : Room} {s : State} {m : MethodId} {args : Array Value} {below : List Frame} {meth : Method} {c : Code} {nW : Nat} {dC : Nat → ClassId} {dI : Nat → Nat → Nat} {k : Nat → ClassId} {g : Nat → Nat} {A : Nat → Prop} {J : Nat → List qV → List qV → qW → Prop} {Q : qR} (X : q_X p R s m args meth c cX0_look 2 nW 1 22 RX0 (some .int) dC dI k g A) (hJ : ∀ d : Nat, q_Sd p l e R s m args below meth c 2 nW dC dI k g A (MQ below (q_post (dC, dI) k g nW Q A) args s 0 0 A) d (x_cut (is_G0_look d) (J d))) : q_Sd p l e R s m args below meth c 2 nW dC dI k g A (MQ below (q_post (dC, dI) k g nW Q A) args s 0 0 A) 86 (b_G0_look_86 J Q) := by
  unfold b_G0_look_86
  refine s_get X (T := TX0) (C := RX0) (N := 12) tu_X0 rfl (by decide) tw_203 dG0_look_86 ?_
  refine s_iload_n X rfl dG0_look_89 ?_
  refine s_bipush X ⟨by decide, by decide⟩ (by decide) dG0_look_90 ?_
  refine s_isub X dG0_look_92 ?_
  refine s_callSr X (m_G0_entry l) tw_552 tw_553 tw_122 tw_554 (by decide +kernel) ⟨by decide, by decide⟩ dG0_look_93 ?_
  exact s_iret X dG0_look_96
set_option maxRecDepth 100000 in
def b_G0_look_44 (J : Nat → List qV → List qV → qW → Prop) (Q : qR) : qK := x_aload 0 (x_get 0 7 (x_iload 1 (x_int 20 (x_isub (x_callr none 3 spr_G0_entry (x_iret Q))))))
set_option maxRecDepth 100000 in
theorem s_G0_look_44 {p : Program} {l : Launch} {e : Env} {R : Room} {s : State} {m : MethodId} {args : Array Value} {below : List Frame} {meth : Method} {c : Code} {nW : Nat} {dC : Nat → ClassId} {dI : Nat → Nat → Nat} {k : Nat → ClassId} {g : Nat → Nat} {A : Nat → Prop} {J : Nat → List qV → List qV → qW → Prop} {Q : qR} (X : q_X p R s m args meth c cX0_look 2 nW 1 22 RX0 (some .int) dC dI k g A) (hJ : ∀ d : Nat, q_Sd p l e R s m args below meth c 2 nW dC dI k g A (MQ below (q_post (dC, dI) k g nW Q A) args s 0 0 A) d (x_cut (is_G0_look d) (J d))) : q_Sd p l e R s m args below meth c 2 nW dC dI k g A (MQ below (q_post (dC, dI) k g nW Q A) args s 0 0 A) 44 (b_G0_look_44 J Q) := by
  unfold b_G0_look_44
  refine s_aload_n X rfl dG0_look_44 ?_
  refine s_get X (T := TX0) (C := RX0) (N := 12) tu_X0 rfl (by decide) tw_193 dG0_look_45 ?_
  refine s_iload_n X rfl dG0_look_48 ?_
  refine s_bipush X ⟨by decide, by decide⟩ (by decide) dG0_look_49 ?_
  refine s_isub X dG0_look_51 ?_
  refine s_callSr X (m_G0_entry l) tw_552 tw_553 tw_122 tw_554 (by decide +kernel) ⟨by decide, by decide⟩ dG0_look_52 ?_
  exact s_iret X dG0_look_55
set_option maxRecDepth 100000 in
def b_G0_look_0 (J : Nat → List qV → List qV → qW → Prop) (Q : qR) : qK := x_iload 1 (x_int 10 (x_icmp_ge (x_iload 1 (x_int 20 (x_icmp_ge (x_iload 1 (x_int 30 (x_icmp_ge (x_iload 1 (x_int 40 (x_icmp_ge (x_iload 1 (x_int 50 (x_icmp_ge (x_iload 1 (x_int 60 (x_icmp_ge (x_iload 1 (x_int 70 (x_icmp_ge (x_aload 0 (x_get 0 3 (x_int 4 (x_aload 0 (x_get 0 7 (x_imul (x_iload 1 (x_int 70 (x_isub (x_callr none 3 spr_G0_entry (x_iret Q))))))))))) (x_aload 0 (x_get 0 6 (x_aload 0 (b_G0_look_130 J Q))))))) (x_aload 0 (x_get 0 5 (x_aload 0 (x_get 0 10 (x_iload 1 (x_int 50 (x_isub (x_callr none 3 spr_G0_entry (x_iret Q)))))))))))) (x_aload 0 (x_get 0 4 (x_aload 0 (b_G0_look_86 J Q))))))) (x_aload 0 (x_get 0 2 (x_int 4 (x_iload 1 (x_int 30 (x_isub (x_callr none 3 spr_G0_entry (x_iret Q))))))))))) (x_aload 0 (x_get 0 1 (b_G0_look_44 J Q)))))) (x_aload 0 (x_get 0 0 (x_aload 0 (x_get 0 7 (x_iload 1 (x_int 10 (x_isub (x_callr none 3 spr_G0_entry (x_iret Q)))))))))))) (x_aload 0 (x_iload 1 (x_callr (some 0) 2 spr_G0_total (x_iret Q))))))
set_option maxRecDepth 100000 in
theorem s_G0_look_0 {p : Program} {l : Launch} {e : Env} {R : Room} {s : State} {m : MethodId} {args : Array Value} {below : List Frame} {meth : Method} {c : Code} {nW : Nat} {dC : Nat → ClassId} {dI : Nat → Nat → Nat} {k : Nat → ClassId} {g : Nat → Nat} {A : Nat → Prop} {J : Nat → List qV → List qV → qW → Prop} {Q : qR} (X : q_X p R s m args meth c cX0_look 2 nW 1 22 RX0 (some .int) dC dI k g A) (hJ : ∀ d : Nat, q_Sd p l e R s m args below meth c 2 nW dC dI k g A (MQ below (q_post (dC, dI) k g nW Q A) args s 0 0 A) d (x_cut (is_G0_look d) (J d))) : q_Sd p l e R s m args below meth c 2 nW dC dI k g A (MQ below (q_post (dC, dI) k g nW Q A) args s 0 0 A) 0 (b_G0_look_0 J Q) := by
  unfold b_G0_look_0
  refine s_iload_n X rfl dG0_look_0 ?_
  refine s_bipush X ⟨by decide, by decide⟩ (by decide) dG0_look_1 ?_
  refine s_icmp_ge X (tgt := 12) dG0_look_3 (by decide) ?_ ?_
  · refine s_iload_n X rfl dG0_look_12 ?_
    refine s_bipush X ⟨by decide, by decide⟩ (by decide) dG0_look_13 ?_
    refine s_icmp_ge X (tgt := 34) dG0_look_15 (by decide) ?_ ?_
    · refine s_iload_n X rfl dG0_look_34 ?_
      refine s_bipush X ⟨by decide, by decide⟩ (by decide) dG0_look_35 ?_
      refine s_icmp_ge X (tgt := 56) dG0_look_37 (by decide) ?_ ?_
      · refine s_iload_n X rfl dG0_look_56 ?_
        refine s_bipush X ⟨by decide, by decide⟩ (by decide) dG0_look_57 ?_
        refine s_icmp_ge X (tgt := 75) dG0_look_59 (by decide) ?_ ?_
        · refine s_iload_n X rfl dG0_look_75 ?_
          refine s_bipush X ⟨by decide, by decide⟩ (by decide) dG0_look_76 ?_
          refine s_icmp_ge X (tgt := 97) dG0_look_78 (by decide) ?_ ?_
          · refine s_iload_n X rfl dG0_look_97 ?_
            refine s_bipush X ⟨by decide, by decide⟩ (by decide) dG0_look_98 ?_
            refine s_icmp_ge X (tgt := 119) dG0_look_100 (by decide) ?_ ?_
            · refine s_iload_n X rfl dG0_look_119 ?_
              refine s_bipush X ⟨by decide, by decide⟩ (by decide) dG0_look_120 ?_
              refine s_icmp_ge X (tgt := 141) dG0_look_122 (by decide) ?_ ?_
              · refine s_aload_n X rfl dG0_look_141 ?_
                refine s_get X (T := TX0) (C := RX0) (N := 12) tu_X0 rfl (by decide) tw_179 dG0_look_142 ?_
                refine s_iconst X ⟨by decide, by decide⟩ dG0_look_145 ?_
                refine s_aload_n X rfl dG0_look_146 ?_
                refine s_get X (T := TX0) (C := RX0) (N := 12) tu_X0 rfl (by decide) tw_193 dG0_look_147 ?_
                refine s_imul X dG0_look_150 ?_
                refine s_iload_n X rfl dG0_look_151 ?_
                refine s_bipush X ⟨by decide, by decide⟩ (by decide) dG0_look_152 ?_
                refine s_isub X dG0_look_154 ?_
                refine s_callSr X (m_G0_entry l) tw_552 tw_553 tw_122 tw_554 (by decide +kernel) ⟨by decide, by decide⟩ dG0_look_155 ?_
                exact s_iret X dG0_look_158
              · refine s_aload_n X rfl dG0_look_125 ?_
                refine s_get X (T := TX0) (C := RX0) (N := 12) tu_X0 rfl (by decide) tw_187 dG0_look_126 ?_
                refine s_aload_n X rfl dG0_look_129 ?_
                exact s_G0_look_130 X hJ
            · refine s_aload_n X rfl dG0_look_103 ?_
              refine s_get X (T := TX0) (C := RX0) (N := 12) tu_X0 rfl (by decide) tw_184 dG0_look_104 ?_
              refine s_aload_n X rfl dG0_look_107 ?_
              refine s_get X (T := TX0) (C := RX0) (N := 12) tu_X0 rfl (by decide) tw_203 dG0_look_108 ?_
              refine s_iload_n X rfl dG0_look_111 ?_
              refine s_bipush X ⟨by decide, by decide⟩ (by decide) dG0_look_112 ?_
              refine s_isub X dG0_look_114 ?_
              refine s_callSr X (m_G0_entry l) tw_552 tw_553 tw_122 tw_554 (by decide +kernel) ⟨by decide, by decide⟩ dG0_look_115 ?_
              exact s_iret X dG0_look_118
          · refine s_aload_n X rfl dG0_look_81 ?_
            refine s_get X (T := TX0) (C := RX0) (N := 12) tu_X0 rfl (by decide) tw_181 dG0_look_82 ?_
            refine s_aload_n X rfl dG0_look_85 ?_
            exact s_G0_look_86 X hJ
        · refine s_aload_n X rfl dG0_look_62 ?_
          refine s_get X (T := TX0) (C := RX0) (N := 12) tu_X0 rfl (by decide) tw_175 dG0_look_63 ?_
          refine s_iconst X ⟨by decide, by decide⟩ dG0_look_66 ?_
          refine s_iload_n X rfl dG0_look_67 ?_
          refine s_bipush X ⟨by decide, by decide⟩ (by decide) dG0_look_68 ?_
          refine s_isub X dG0_look_70 ?_
          refine s_callSr X (m_G0_entry l) tw_552 tw_553 tw_122 tw_554 (by decide +kernel) ⟨by decide, by decide⟩ dG0_look_71 ?_
          exact s_iret X dG0_look_74
      · refine s_aload_n X rfl dG0_look_40 ?_
        refine s_get X (T := TX0) (C := RX0) (N := 12) tu_X0 rfl (by decide) tw_172 dG0_look_41 ?_
        exact s_G0_look_44 X hJ
    · refine s_aload_n X rfl dG0_look_18 ?_
      refine s_get X (T := TX0) (C := RX0) (N := 12) tu_X0 rfl (by decide) tw_164 dG0_look_19 ?_
      refine s_aload_n X rfl dG0_look_22 ?_
      refine s_get X (T := TX0) (C := RX0) (N := 12) tu_X0 rfl (by decide) tw_193 dG0_look_23 ?_
      refine s_iload_n X rfl dG0_look_26 ?_
      refine s_bipush X ⟨by decide, by decide⟩ (by decide) dG0_look_27 ?_
      refine s_isub X dG0_look_29 ?_
      refine s_callSr X (m_G0_entry l) tw_552 tw_553 tw_122 tw_554 (by decide +kernel) ⟨by decide, by decide⟩ dG0_look_30 ?_
      exact s_iret X dG0_look_33
  · refine s_aload_n X rfl dG0_look_6 ?_
    refine s_iload_n X rfl dG0_look_7 ?_
    refine s_callVr X (m_G0_total l) tw_549 tw_550 tw_1488 tw_122 tw_551 rfl (by decide +kernel) ⟨by decide, by decide⟩ dG0_look_8 ?_
    exact s_iret X dG0_look_11

def spr_G0_look : List qV → qW → (Option qV → Prop) → Prop := fun av w Q => ∃ (f1 : Nat → Int) (f2 : Nat → Int) (f3 : Nat → Int) (f4 : Nat → Int) (f5 : Nat → Int) (f6 : Nat → Int) (f7 : Nat → Int) (u0 : Int) (u1 : Int) (u2 : Int) (u3 : Int) (u4 : Int) (a : Int), av = [q2 0, q1 a] ∧ w = wB f1 f2 f3 f4 f5 f6 f7 u0 u1 u2 u3 u4 ∧ (0 ≤ u0 ∧ u0 ≤ 8) ∧ (∀ (r : Int) , BoR f1 f2 f3 f4 f5 f6 f7 u0 u1 u2 u3 u4 a r → Q (some (q1 r)))
def sp_G0_look : qS := fun av w Q => spr_G0_look av w (fun r => Q r w)
set_option maxHeartbeats 4000000 in
set_option maxRecDepth 100000 in
theorem m_G0_look (l : Launch) : q_M l yX0_look cX0_look 2 (some .int) 1 22 sp_G0_look := by
  refine q_meth (by decide) (fun av w Q h => by obtain ⟨f1, f2, f3, f4, f5, f6, f7, u0, u1, u2, u3, u4, a, rfl, rfl, hu0, hQ⟩ := h; exact Nat.le_of_ble_eq_true rfl) ?_
  intro p e R s m args below meth c dC dI k g A av w Q hsp oka okw X
  obtain ⟨f1, f2, f3, f4, f5, f6, f7, u0, u1, u2, u3, u4, a, rfl, rfl, hu0, hQ⟩ := hsp
  have o_a : -2147483648 ≤ a ∧ a ≤ 2147483647 := oka _ (List.mem_of_getElem? (i := 1) rfl)
  refine s_mono (s_G0_look_0 X (J := fun _ _ _ _ => False) (fun d => s_cutF)) ?_
  rintro lv st w' ⟨rfl, rfl, rfl⟩
  apply And.intro
  · intro h3
    apply And.intro
    · intro h15
      apply And.intro
      · intro h37
        apply And.intro
        · intro h59
          apply And.intro
          · intro h78
            apply And.intro
            · intro h100
              apply And.intro
              · intro h122
                intro z150 h150
                first | replace h150 := e_mul h150 (by omega) | replace h150 := e_rng h150
                intro z154 h154
                first | replace h154 := e_sub h154 (by omega) | replace h154 := e_rng h154
                refine Exists.intro [4] (Exists.intro [q2 0, q1 _, q1 _] (Exists.intro ([.inl (0, _, .inl _)]) (And.intro rfl (And.intro rfl (And.intro rfl (And.intro trivial ?_))))))
                refine Exists.intro _ (Exists.intro _ (Exists.intro _ (Exists.intro _ (And.intro rfl (And.intro rfl (And.intro (by first | omega | assumption | exact q_rg_up (by assumption) (by omega) | exact q_rg_up (q_rg_up (by assumption) (by omega)) (by omega) | exact q_rg_cpy (by assumption) (by assumption)) (?_)))))))
                intro z155 h155
                exact hQ _ (by first | exact Or.inl ⟨by omega, h8⟩ | exact Or.inr (Or.inl ⟨⟨by omega, by omega⟩, by rw [show a - 10 = z29 by omega]; exact h30⟩) | exact Or.inr (Or.inr (Or.inl ⟨⟨by omega, by omega⟩, by rw [show a - 20 = z51 by omega]; exact h52⟩)) | exact Or.inr (Or.inr (Or.inr (Or.inl ⟨⟨by omega, by omega⟩, by rw [show a - 30 = z70 by omega]; exact h71⟩))) | exact Or.inr (Or.inr (Or.inr (Or.inr (Or.inl ⟨⟨by omega, by omega⟩, by rw [show a - 40 = z92 by omega]; exact h93⟩)))) | exact Or.inr (Or.inr (Or.inr (Or.inr (Or.inr (Or.inl ⟨⟨by omega, by omega⟩, by rw [show a - 50 = z114 by omega]; exact h115⟩))))) | exact Or.inr (Or.inr (Or.inr (Or.inr (Or.inr (Or.inr (Or.inl ⟨⟨by omega, by omega⟩, by rw [show a - 60 = z136 by omega]; exact h137⟩)))))) | exact Or.inr (Or.inr (Or.inr (Or.inr (Or.inr (Or.inr (Or.inr ⟨by omega, by rw [show a - 70 = z154 by omega, show 4 * u0 = z150 by omega]; exact h155⟩)))))))
              · intro h122
                intro z136 h136
                first | replace h136 := e_sub h136 (by omega) | replace h136 := e_rng h136
                refine Exists.intro [7] (Exists.intro [q2 0, q1 _, q1 _] (Exists.intro ([.inl (0, _, .inl _)]) (And.intro rfl (And.intro rfl (And.intro rfl (And.intro trivial ?_))))))
                refine Exists.intro _ (Exists.intro _ (Exists.intro _ (Exists.intro _ (And.intro rfl (And.intro rfl (And.intro (by first | omega | assumption | exact q_rg_up (by assumption) (by omega) | exact q_rg_up (q_rg_up (by assumption) (by omega)) (by omega) | exact q_rg_cpy (by assumption) (by assumption)) (?_)))))))
                intro z137 h137
                exact hQ _ (by first | exact Or.inl ⟨by omega, h8⟩ | exact Or.inr (Or.inl ⟨⟨by omega, by omega⟩, by rw [show a - 10 = z29 by omega]; exact h30⟩) | exact Or.inr (Or.inr (Or.inl ⟨⟨by omega, by omega⟩, by rw [show a - 20 = z51 by omega]; exact h52⟩)) | exact Or.inr (Or.inr (Or.inr (Or.inl ⟨⟨by omega, by omega⟩, by rw [show a - 30 = z70 by omega]; exact h71⟩))) | exact Or.inr (Or.inr (Or.inr (Or.inr (Or.inl ⟨⟨by omega, by omega⟩, by rw [show a - 40 = z92 by omega]; exact h93⟩)))) | exact Or.inr (Or.inr (Or.inr (Or.inr (Or.inr (Or.inl ⟨⟨by omega, by omega⟩, by rw [show a - 50 = z114 by omega]; exact h115⟩))))) | exact Or.inr (Or.inr (Or.inr (Or.inr (Or.inr (Or.inr (Or.inl ⟨⟨by omega, by omega⟩, by rw [show a - 60 = z136 by omega]; exact h137⟩)))))) | exact Or.inr (Or.inr (Or.inr (Or.inr (Or.inr (Or.inr (Or.inr ⟨by omega, by rw [show a - 70 = z154 by omega, show 4 * u0 = z150 by omega]; exact h155⟩)))))))
            · intro h100
              intro z114 h114
              first | replace h114 := e_sub h114 (by omega) | replace h114 := e_rng h114
              refine Exists.intro [6] (Exists.intro [q2 0, q1 _, q1 _] (Exists.intro ([.inl (0, _, .inl _)]) (And.intro rfl (And.intro rfl (And.intro rfl (And.intro trivial ?_))))))
              refine Exists.intro _ (Exists.intro _ (Exists.intro _ (Exists.intro _ (And.intro rfl (And.intro rfl (And.intro (by first | omega | assumption | exact q_rg_up (by assumption) (by omega) | exact q_rg_up (q_rg_up (by assumption) (by omega)) (by omega) | exact q_rg_cpy (by assumption) (by assumption)) (?_)))))))
              intro z115 h115
              exact hQ _ (by first | exact Or.inl ⟨by omega, h8⟩ | exact Or.inr (Or.inl ⟨⟨by omega, by omega⟩, by rw [show a - 10 = z29 by omega]; exact h30⟩) | exact Or.inr (Or.inr (Or.inl ⟨⟨by omega, by omega⟩, by rw [show a - 20 = z51 by omega]; exact h52⟩)) | exact Or.inr (Or.inr (Or.inr (Or.inl ⟨⟨by omega, by omega⟩, by rw [show a - 30 = z70 by omega]; exact h71⟩))) | exact Or.inr (Or.inr (Or.inr (Or.inr (Or.inl ⟨⟨by omega, by omega⟩, by rw [show a - 40 = z92 by omega]; exact h93⟩)))) | exact Or.inr (Or.inr (Or.inr (Or.inr (Or.inr (Or.inl ⟨⟨by omega, by omega⟩, by rw [show a - 50 = z114 by omega]; exact h115⟩))))) | exact Or.inr (Or.inr (Or.inr (Or.inr (Or.inr (Or.inr (Or.inl ⟨⟨by omega, by omega⟩, by rw [show a - 60 = z136 by omega]; exact h137⟩)))))) | exact Or.inr (Or.inr (Or.inr (Or.inr (Or.inr (Or.inr (Or.inr ⟨by omega, by rw [show a - 70 = z154 by omega, show 4 * u0 = z150 by omega]; exact h155⟩)))))))
          · intro h78
            intro z92 h92
            first | replace h92 := e_sub h92 (by omega) | replace h92 := e_rng h92
            refine Exists.intro [5] (Exists.intro [q2 0, q1 _, q1 _] (Exists.intro ([.inl (0, _, .inl _)]) (And.intro rfl (And.intro rfl (And.intro rfl (And.intro trivial ?_))))))
            refine Exists.intro _ (Exists.intro _ (Exists.intro _ (Exists.intro _ (And.intro rfl (And.intro rfl (And.intro (by first | omega | assumption | exact q_rg_up (by assumption) (by omega) | exact q_rg_up (q_rg_up (by assumption) (by omega)) (by omega) | exact q_rg_cpy (by assumption) (by assumption)) (?_)))))))
            intro z93 h93
            exact hQ _ (by first | exact Or.inl ⟨by omega, h8⟩ | exact Or.inr (Or.inl ⟨⟨by omega, by omega⟩, by rw [show a - 10 = z29 by omega]; exact h30⟩) | exact Or.inr (Or.inr (Or.inl ⟨⟨by omega, by omega⟩, by rw [show a - 20 = z51 by omega]; exact h52⟩)) | exact Or.inr (Or.inr (Or.inr (Or.inl ⟨⟨by omega, by omega⟩, by rw [show a - 30 = z70 by omega]; exact h71⟩))) | exact Or.inr (Or.inr (Or.inr (Or.inr (Or.inl ⟨⟨by omega, by omega⟩, by rw [show a - 40 = z92 by omega]; exact h93⟩)))) | exact Or.inr (Or.inr (Or.inr (Or.inr (Or.inr (Or.inl ⟨⟨by omega, by omega⟩, by rw [show a - 50 = z114 by omega]; exact h115⟩))))) | exact Or.inr (Or.inr (Or.inr (Or.inr (Or.inr (Or.inr (Or.inl ⟨⟨by omega, by omega⟩, by rw [show a - 60 = z136 by omega]; exact h137⟩)))))) | exact Or.inr (Or.inr (Or.inr (Or.inr (Or.inr (Or.inr (Or.inr ⟨by omega, by rw [show a - 70 = z154 by omega, show 4 * u0 = z150 by omega]; exact h155⟩)))))))
        · intro h59
          intro z70 h70
          first | replace h70 := e_sub h70 (by omega) | replace h70 := e_rng h70
          refine Exists.intro [3] (Exists.intro [q2 0, q1 _, q1 _] (Exists.intro ([.inl (0, _, .inl _)]) (And.intro rfl (And.intro rfl (And.intro rfl (And.intro trivial ?_))))))
          refine Exists.intro _ (Exists.intro _ (Exists.intro _ (Exists.intro _ (And.intro rfl (And.intro rfl (And.intro (by first | omega | assumption | exact q_rg_up (by assumption) (by omega) | exact q_rg_up (q_rg_up (by assumption) (by omega)) (by omega) | exact q_rg_cpy (by assumption) (by assumption)) (?_)))))))
          intro z71 h71
          exact hQ _ (by first | exact Or.inl ⟨by omega, h8⟩ | exact Or.inr (Or.inl ⟨⟨by omega, by omega⟩, by rw [show a - 10 = z29 by omega]; exact h30⟩) | exact Or.inr (Or.inr (Or.inl ⟨⟨by omega, by omega⟩, by rw [show a - 20 = z51 by omega]; exact h52⟩)) | exact Or.inr (Or.inr (Or.inr (Or.inl ⟨⟨by omega, by omega⟩, by rw [show a - 30 = z70 by omega]; exact h71⟩))) | exact Or.inr (Or.inr (Or.inr (Or.inr (Or.inl ⟨⟨by omega, by omega⟩, by rw [show a - 40 = z92 by omega]; exact h93⟩)))) | exact Or.inr (Or.inr (Or.inr (Or.inr (Or.inr (Or.inl ⟨⟨by omega, by omega⟩, by rw [show a - 50 = z114 by omega]; exact h115⟩))))) | exact Or.inr (Or.inr (Or.inr (Or.inr (Or.inr (Or.inr (Or.inl ⟨⟨by omega, by omega⟩, by rw [show a - 60 = z136 by omega]; exact h137⟩)))))) | exact Or.inr (Or.inr (Or.inr (Or.inr (Or.inr (Or.inr (Or.inr ⟨by omega, by rw [show a - 70 = z154 by omega, show 4 * u0 = z150 by omega]; exact h155⟩)))))))
      · intro h37
        intro z51 h51
        first | replace h51 := e_sub h51 (by omega) | replace h51 := e_rng h51
        refine Exists.intro [2] (Exists.intro [q2 0, q1 _, q1 _] (Exists.intro ([.inl (0, _, .inl _)]) (And.intro rfl (And.intro rfl (And.intro rfl (And.intro trivial ?_))))))
        refine Exists.intro _ (Exists.intro _ (Exists.intro _ (Exists.intro _ (And.intro rfl (And.intro rfl (And.intro (by first | omega | assumption | exact q_rg_up (by assumption) (by omega) | exact q_rg_up (q_rg_up (by assumption) (by omega)) (by omega) | exact q_rg_cpy (by assumption) (by assumption)) (?_)))))))
        intro z52 h52
        exact hQ _ (by first | exact Or.inl ⟨by omega, h8⟩ | exact Or.inr (Or.inl ⟨⟨by omega, by omega⟩, by rw [show a - 10 = z29 by omega]; exact h30⟩) | exact Or.inr (Or.inr (Or.inl ⟨⟨by omega, by omega⟩, by rw [show a - 20 = z51 by omega]; exact h52⟩)) | exact Or.inr (Or.inr (Or.inr (Or.inl ⟨⟨by omega, by omega⟩, by rw [show a - 30 = z70 by omega]; exact h71⟩))) | exact Or.inr (Or.inr (Or.inr (Or.inr (Or.inl ⟨⟨by omega, by omega⟩, by rw [show a - 40 = z92 by omega]; exact h93⟩)))) | exact Or.inr (Or.inr (Or.inr (Or.inr (Or.inr (Or.inl ⟨⟨by omega, by omega⟩, by rw [show a - 50 = z114 by omega]; exact h115⟩))))) | exact Or.inr (Or.inr (Or.inr (Or.inr (Or.inr (Or.inr (Or.inl ⟨⟨by omega, by omega⟩, by rw [show a - 60 = z136 by omega]; exact h137⟩)))))) | exact Or.inr (Or.inr (Or.inr (Or.inr (Or.inr (Or.inr (Or.inr ⟨by omega, by rw [show a - 70 = z154 by omega, show 4 * u0 = z150 by omega]; exact h155⟩)))))))
    · intro h15
      intro z29 h29
      first | replace h29 := e_sub h29 (by omega) | replace h29 := e_rng h29
      refine Exists.intro [1] (Exists.intro [q2 0, q1 _, q1 _] (Exists.intro ([.inl (0, _, .inl _)]) (And.intro rfl (And.intro rfl (And.intro rfl (And.intro trivial ?_))))))
      refine Exists.intro _ (Exists.intro _ (Exists.intro _ (Exists.intro _ (And.intro rfl (And.intro rfl (And.intro (by first | omega | assumption | exact q_rg_up (by assumption) (by omega) | exact q_rg_up (q_rg_up (by assumption) (by omega)) (by omega) | exact q_rg_cpy (by assumption) (by assumption)) (?_)))))))
      intro z30 h30
      exact hQ _ (by first | exact Or.inl ⟨by omega, h8⟩ | exact Or.inr (Or.inl ⟨⟨by omega, by omega⟩, by rw [show a - 10 = z29 by omega]; exact h30⟩) | exact Or.inr (Or.inr (Or.inl ⟨⟨by omega, by omega⟩, by rw [show a - 20 = z51 by omega]; exact h52⟩)) | exact Or.inr (Or.inr (Or.inr (Or.inl ⟨⟨by omega, by omega⟩, by rw [show a - 30 = z70 by omega]; exact h71⟩))) | exact Or.inr (Or.inr (Or.inr (Or.inr (Or.inl ⟨⟨by omega, by omega⟩, by rw [show a - 40 = z92 by omega]; exact h93⟩)))) | exact Or.inr (Or.inr (Or.inr (Or.inr (Or.inr (Or.inl ⟨⟨by omega, by omega⟩, by rw [show a - 50 = z114 by omega]; exact h115⟩))))) | exact Or.inr (Or.inr (Or.inr (Or.inr (Or.inr (Or.inr (Or.inl ⟨⟨by omega, by omega⟩, by rw [show a - 60 = z136 by omega]; exact h137⟩)))))) | exact Or.inr (Or.inr (Or.inr (Or.inr (Or.inr (Or.inr (Or.inr ⟨by omega, by rw [show a - 70 = z154 by omega, show 4 * u0 = z150 by omega]; exact h155⟩)))))))
  · intro h3
    refine Exists.intro [0, 1, 2, 3, 4, 5, 6, 7] (Exists.intro [q2 0, q1 _] (Exists.intro (wB _ _ _ _ _ _ _ _ _ _ _ _) (And.intro rfl (And.intro rfl (And.intro rfl (And.intro ⟨⟨_, rfl⟩, rfl⟩ ?_))))))
    refine Exists.intro _ (Exists.intro _ (Exists.intro _ (Exists.intro _ (Exists.intro _ (Exists.intro _ (Exists.intro _ (Exists.intro _ (Exists.intro _ (Exists.intro _ (Exists.intro _ (Exists.intro _ (Exists.intro _ (And.intro rfl (And.intro rfl (?_)))))))))))))))
    intro z8 h8
    exact hQ _ (by first | exact Or.inl ⟨by omega, h8⟩ | exact Or.inr (Or.inl ⟨⟨by omega, by omega⟩, by rw [show a - 10 = z29 by omega]; exact h30⟩) | exact Or.inr (Or.inr (Or.inl ⟨⟨by omega, by omega⟩, by rw [show a - 20 = z51 by omega]; exact h52⟩)) | exact Or.inr (Or.inr (Or.inr (Or.inl ⟨⟨by omega, by omega⟩, by rw [show a - 30 = z70 by omega]; exact h71⟩))) | exact Or.inr (Or.inr (Or.inr (Or.inr (Or.inl ⟨⟨by omega, by omega⟩, by rw [show a - 40 = z92 by omega]; exact h93⟩)))) | exact Or.inr (Or.inr (Or.inr (Or.inr (Or.inr (Or.inl ⟨⟨by omega, by omega⟩, by rw [show a - 50 = z114 by omega]; exact h115⟩))))) | exact Or.inr (Or.inr (Or.inr (Or.inr (Or.inr (Or.inr (Or.inl ⟨⟨by omega, by omega⟩, by rw [show a - 60 = z136 by omega]; exact h137⟩)))))) | exact Or.inr (Or.inr (Or.inr (Or.inr (Or.inr (Or.inr (Or.inr ⟨by omega, by rw [show a - 70 = z154 by omega, show 4 * u0 = z150 by omega]; exact h155⟩)))))))

theorem dG10_look_0 : decode cX10_look 0 = .ok (.iload_n 1, 1) := by decide +kernel
theorem dG10_look_1 : decode cX10_look 1 = .ok (.ifCond .lt 17, 3) := by decide +kernel
theorem dG10_look_4 : decode cX10_look 4 = .ok (.iload_n 1, 1) := by decide +kernel
theorem dG10_look_5 : decode cX10_look 5 = .ok (.aload_n 0, 1) := by decide +kernel
theorem dG10_look_6 : decode cX10_look 6 = .ok (.getfield 30, 3) := by decide +kernel
theorem dG10_look_9 : decode cX10_look 9 = .ok (.if_icmp .ge 9, 3) := by decide +kernel
theorem dG10_look_12 : decode cX10_look 12 = .ok (.iload_n 1, 1) := by decide +kernel
theorem dG10_look_13 : decode cX10_look 13 = .ok (.bipush 40, 2) := by decide +kernel
theorem dG10_look_15 : decode cX10_look 15 = .ok (.if_icmp .lt 6, 3) := by decide +kernel
theorem dG10_look_18 : decode cX10_look 18 = .ok (.bipush (-2), 2) := by decide +kernel
theorem dG10_look_20 : decode cX10_look 20 = .ok (.ireturn, 1) := by decide +kernel
theorem dG10_look_21 : decode cX10_look 21 = .ok (.iload_n 2, 1) := by decide +kernel
theorem dG10_look_22 : decode cX10_look 22 = .ok (.tableswitch 58 0 3 #[30, 37, 44, 51], 30) := by decide +kernel
theorem dG10_look_52 : decode cX10_look 52 = .ok (.aload_n 0, 1) := by decide +kernel
theorem dG10_look_53 : decode cX10_look 53 = .ok (.getfield 9, 3) := by decide +kernel
theorem dG10_look_56 : decode cX10_look 56 = .ok (.iload_n 1, 1) := by decide +kernel
theorem dG10_look_57 : decode cX10_look 57 = .ok (.iaload, 1) := by decide +kernel
theorem dG10_look_58 : decode cX10_look 58 = .ok (.ireturn, 1) := by decide +kernel
theorem dG10_look_59 : decode cX10_look 59 = .ok (.aload_n 0, 1) := by decide +kernel
theorem dG10_look_60 : decode cX10_look 60 = .ok (.getfield 15, 3) := by decide +kernel
theorem dG10_look_63 : decode cX10_look 63 = .ok (.iload_n 1, 1) := by decide +kernel
theorem dG10_look_64 : decode cX10_look 64 = .ok (.iaload, 1) := by decide +kernel
theorem dG10_look_65 : decode cX10_look 65 = .ok (.ireturn, 1) := by decide +kernel
theorem dG10_look_66 : decode cX10_look 66 = .ok (.aload_n 0, 1) := by decide +kernel
theorem dG10_look_67 : decode cX10_look 67 = .ok (.getfield 18, 3) := by decide +kernel
theorem dG10_look_70 : decode cX10_look 70 = .ok (.iload_n 1, 1) := by decide +kernel
theorem dG10_look_71 : decode cX10_look 71 = .ok (.iaload, 1) := by decide +kernel
theorem dG10_look_72 : decode cX10_look 72 = .ok (.ireturn, 1) := by decide +kernel
theorem dG10_look_73 : decode cX10_look 73 = .ok (.aload_n 0, 1) := by decide +kernel
theorem dG10_look_74 : decode cX10_look 74 = .ok (.getfield 21, 3) := by decide +kernel
theorem dG10_look_77 : decode cX10_look 77 = .ok (.iload_n 1, 1) := by decide +kernel
theorem dG10_look_78 : decode cX10_look 78 = .ok (.iaload, 1) := by decide +kernel
theorem dG10_look_79 : decode cX10_look 79 = .ok (.ireturn, 1) := by decide +kernel
theorem dG10_look_80 : decode cX10_look 80 = .ok (.bipush (-2), 2) := by decide +kernel
theorem dG10_look_82 : decode cX10_look 82 = .ok (.ireturn, 1) := by decide +kernel
def is_G10_look : Nat → List Nat := fun d => []
set_option maxRecDepth 100000 in
def b_G10_look_80 (J : Nat → List qV → List qV → qW → Prop) (Q : qR) : qK := x_int (-2) (x_iret Q)
set_option maxRecDepth 100000 in
theorem s_G10_look_80 {p : Program} {l : Launch} {e : Env} {R : Room} {s : State} {m : MethodId} {args : Array Value} {below : List Frame} {meth : Method} {c : Code} {nW : Nat} {dC : Nat → ClassId} {dI : Nat → Nat → Nat} {k : Nat → ClassId} {g : Nat → Nat} {A : Nat → Prop} {J : Nat → List qV → List qV → qW → Prop} {Q : qR} (X : q_X p R s m args meth c cX10_look 3 nW 0 0 RX10 (some .int) dC dI k g A) (hJ : ∀ d : Nat, q_Sd p l e R s m args below meth c 3 nW dC dI k g A (MQ below (q_post (dC, dI) k g nW Q A) args s 0 0 A) d (x_cut (is_G10_look d) (J d))) : q_Sd p l e R s m args below meth c 3 nW dC dI k g A (MQ below (q_post (dC, dI) k g nW Q A) args s 0 0 A) 80 (b_G10_look_80 J Q) := by
  unfold b_G10_look_80
  refine s_bipush X ⟨by decide, by decide⟩ (by decide) dG10_look_80 ?_
  exact s_iret X dG10_look_82
set_option maxRecDepth 100000 in
def b_G10_look_18 (J : Nat → List qV → List qV → qW → Prop) (Q : qR) : qK := x_int (-2) (x_iret Q)
set_option maxRecDepth 100000 in
theorem s_G10_look_18 {p : Program} {l : Launch} {e : Env} {R : Room} {s : State} {m : MethodId} {args : Array Value} {below : List Frame} {meth : Method} {c : Code} {nW : Nat} {dC : Nat → ClassId} {dI : Nat → Nat → Nat} {k : Nat → ClassId} {g : Nat → Nat} {A : Nat → Prop} {J : Nat → List qV → List qV → qW → Prop} {Q : qR} (X : q_X p R s m args meth c cX10_look 3 nW 0 0 RX10 (some .int) dC dI k g A) (hJ : ∀ d : Nat, q_Sd p l e R s m args below meth c 3 nW dC dI k g A (MQ below (q_post (dC, dI) k g nW Q A) args s 0 0 A) d (x_cut (is_G10_look d) (J d))) : q_Sd p l e R s m args below meth c 3 nW dC dI k g A (MQ below (q_post (dC, dI) k g nW Q A) args s 0 0 A) 18 (b_G10_look_18 J Q) := by
  unfold b_G10_look_18
  refine s_bipush X ⟨by decide, by decide⟩ (by decide) dG10_look_18 ?_
  exact s_iret X dG10_look_20
set_option maxRecDepth 100000 in
def b_G10_look_0 (J : Nat → List qV → List qV → qW → Prop) (Q : qR) : qK := x_iload 1 (x_if_lt (b_G10_look_18 J Q) (x_iload 1 (x_aload 0 (x_get 10 4 (x_icmp_ge (b_G10_look_18 J Q) (x_iload 1 (x_int 40 (x_icmp_lt (x_iload 2 (x_sw 0 3 [x_aload 0 (x_get 10 0 (x_iload 1 (x_iald (x_iret Q)))), x_aload 0 (x_get 10 1 (x_iload 1 (x_iald (x_iret Q)))), x_aload 0 (x_get 10 2 (x_iload 1 (x_iald (x_iret Q)))), x_aload 0 (x_get 10 3 (x_iload 1 (x_iald (x_iret Q))))] (b_G10_look_80 J Q))) (b_G10_look_18 J Q)))))))))
set_option maxRecDepth 100000 in
theorem s_G10_look_0 {p : Program} {l : Launch} {e : Env} {R : Room} {s : State} {m : MethodId} {args : Array Value} {below : List Frame} {meth : Method} {c : Code} {nW : Nat} {dC : Nat → ClassId} {dI : Nat → Nat → Nat} {k : Nat → ClassId} {g : Nat → Nat} {A : Nat → Prop} {J : Nat → List qV → List qV → qW → Prop} {Q : qR} (X : q_X p R s m args meth c cX10_look 3 nW 0 0 RX10 (some .int) dC dI k g A) (hJ : ∀ d : Nat, q_Sd p l e R s m args below meth c 3 nW dC dI k g A (MQ below (q_post (dC, dI) k g nW Q A) args s 0 0 A) d (x_cut (is_G10_look d) (J d))) : q_Sd p l e R s m args below meth c 3 nW dC dI k g A (MQ below (q_post (dC, dI) k g nW Q A) args s 0 0 A) 0 (b_G10_look_0 J Q) := by
  unfold b_G10_look_0
  refine s_iload_n X rfl dG10_look_0 ?_
  refine s_if_lt X (tgt := 18) dG10_look_1 (by decide) ?_ ?_
  · exact s_G10_look_18 X hJ
  · refine s_iload_n X rfl dG10_look_4 ?_
    refine s_aload_n X rfl dG10_look_5 ?_
    refine s_get X (T := TX10) (C := RX10) (N := 5) tu_X10 rfl (by decide) tw_223 dG10_look_6 ?_
    refine s_icmp_ge X (tgt := 18) dG10_look_9 (by decide) ?_ ?_
    · exact s_G10_look_18 X hJ
    · refine s_iload_n X rfl dG10_look_12 ?_
      refine s_bipush X ⟨by decide, by decide⟩ (by decide) dG10_look_13 ?_
      refine s_icmp_lt X (tgt := 21) dG10_look_15 (by decide) ?_ ?_
      · refine s_iload_n X rfl dG10_look_21 ?_
        refine s_sw X (ts := [52, 59, 66, 73]) (td := 80) dG10_look_22 (by decide) (by decide) (by decide) rfl ?_ ?_
        · intro i t K ht hK
          match i, ht, hK with
          | 0, ht, hK =>
            cases ht
            cases hK
            refine s_aload_n X rfl dG10_look_52 ?_
            refine s_get X (T := TX10) (C := RX10) (N := 5) tu_X10 rfl (by decide) tw_215 dG10_look_53 ?_
            refine s_iload_n X rfl dG10_look_56 ?_
            refine s_iald X dG10_look_57 ?_
            exact s_iret X dG10_look_58
          | 1, ht, hK =>
            cases ht
            cases hK
            refine s_aload_n X rfl dG10_look_59 ?_
            refine s_get X (T := TX10) (C := RX10) (N := 5) tu_X10 rfl (by decide) tw_217 dG10_look_60 ?_
            refine s_iload_n X rfl dG10_look_63 ?_
            refine s_iald X dG10_look_64 ?_
            exact s_iret X dG10_look_65
          | 2, ht, hK =>
            cases ht
            cases hK
            refine s_aload_n X rfl dG10_look_66 ?_
            refine s_get X (T := TX10) (C := RX10) (N := 5) tu_X10 rfl (by decide) tw_219 dG10_look_67 ?_
            refine s_iload_n X rfl dG10_look_70 ?_
            refine s_iald X dG10_look_71 ?_
            exact s_iret X dG10_look_72
          | 3, ht, hK =>
            cases ht
            cases hK
            refine s_aload_n X rfl dG10_look_73 ?_
            refine s_get X (T := TX10) (C := RX10) (N := 5) tu_X10 rfl (by decide) tw_221 dG10_look_74 ?_
            refine s_iload_n X rfl dG10_look_77 ?_
            refine s_iald X dG10_look_78 ?_
            exact s_iret X dG10_look_79
          | i + 4, ht, hK => exact absurd ht (by simp)
        · exact s_G10_look_80 X hJ
      · exact s_G10_look_18 X hJ

def spr_G10_look : List qV → qW → (Option qV → Prop) → Prop := fun av w Q => ∃ (k1 : Nat → Int) (k2 : Nat → Int) (k3 : Nat → Int) (k4 : Nat → Int) (d : Int) (a : Int) (b : Int), av = [q2 0, q1 a, q1 b] ∧ w = (wYo 0 k1 k2 k3 k4 d) ∧ (0 ≤ d ∧ d ≤ 40) ∧ (∀ (r : Int) , YeR k1 k2 k3 k4 d a b r → Q (some (q1 r)))
def sp_G10_look : qS := fun av w Q => spr_G10_look av w (fun r => Q r w)
set_option maxHeartbeats 4000000 in
set_option maxRecDepth 100000 in
theorem m_G10_look (l : Launch) : q_M l yX10_look cX10_look 3 (some .int) 0 0 sp_G10_look := by
  refine q_meth (by decide) (fun av w Q h => by obtain ⟨k1, k2, k3, k4, d, a, b, rfl, rfl, hd, hQ⟩ := h; exact Nat.le_of_ble_eq_true rfl) ?_
  intro p e R s m args below meth c dC dI k g A av w Q hsp oka okw X
  obtain ⟨k1, k2, k3, k4, d, a, b, rfl, rfl, hd, hQ⟩ := hsp
  have o_a : -2147483648 ≤ a ∧ a ≤ 2147483647 := oka _ (List.mem_of_getElem? (i := 1) rfl)
  have o_b : -2147483648 ≤ b ∧ b ≤ 2147483647 := oka _ (List.mem_of_getElem? (i := 2) rfl)
  refine s_mono (s_G10_look_0 X (J := fun _ _ _ _ => False) (fun d => s_cutF)) ?_
  rintro lv st w' ⟨rfl, rfl, rfl⟩
  apply And.intro
  · intro h1
    exact hQ _ (by unfold YeR; omega)
  · intro h1
    apply And.intro
    · intro h9
      exact hQ _ (by unfold YeR; omega)
    · intro h9
      apply And.intro
      · intro h15
        apply And.intro
        · apply And.intro
          · intro h22
            apply And.intro
            · exact ⟨by omega, by omega⟩
            intro z57 h57
            exact hQ _ (by unfold YeR; omega)
          apply And.intro
          · intro h22
            apply And.intro
            · exact ⟨by omega, by omega⟩
            intro z64 h64
            exact hQ _ (by unfold YeR; omega)
          apply And.intro
          · intro h22
            apply And.intro
            · exact ⟨by omega, by omega⟩
            intro z71 h71
            exact hQ _ (by unfold YeR; omega)
          apply And.intro
          · intro h22
            apply And.intro
            · exact ⟨by omega, by omega⟩
            intro z78 h78
            exact hQ _ (by unfold YeR; omega)
          exact trivial
        · intro h22
          exact hQ _ (by unfold YeR; omega)
      · intro h15
        exact hQ _ (by unfold YeR; omega)

theorem dG7_look_0 : decode cX7_look 0 = .ok (.iload_n 1, 1) := by decide +kernel
theorem dG7_look_1 : decode cX7_look 1 = .ok (.ifCond .lt 17, 3) := by decide +kernel
theorem dG7_look_4 : decode cX7_look 4 = .ok (.iload_n 1, 1) := by decide +kernel
theorem dG7_look_5 : decode cX7_look 5 = .ok (.aload_n 0, 1) := by decide +kernel
theorem dG7_look_6 : decode cX7_look 6 = .ok (.getfield 24, 3) := by decide +kernel
theorem dG7_look_9 : decode cX7_look 9 = .ok (.if_icmp .ge 9, 3) := by decide +kernel
theorem dG7_look_12 : decode cX7_look 12 = .ok (.iload_n 1, 1) := by decide +kernel
theorem dG7_look_13 : decode cX7_look 13 = .ok (.bipush 10, 2) := by decide +kernel
theorem dG7_look_15 : decode cX7_look 15 = .ok (.if_icmp .lt 6, 3) := by decide +kernel
theorem dG7_look_18 : decode cX7_look 18 = .ok (.bipush (-2), 2) := by decide +kernel
theorem dG7_look_20 : decode cX7_look 20 = .ok (.ireturn, 1) := by decide +kernel
theorem dG7_look_21 : decode cX7_look 21 = .ok (.iload_n 2, 1) := by decide +kernel
theorem dG7_look_22 : decode cX7_look 22 = .ok (.ifCond .ne 10, 3) := by decide +kernel
theorem dG7_look_25 : decode cX7_look 25 = .ok (.aload_n 0, 1) := by decide +kernel
theorem dG7_look_26 : decode cX7_look 26 = .ok (.getfield 9, 3) := by decide +kernel
theorem dG7_look_29 : decode cX7_look 29 = .ok (.iload_n 1, 1) := by decide +kernel
theorem dG7_look_30 : decode cX7_look 30 = .ok (.iaload, 1) := by decide +kernel
theorem dG7_look_31 : decode cX7_look 31 = .ok (.ireturn, 1) := by decide +kernel
theorem dG7_look_32 : decode cX7_look 32 = .ok (.iload_n 2, 1) := by decide +kernel
theorem dG7_look_33 : decode cX7_look 33 = .ok (.iconst 1, 1) := by decide +kernel
theorem dG7_look_34 : decode cX7_look 34 = .ok (.if_icmp .ne 12, 3) := by decide +kernel
theorem dG7_look_37 : decode cX7_look 37 = .ok (.aload_n 0, 1) := by decide +kernel
theorem dG7_look_38 : decode cX7_look 38 = .ok (.getfield 15, 3) := by decide +kernel
theorem dG7_look_41 : decode cX7_look 41 = .ok (.iload_n 1, 1) := by decide +kernel
theorem dG7_look_42 : decode cX7_look 42 = .ok (.iaload, 1) := by decide +kernel
theorem dG7_look_43 : decode cX7_look 43 = .ok (.goto 5, 3) := by decide +kernel
theorem dG7_look_46 : decode cX7_look 46 = .ok (.bipush (-2), 2) := by decide +kernel
theorem dG7_look_48 : decode cX7_look 48 = .ok (.ireturn, 1) := by decide +kernel
def is_G7_look : Nat → List Nat := fun d => []
set_option maxRecDepth 100000 in
def b_G7_look_48 (J : Nat → List qV → List qV → qW → Prop) (Q : qR) : qK := x_iret Q
set_option maxRecDepth 100000 in
theorem s_G7_look_48 {p : Program} {l : Launch} {e : Env} {R : Room} {s : State} {m : MethodId} {args : Array Value} {below : List Frame} {meth : Method} {c : Code} {nW : Nat} {dC : Nat → ClassId} {dI : Nat → Nat → Nat} {k : Nat → ClassId} {g : Nat → Nat} {A : Nat → Prop} {J : Nat → List qV → List qV → qW → Prop} {Q : qR} (X : q_X p R s m args meth c cX7_look 3 nW 0 0 RX7 (some .int) dC dI k g A) (hJ : ∀ d : Nat, q_Sd p l e R s m args below meth c 3 nW dC dI k g A (MQ below (q_post (dC, dI) k g nW Q A) args s 0 0 A) d (x_cut (is_G7_look d) (J d))) : q_Sd p l e R s m args below meth c 3 nW dC dI k g A (MQ below (q_post (dC, dI) k g nW Q A) args s 0 0 A) 48 (b_G7_look_48 J Q) := by
  unfold b_G7_look_48
  exact s_iret X dG7_look_48
set_option maxRecDepth 100000 in
def b_G7_look_18 (J : Nat → List qV → List qV → qW → Prop) (Q : qR) : qK := x_int (-2) (x_iret Q)
set_option maxRecDepth 100000 in
theorem s_G7_look_18 {p : Program} {l : Launch} {e : Env} {R : Room} {s : State} {m : MethodId} {args : Array Value} {below : List Frame} {meth : Method} {c : Code} {nW : Nat} {dC : Nat → ClassId} {dI : Nat → Nat → Nat} {k : Nat → ClassId} {g : Nat → Nat} {A : Nat → Prop} {J : Nat → List qV → List qV → qW → Prop} {Q : qR} (X : q_X p R s m args meth c cX7_look 3 nW 0 0 RX7 (some .int) dC dI k g A) (hJ : ∀ d : Nat, q_Sd p l e R s m args below meth c 3 nW dC dI k g A (MQ below (q_post (dC, dI) k g nW Q A) args s 0 0 A) d (x_cut (is_G7_look d) (J d))) : q_Sd p l e R s m args below meth c 3 nW dC dI k g A (MQ below (q_post (dC, dI) k g nW Q A) args s 0 0 A) 18 (b_G7_look_18 J Q) := by
  unfold b_G7_look_18
  refine s_bipush X ⟨by decide, by decide⟩ (by decide) dG7_look_18 ?_
  exact s_iret X dG7_look_20
set_option maxRecDepth 100000 in
def b_G7_look_0 (J : Nat → List qV → List qV → qW → Prop) (Q : qR) : qK := x_iload 1 (x_if_lt (b_G7_look_18 J Q) (x_iload 1 (x_aload 0 (x_get 7 2 (x_icmp_ge (b_G7_look_18 J Q) (x_iload 1 (x_int 10 (x_icmp_lt (x_iload 2 (x_if_ne (x_iload 2 (x_int 1 (x_icmp_ne (x_int (-2) (b_G7_look_48 J Q)) (x_aload 0 (x_get 7 1 (x_iload 1 (x_iald (b_G7_look_48 J Q)))))))) (x_aload 0 (x_get 7 0 (x_iload 1 (x_iald (x_iret Q))))))) (b_G7_look_18 J Q)))))))))
set_option maxRecDepth 100000 in
theorem s_G7_look_0 {p : Program} {l : Launch} {e : Env} {R : Room} {s : State} {m : MethodId} {args : Array Value} {below : List Frame} {meth : Method} {c : Code} {nW : Nat} {dC : Nat → ClassId} {dI : Nat → Nat → Nat} {k : Nat → ClassId} {g : Nat → Nat} {A : Nat → Prop} {J : Nat → List qV → List qV → qW → Prop} {Q : qR} (X : q_X p R s m args meth c cX7_look 3 nW 0 0 RX7 (some .int) dC dI k g A) (hJ : ∀ d : Nat, q_Sd p l e R s m args below meth c 3 nW dC dI k g A (MQ below (q_post (dC, dI) k g nW Q A) args s 0 0 A) d (x_cut (is_G7_look d) (J d))) : q_Sd p l e R s m args below meth c 3 nW dC dI k g A (MQ below (q_post (dC, dI) k g nW Q A) args s 0 0 A) 0 (b_G7_look_0 J Q) := by
  unfold b_G7_look_0
  refine s_iload_n X rfl dG7_look_0 ?_
  refine s_if_lt X (tgt := 18) dG7_look_1 (by decide) ?_ ?_
  · exact s_G7_look_18 X hJ
  · refine s_iload_n X rfl dG7_look_4 ?_
    refine s_aload_n X rfl dG7_look_5 ?_
    refine s_get X (T := TX7) (C := RX7) (N := 3) tu_X7 rfl (by decide) tw_245 dG7_look_6 ?_
    refine s_icmp_ge X (tgt := 18) dG7_look_9 (by decide) ?_ ?_
    · exact s_G7_look_18 X hJ
    · refine s_iload_n X rfl dG7_look_12 ?_
      refine s_bipush X ⟨by decide, by decide⟩ (by decide) dG7_look_13 ?_
      refine s_icmp_lt X (tgt := 21) dG7_look_15 (by decide) ?_ ?_
      · refine s_iload_n X rfl dG7_look_21 ?_
        refine s_if_ne X (tgt := 32) dG7_look_22 (by decide) ?_ ?_
        · refine s_iload_n X rfl dG7_look_32 ?_
          refine s_iconst X ⟨by decide, by decide⟩ dG7_look_33 ?_
          refine s_icmp_ne X (tgt := 46) dG7_look_34 (by decide) ?_ ?_
          · refine s_bipush X ⟨by decide, by decide⟩ (by decide) dG7_look_46 ?_
            exact s_G7_look_48 X hJ
          · refine s_aload_n X rfl dG7_look_37 ?_
            refine s_get X (T := TX7) (C := RX7) (N := 3) tu_X7 rfl (by decide) tw_243 dG7_look_38 ?_
            refine s_iload_n X rfl dG7_look_41 ?_
            refine s_iald X dG7_look_42 ?_
            refine s_goto X (tgt := 48) dG7_look_43 (by decide) ?_
            exact s_G7_look_48 X hJ
        · refine s_aload_n X rfl dG7_look_25 ?_
          refine s_get X (T := TX7) (C := RX7) (N := 3) tu_X7 rfl (by decide) tw_241 dG7_look_26 ?_
          refine s_iload_n X rfl dG7_look_29 ?_
          refine s_iald X dG7_look_30 ?_
          exact s_iret X dG7_look_31
      · exact s_G7_look_18 X hJ

def spr_G7_look : List qV → qW → (Option qV → Prop) → Prop := fun av w Q => ∃ (p1 : Nat → Int) (p2 : Nat → Int) (c1 : Int) (a : Int) (b : Int), av = [q2 0, q1 a, q1 b] ∧ w = (wSo 0 p1 p2 c1) ∧ (0 ≤ c1 ∧ c1 ≤ 10) ∧ (∀ (r : Int) , SiR p1 p2 c1 a b r → Q (some (q1 r)))
def sp_G7_look : qS := fun av w Q => spr_G7_look av w (fun r => Q r w)
set_option maxHeartbeats 4000000 in
set_option maxRecDepth 100000 in
theorem m_G7_look (l : Launch) : q_M l yX7_look cX7_look 3 (some .int) 0 0 sp_G7_look := by
  refine q_meth (by decide) (fun av w Q h => by obtain ⟨p1, p2, c1, a, b, rfl, rfl, hc, hQ⟩ := h; exact Nat.le_of_ble_eq_true rfl) ?_
  intro p e R s m args below meth c dC dI k g A av w Q hsp oka okw X
  obtain ⟨p1, p2, c1, a, b, rfl, rfl, hc, hQ⟩ := hsp
  have o_a : -2147483648 ≤ a ∧ a ≤ 2147483647 := oka _ (List.mem_of_getElem? (i := 1) rfl)
  have o_b : -2147483648 ≤ b ∧ b ≤ 2147483647 := oka _ (List.mem_of_getElem? (i := 2) rfl)
  refine s_mono (s_G7_look_0 X (J := fun _ _ _ _ => False) (fun d => s_cutF)) ?_
  rintro lv st w' ⟨rfl, rfl, rfl⟩
  apply And.intro
  · intro h1
    exact hQ _ (by unfold SiR; omega)
  · intro h1
    apply And.intro
    · intro h9
      exact hQ _ (by unfold SiR; omega)
    · intro h9
      apply And.intro
      · intro h15
        apply And.intro
        · intro h22
          apply And.intro
          · intro h34
            exact hQ _ (by unfold SiR; omega)
          · intro h34
            apply And.intro
            · exact ⟨by omega, by omega⟩
            intro z42 h42
            exact hQ _ (by unfold SiR; omega)
        · intro h22
          apply And.intro
          · exact ⟨by omega, by omega⟩
          intro z30 h30
          exact hQ _ (by unfold SiR; omega)
      · intro h15
        exact hQ _ (by unfold SiR; omega)

theorem dG8_boroughAt_0 : decode cX8_boroughAt 0 = .ok (.aload_n 0, 1) := by decide +kernel
theorem dG8_boroughAt_1 : decode cX8_boroughAt 1 = .ok (.iconst 0, 1) := by decide +kernel
theorem dG8_boroughAt_2 : decode cX8_boroughAt 2 = .ok (.iload_n 1, 1) := by decide +kernel
theorem dG8_boroughAt_3 : decode cX8_boroughAt 3 = .ok (.invokevirtual 76, 3) := by decide +kernel
theorem dG8_boroughAt_6 : decode cX8_boroughAt 6 = .ok (.ifCond .eq 12, 3) := by decide +kernel
theorem dG8_boroughAt_9 : decode cX8_boroughAt 9 = .ok (.aload_n 0, 1) := by decide +kernel
theorem dG8_boroughAt_10 : decode cX8_boroughAt 10 = .ok (.getfield 22, 3) := by decide +kernel
theorem dG8_boroughAt_13 : decode cX8_boroughAt 13 = .ok (.iload_n 1, 1) := by decide +kernel
theorem dG8_boroughAt_14 : decode cX8_boroughAt 14 = .ok (.aaload, 1) := by decide +kernel
theorem dG8_boroughAt_15 : decode cX8_boroughAt 15 = .ok (.goto 4, 3) := by decide +kernel
theorem dG8_boroughAt_18 : decode cX8_boroughAt 18 = .ok (.aconst_null, 1) := by decide +kernel
theorem dG8_boroughAt_19 : decode cX8_boroughAt 19 = .ok (.areturn, 1) := by decide +kernel
def is_G8_boroughAt : Nat → List Nat := fun d => []
set_option maxRecDepth 100000 in
def b_G8_boroughAt_19 (J : Nat → List qV → List qV → qW → Prop) (Q : qR) : qK := x_aret Q
set_option maxRecDepth 100000 in
theorem s_G8_boroughAt_19 {p : Program} {l : Launch} {e : Env} {R : Room} {s : State} {m : MethodId} {args : Array Value} {below : List Frame} {meth : Method} {c : Code} {nW : Nat} {dC : Nat → ClassId} {dI : Nat → Nat → Nat} {k : Nat → ClassId} {g : Nat → Nat} {A : Nat → Prop} {J : Nat → List qV → List qV → qW → Prop} {Q : qR} (X : q_X p R s m args meth c cX8_boroughAt 2 nW 1 22 RX8 (some (.object "HeightFine$Borough")) dC dI k g A) (hJ : ∀ d : Nat, q_Sd p l e R s m args below meth c 2 nW dC dI k g A (MQ below (q_post (dC, dI) k g nW Q A) args s 0 0 A) d (x_cut (is_G8_boroughAt d) (J d))) : q_Sd p l e R s m args below meth c 2 nW dC dI k g A (MQ below (q_post (dC, dI) k g nW Q A) args s 0 0 A) 19 (b_G8_boroughAt_19 J Q) := by
  unfold b_G8_boroughAt_19
  exact s_aret X dG8_boroughAt_19
set_option maxRecDepth 100000 in
def b_G8_boroughAt_0 (J : Nat → List qV → List qV → qW → Prop) (Q : qR) : qK := x_aload 0 (x_int 0 (x_iload 1 (x_callr (some 8) 3 spr_F8_holds (x_if_eq (x_null (b_G8_boroughAt_19 J Q)) (x_aload 0 (x_get 8 2 (x_iload 1 (x_aald (b_G8_boroughAt_19 J Q)))))))))
set_option maxRecDepth 100000 in
theorem s_G8_boroughAt_0 {p : Program} {l : Launch} {e : Env} {R : Room} {s : State} {m : MethodId} {args : Array Value} {below : List Frame} {meth : Method} {c : Code} {nW : Nat} {dC : Nat → ClassId} {dI : Nat → Nat → Nat} {k : Nat → ClassId} {g : Nat → Nat} {A : Nat → Prop} {J : Nat → List qV → List qV → qW → Prop} {Q : qR} (X : q_X p R s m args meth c cX8_boroughAt 2 nW 1 22 RX8 (some (.object "HeightFine$Borough")) dC dI k g A) (hJ : ∀ d : Nat, q_Sd p l e R s m args below meth c 2 nW dC dI k g A (MQ below (q_post (dC, dI) k g nW Q A) args s 0 0 A) d (x_cut (is_G8_boroughAt d) (J d))) : q_Sd p l e R s m args below meth c 2 nW dC dI k g A (MQ below (q_post (dC, dI) k g nW Q A) args s 0 0 A) 0 (b_G8_boroughAt_0 J Q) := by
  unfold b_G8_boroughAt_0
  refine s_aload_n X rfl dG8_boroughAt_0 ?_
  refine s_iconst X ⟨by decide, by decide⟩ dG8_boroughAt_1 ?_
  refine s_iload_n X rfl dG8_boroughAt_2 ?_
  refine s_callVr X (m_F8_holds l) tw_354 tw_355 tw_1531 tw_121 tw_356 rfl (by decide +kernel) ⟨by decide, by decide⟩ dG8_boroughAt_3 ?_
  refine s_if_eq X (tgt := 18) dG8_boroughAt_6 (by decide) ?_ ?_
  · refine s_null X dG8_boroughAt_18 ?_
    exact s_G8_boroughAt_19 X hJ
  · refine s_aload_n X rfl dG8_boroughAt_9 ?_
    refine s_get X (T := TX8) (C := RX8) (N := 9) tu_X8 rfl (by decide) tw_253 dG8_boroughAt_10 ?_
    refine s_iload_n X rfl dG8_boroughAt_13 ?_
    refine s_aald X dG8_boroughAt_14 ?_
    refine s_goto X (tgt := 19) dG8_boroughAt_15 (by decide) ?_
    exact s_G8_boroughAt_19 X hJ

def spr_G8_boroughAt : List qV → qW → (Option qV → Prop) → Prop := fun av w Q => ∃ (tp : Nat → Int) (ct : Nat → Int) (ln : Int) (fa : Int) (pl : Int) (a : Int), av = [q2 0, q1 a] ∧ w = (wT4_0 tp ct ln fa pl) ∧ (∀ (r : Option Nat) , ((r = none ∧ ¬ (0 ≤ a ∧ a < ct (0 : Int).toNat ∧ a ≤ 1)) ∨ (r = some 7 ∧ a = 0 ∧ 0 < ct (0 : Int).toNat) ∨ (r = some 8 ∧ a = 1 ∧ 1 < ct (0 : Int).toNat)) → Q (some (.inr (.inr r))))
def sp_G8_boroughAt : qS := fun av w Q => spr_G8_boroughAt av w (fun r => Q r w)
set_option maxHeartbeats 4000000 in
set_option maxRecDepth 100000 in
theorem m_G8_boroughAt (l : Launch) : q_M l yX8_boroughAt cX8_boroughAt 2 (some (.object "HeightFine$Borough")) 1 22 sp_G8_boroughAt := by
  refine q_meth (by decide) (fun av w Q h => by obtain ⟨tp, ct, ln, fa, pl, a, rfl, rfl, hQ⟩ := h; exact Nat.le_of_ble_eq_true rfl) ?_
  intro p e R s m args below meth c dC dI k g A av w Q hsp oka okw X
  obtain ⟨tp, ct, ln, fa, pl, a, rfl, rfl, hQ⟩ := hsp
  have o_a : -2147483648 ≤ a ∧ a ≤ 2147483647 := oka _ (List.mem_of_getElem? (i := 1) rfl)
  refine s_mono (s_G8_boroughAt_0 X (J := fun _ _ _ _ => False) (fun d => s_cutF)) ?_
  rintro lv st w' ⟨rfl, rfl, rfl⟩
  refine Exists.intro [0, 1, 2, 3, 4, 5, 6] (Exists.intro [q2 0, q1 _, q1 _] (Exists.intro ((wT3 _ _ _ _ _)) (And.intro rfl (And.intro rfl (And.intro rfl (And.intro ⟨⟨_, rfl⟩, rfl⟩ ?_))))))
  refine Exists.intro _ (Exists.intro _ (Exists.intro _ (Exists.intro _ (Exists.intro _ (Exists.intro _ (Exists.intro _ (And.intro rfl (And.intro rfl (And.intro (by first | omega | assumption | exact q_rg_up (by assumption) (by omega) | exact q_rg_up (q_rg_up (by assumption) (by omega)) (by omega) | exact q_rg_cpy (by assumption) (by assumption)) (?_))))))))))
  intro z3 h3
  apply And.intro
  · intro h6
    exact hQ _ (by first | exact Or.inl ⟨rfl, by omega⟩ | exact Or.inr (Or.inl ⟨rfl, rfl, by omega⟩) | exact Or.inr (Or.inr ⟨rfl, rfl, by omega⟩))
  · intro h6
    rcases (show a = 0 ∨ a = 1 by omega) with e9 | e9
    · subst e9
      apply And.intro
      · exact ⟨by omega, by omega⟩
      exact hQ _ (by first | exact Or.inl ⟨rfl, by omega⟩ | exact Or.inr (Or.inl ⟨rfl, rfl, by omega⟩) | exact Or.inr (Or.inr ⟨rfl, rfl, by omega⟩))
    · subst e9
      apply And.intro
      · exact ⟨by omega, by omega⟩
      exact hQ _ (by first | exact Or.inl ⟨rfl, by omega⟩ | exact Or.inr (Or.inl ⟨rfl, rfl, by omega⟩) | exact Or.inr (Or.inr ⟨rfl, rfl, by omega⟩))

theorem dG8_yearAt_0 : decode cX8_yearAt 0 = .ok (.aload_n 0, 1) := by decide +kernel
theorem dG8_yearAt_1 : decode cX8_yearAt 1 = .ok (.iconst 1, 1) := by decide +kernel
theorem dG8_yearAt_2 : decode cX8_yearAt 2 = .ok (.iload_n 1, 1) := by decide +kernel
theorem dG8_yearAt_3 : decode cX8_yearAt 3 = .ok (.invokevirtual 76, 3) := by decide +kernel
theorem dG8_yearAt_6 : decode cX8_yearAt 6 = .ok (.ifCond .eq 12, 3) := by decide +kernel
theorem dG8_yearAt_9 : decode cX8_yearAt 9 = .ok (.aload_n 0, 1) := by decide +kernel
theorem dG8_yearAt_10 : decode cX8_yearAt 10 = .ok (.getfield 29, 3) := by decide +kernel
theorem dG8_yearAt_13 : decode cX8_yearAt 13 = .ok (.iload_n 1, 1) := by decide +kernel
theorem dG8_yearAt_14 : decode cX8_yearAt 14 = .ok (.aaload, 1) := by decide +kernel
theorem dG8_yearAt_15 : decode cX8_yearAt 15 = .ok (.goto 4, 3) := by decide +kernel
theorem dG8_yearAt_18 : decode cX8_yearAt 18 = .ok (.aconst_null, 1) := by decide +kernel
theorem dG8_yearAt_19 : decode cX8_yearAt 19 = .ok (.areturn, 1) := by decide +kernel
def is_G8_yearAt : Nat → List Nat := fun d => []
set_option maxRecDepth 100000 in
def b_G8_yearAt_19 (J : Nat → List qV → List qV → qW → Prop) (Q : qR) : qK := x_aret Q
set_option maxRecDepth 100000 in
theorem s_G8_yearAt_19 {p : Program} {l : Launch} {e : Env} {R : Room} {s : State} {m : MethodId} {args : Array Value} {below : List Frame} {meth : Method} {c : Code} {nW : Nat} {dC : Nat → ClassId} {dI : Nat → Nat → Nat} {k : Nat → ClassId} {g : Nat → Nat} {A : Nat → Prop} {J : Nat → List qV → List qV → qW → Prop} {Q : qR} (X : q_X p R s m args meth c cX8_yearAt 2 nW 1 22 RX8 (some (.object "HeightFine$Year")) dC dI k g A) (hJ : ∀ d : Nat, q_Sd p l e R s m args below meth c 2 nW dC dI k g A (MQ below (q_post (dC, dI) k g nW Q A) args s 0 0 A) d (x_cut (is_G8_yearAt d) (J d))) : q_Sd p l e R s m args below meth c 2 nW dC dI k g A (MQ below (q_post (dC, dI) k g nW Q A) args s 0 0 A) 19 (b_G8_yearAt_19 J Q) := by
  unfold b_G8_yearAt_19
  exact s_aret X dG8_yearAt_19
set_option maxRecDepth 100000 in
def b_G8_yearAt_0 (J : Nat → List qV → List qV → qW → Prop) (Q : qR) : qK := x_aload 0 (x_int 1 (x_iload 1 (x_callr (some 8) 3 spr_F8_holds (x_if_eq (x_null (b_G8_yearAt_19 J Q)) (x_aload 0 (x_get 8 3 (x_iload 1 (x_aald (b_G8_yearAt_19 J Q)))))))))
set_option maxRecDepth 100000 in
theorem s_G8_yearAt_0 {p : Program} {l : Launch} {e : Env} {R : Room} {s : State} {m : MethodId} {args : Array Value} {below : List Frame} {meth : Method} {c : Code} {nW : Nat} {dC : Nat → ClassId} {dI : Nat → Nat → Nat} {k : Nat → ClassId} {g : Nat → Nat} {A : Nat → Prop} {J : Nat → List qV → List qV → qW → Prop} {Q : qR} (X : q_X p R s m args meth c cX8_yearAt 2 nW 1 22 RX8 (some (.object "HeightFine$Year")) dC dI k g A) (hJ : ∀ d : Nat, q_Sd p l e R s m args below meth c 2 nW dC dI k g A (MQ below (q_post (dC, dI) k g nW Q A) args s 0 0 A) d (x_cut (is_G8_yearAt d) (J d))) : q_Sd p l e R s m args below meth c 2 nW dC dI k g A (MQ below (q_post (dC, dI) k g nW Q A) args s 0 0 A) 0 (b_G8_yearAt_0 J Q) := by
  unfold b_G8_yearAt_0
  refine s_aload_n X rfl dG8_yearAt_0 ?_
  refine s_iconst X ⟨by decide, by decide⟩ dG8_yearAt_1 ?_
  refine s_iload_n X rfl dG8_yearAt_2 ?_
  refine s_callVr X (m_F8_holds l) tw_354 tw_355 tw_1531 tw_121 tw_356 rfl (by decide +kernel) ⟨by decide, by decide⟩ dG8_yearAt_3 ?_
  refine s_if_eq X (tgt := 18) dG8_yearAt_6 (by decide) ?_ ?_
  · refine s_null X dG8_yearAt_18 ?_
    exact s_G8_yearAt_19 X hJ
  · refine s_aload_n X rfl dG8_yearAt_9 ?_
    refine s_get X (T := TX8) (C := RX8) (N := 9) tu_X8 rfl (by decide) tw_254 dG8_yearAt_10 ?_
    refine s_iload_n X rfl dG8_yearAt_13 ?_
    refine s_aald X dG8_yearAt_14 ?_
    refine s_goto X (tgt := 19) dG8_yearAt_15 (by decide) ?_
    exact s_G8_yearAt_19 X hJ

def spr_G8_yearAt : List qV → qW → (Option qV → Prop) → Prop := fun av w Q => ∃ (tp : Nat → Int) (ct : Nat → Int) (ln : Int) (fa : Int) (pl : Int) (a : Int), av = [q2 0, q1 a] ∧ w = (wT4_1 tp ct ln fa pl) ∧ (∀ (r : Option Nat) , ((r = none ∧ ¬ (0 ≤ a ∧ a < ct (1 : Int).toNat ∧ a ≤ 1)) ∨ (r = some 7 ∧ a = 0 ∧ 0 < ct (1 : Int).toNat) ∨ (r = some 8 ∧ a = 1 ∧ 1 < ct (1 : Int).toNat)) → Q (some (.inr (.inr r))))
def sp_G8_yearAt : qS := fun av w Q => spr_G8_yearAt av w (fun r => Q r w)
set_option maxHeartbeats 4000000 in
set_option maxRecDepth 100000 in
theorem m_G8_yearAt (l : Launch) : q_M l yX8_yearAt cX8_yearAt 2 (some (.object "HeightFine$Year")) 1 22 sp_G8_yearAt := by
  refine q_meth (by decide) (fun av w Q h => by obtain ⟨tp, ct, ln, fa, pl, a, rfl, rfl, hQ⟩ := h; exact Nat.le_of_ble_eq_true rfl) ?_
  intro p e R s m args below meth c dC dI k g A av w Q hsp oka okw X
  obtain ⟨tp, ct, ln, fa, pl, a, rfl, rfl, hQ⟩ := hsp
  have o_a : -2147483648 ≤ a ∧ a ≤ 2147483647 := oka _ (List.mem_of_getElem? (i := 1) rfl)
  refine s_mono (s_G8_yearAt_0 X (J := fun _ _ _ _ => False) (fun d => s_cutF)) ?_
  rintro lv st w' ⟨rfl, rfl, rfl⟩
  refine Exists.intro [0, 1, 2, 4, 3, 5, 6] (Exists.intro [q2 0, q1 _, q1 _] (Exists.intro ((wT3 _ _ _ _ _)) (And.intro rfl (And.intro rfl (And.intro rfl (And.intro ⟨⟨_, rfl⟩, rfl⟩ ?_))))))
  refine Exists.intro _ (Exists.intro _ (Exists.intro _ (Exists.intro _ (Exists.intro _ (Exists.intro _ (Exists.intro _ (And.intro rfl (And.intro rfl (And.intro (by first | omega | assumption | exact q_rg_up (by assumption) (by omega) | exact q_rg_up (q_rg_up (by assumption) (by omega)) (by omega) | exact q_rg_cpy (by assumption) (by assumption)) (?_))))))))))
  intro z3 h3
  apply And.intro
  · intro h6
    exact hQ _ (by first | exact Or.inl ⟨rfl, by omega⟩ | exact Or.inr (Or.inl ⟨rfl, rfl, by omega⟩) | exact Or.inr (Or.inr ⟨rfl, rfl, by omega⟩))
  · intro h6
    rcases (show a = 0 ∨ a = 1 by omega) with e9 | e9
    · subst e9
      apply And.intro
      · exact ⟨by omega, by omega⟩
      exact hQ _ (by first | exact Or.inl ⟨rfl, by omega⟩ | exact Or.inr (Or.inl ⟨rfl, rfl, by omega⟩) | exact Or.inr (Or.inr ⟨rfl, rfl, by omega⟩))
    · subst e9
      apply And.intro
      · exact ⟨by omega, by omega⟩
      exact hQ _ (by first | exact Or.inl ⟨rfl, by omega⟩ | exact Or.inr (Or.inl ⟨rfl, rfl, by omega⟩) | exact Or.inr (Or.inr ⟨rfl, rfl, by omega⟩))

theorem dG8_sightAt_0 : decode cX8_sightAt 0 = .ok (.aload_n 0, 1) := by decide +kernel
theorem dG8_sightAt_1 : decode cX8_sightAt 1 = .ok (.iconst 3, 1) := by decide +kernel
theorem dG8_sightAt_2 : decode cX8_sightAt 2 = .ok (.iload_n 1, 1) := by decide +kernel
theorem dG8_sightAt_3 : decode cX8_sightAt 3 = .ok (.invokevirtual 76, 3) := by decide +kernel
theorem dG8_sightAt_6 : decode cX8_sightAt 6 = .ok (.ifCond .eq 12, 3) := by decide +kernel
theorem dG8_sightAt_9 : decode cX8_sightAt 9 = .ok (.aload_n 0, 1) := by decide +kernel
theorem dG8_sightAt_10 : decode cX8_sightAt 10 = .ok (.getfield 43, 3) := by decide +kernel
theorem dG8_sightAt_13 : decode cX8_sightAt 13 = .ok (.iload_n 1, 1) := by decide +kernel
theorem dG8_sightAt_14 : decode cX8_sightAt 14 = .ok (.aaload, 1) := by decide +kernel
theorem dG8_sightAt_15 : decode cX8_sightAt 15 = .ok (.goto 4, 3) := by decide +kernel
theorem dG8_sightAt_18 : decode cX8_sightAt 18 = .ok (.aconst_null, 1) := by decide +kernel
theorem dG8_sightAt_19 : decode cX8_sightAt 19 = .ok (.areturn, 1) := by decide +kernel
def is_G8_sightAt : Nat → List Nat := fun d => []
set_option maxRecDepth 100000 in
def b_G8_sightAt_19 (J : Nat → List qV → List qV → qW → Prop) (Q : qR) : qK := x_aret Q
set_option maxRecDepth 100000 in
theorem s_G8_sightAt_19 {p : Program} {l : Launch} {e : Env} {R : Room} {s : State} {m : MethodId} {args : Array Value} {below : List Frame} {meth : Method} {c : Code} {nW : Nat} {dC : Nat → ClassId} {dI : Nat → Nat → Nat} {k : Nat → ClassId} {g : Nat → Nat} {A : Nat → Prop} {J : Nat → List qV → List qV → qW → Prop} {Q : qR} (X : q_X p R s m args meth c cX8_sightAt 2 nW 1 22 RX8 (some (.object "HeightFine$Sight")) dC dI k g A) (hJ : ∀ d : Nat, q_Sd p l e R s m args below meth c 2 nW dC dI k g A (MQ below (q_post (dC, dI) k g nW Q A) args s 0 0 A) d (x_cut (is_G8_sightAt d) (J d))) : q_Sd p l e R s m args below meth c 2 nW dC dI k g A (MQ below (q_post (dC, dI) k g nW Q A) args s 0 0 A) 19 (b_G8_sightAt_19 J Q) := by
  unfold b_G8_sightAt_19
  exact s_aret X dG8_sightAt_19
set_option maxRecDepth 100000 in
def b_G8_sightAt_0 (J : Nat → List qV → List qV → qW → Prop) (Q : qR) : qK := x_aload 0 (x_int 3 (x_iload 1 (x_callr (some 8) 3 spr_F8_holds (x_if_eq (x_null (b_G8_sightAt_19 J Q)) (x_aload 0 (x_get 8 5 (x_iload 1 (x_aald (b_G8_sightAt_19 J Q)))))))))
set_option maxRecDepth 100000 in
theorem s_G8_sightAt_0 {p : Program} {l : Launch} {e : Env} {R : Room} {s : State} {m : MethodId} {args : Array Value} {below : List Frame} {meth : Method} {c : Code} {nW : Nat} {dC : Nat → ClassId} {dI : Nat → Nat → Nat} {k : Nat → ClassId} {g : Nat → Nat} {A : Nat → Prop} {J : Nat → List qV → List qV → qW → Prop} {Q : qR} (X : q_X p R s m args meth c cX8_sightAt 2 nW 1 22 RX8 (some (.object "HeightFine$Sight")) dC dI k g A) (hJ : ∀ d : Nat, q_Sd p l e R s m args below meth c 2 nW dC dI k g A (MQ below (q_post (dC, dI) k g nW Q A) args s 0 0 A) d (x_cut (is_G8_sightAt d) (J d))) : q_Sd p l e R s m args below meth c 2 nW dC dI k g A (MQ below (q_post (dC, dI) k g nW Q A) args s 0 0 A) 0 (b_G8_sightAt_0 J Q) := by
  unfold b_G8_sightAt_0
  refine s_aload_n X rfl dG8_sightAt_0 ?_
  refine s_iconst X ⟨by decide, by decide⟩ dG8_sightAt_1 ?_
  refine s_iload_n X rfl dG8_sightAt_2 ?_
  refine s_callVr X (m_F8_holds l) tw_354 tw_355 tw_1531 tw_121 tw_356 rfl (by decide +kernel) ⟨by decide, by decide⟩ dG8_sightAt_3 ?_
  refine s_if_eq X (tgt := 18) dG8_sightAt_6 (by decide) ?_ ?_
  · refine s_null X dG8_sightAt_18 ?_
    exact s_G8_sightAt_19 X hJ
  · refine s_aload_n X rfl dG8_sightAt_9 ?_
    refine s_get X (T := TX8) (C := RX8) (N := 9) tu_X8 rfl (by decide) tw_256 dG8_sightAt_10 ?_
    refine s_iload_n X rfl dG8_sightAt_13 ?_
    refine s_aald X dG8_sightAt_14 ?_
    refine s_goto X (tgt := 19) dG8_sightAt_15 (by decide) ?_
    exact s_G8_sightAt_19 X hJ

def spr_G8_sightAt : List qV → qW → (Option qV → Prop) → Prop := fun av w Q => ∃ (tp : Nat → Int) (ct : Nat → Int) (ln : Int) (fa : Int) (pl : Int) (a : Int), av = [q2 0, q1 a] ∧ w = (wT4_3 tp ct ln fa pl) ∧ (∀ (r : Option Nat) , ((r = none ∧ ¬ (0 ≤ a ∧ a < ct (3 : Int).toNat ∧ a ≤ 1)) ∨ (r = some 7 ∧ a = 0 ∧ 0 < ct (3 : Int).toNat) ∨ (r = some 8 ∧ a = 1 ∧ 1 < ct (3 : Int).toNat)) → Q (some (.inr (.inr r))))
def sp_G8_sightAt : qS := fun av w Q => spr_G8_sightAt av w (fun r => Q r w)
set_option maxHeartbeats 4000000 in
set_option maxRecDepth 100000 in
theorem m_G8_sightAt (l : Launch) : q_M l yX8_sightAt cX8_sightAt 2 (some (.object "HeightFine$Sight")) 1 22 sp_G8_sightAt := by
  refine q_meth (by decide) (fun av w Q h => by obtain ⟨tp, ct, ln, fa, pl, a, rfl, rfl, hQ⟩ := h; exact Nat.le_of_ble_eq_true rfl) ?_
  intro p e R s m args below meth c dC dI k g A av w Q hsp oka okw X
  obtain ⟨tp, ct, ln, fa, pl, a, rfl, rfl, hQ⟩ := hsp
  have o_a : -2147483648 ≤ a ∧ a ≤ 2147483647 := oka _ (List.mem_of_getElem? (i := 1) rfl)
  refine s_mono (s_G8_sightAt_0 X (J := fun _ _ _ _ => False) (fun d => s_cutF)) ?_
  rintro lv st w' ⟨rfl, rfl, rfl⟩
  refine Exists.intro [0, 1, 2, 4, 5, 6, 3] (Exists.intro [q2 0, q1 _, q1 _] (Exists.intro ((wT3 _ _ _ _ _)) (And.intro rfl (And.intro rfl (And.intro rfl (And.intro ⟨⟨_, rfl⟩, rfl⟩ ?_))))))
  refine Exists.intro _ (Exists.intro _ (Exists.intro _ (Exists.intro _ (Exists.intro _ (Exists.intro _ (Exists.intro _ (And.intro rfl (And.intro rfl (And.intro (by first | omega | assumption | exact q_rg_up (by assumption) (by omega) | exact q_rg_up (q_rg_up (by assumption) (by omega)) (by omega) | exact q_rg_cpy (by assumption) (by assumption)) (?_))))))))))
  intro z3 h3
  apply And.intro
  · intro h6
    exact hQ _ (by first | exact Or.inl ⟨rfl, by omega⟩ | exact Or.inr (Or.inl ⟨rfl, rfl, by omega⟩) | exact Or.inr (Or.inr ⟨rfl, rfl, by omega⟩))
  · intro h6
    rcases (show a = 0 ∨ a = 1 by omega) with e9 | e9
    · subst e9
      apply And.intro
      · exact ⟨by omega, by omega⟩
      exact hQ _ (by first | exact Or.inl ⟨rfl, by omega⟩ | exact Or.inr (Or.inl ⟨rfl, rfl, by omega⟩) | exact Or.inr (Or.inr ⟨rfl, rfl, by omega⟩))
    · subst e9
      apply And.intro
      · exact ⟨by omega, by omega⟩
      exact hQ _ (by first | exact Or.inl ⟨rfl, by omega⟩ | exact Or.inr (Or.inl ⟨rfl, rfl, by omega⟩) | exact Or.inr (Or.inr ⟨rfl, rfl, by omega⟩))

theorem dGX11_borough_0 : decode cX11_borough 0 = .ok (.aload_n 0, 1) := by decide +kernel
theorem dGX11_borough_1 : decode cX11_borough 1 = .ok (.getfield 10, 3) := by decide +kernel
theorem dGX11_borough_4 : decode cX11_borough 4 = .ok (.iload_n 1, 1) := by decide +kernel
theorem dGX11_borough_5 : decode cX11_borough 5 = .ok (.invokevirtual 94, 3) := by decide +kernel
theorem dGX11_borough_8 : decode cX11_borough 8 = .ok (.astore_n 3, 1) := by decide +kernel
theorem dGX11_borough_9 : decode cX11_borough 9 = .ok (.aload_n 3, 1) := by decide +kernel
theorem dGX11_borough_10 : decode cX11_borough 10 = .ok (.ifnonnull 8, 3) := by decide +kernel
theorem dGX11_borough_13 : decode cX11_borough 13 = .ok (.bipush (-2), 2) := by decide +kernel
theorem dGX11_borough_15 : decode cX11_borough 15 = .ok (.goto 8, 3) := by decide +kernel
theorem dGX11_borough_18 : decode cX11_borough 18 = .ok (.aload_n 3, 1) := by decide +kernel
theorem dGX11_borough_19 : decode cX11_borough 19 = .ok (.iload_n 2, 1) := by decide +kernel
theorem dGX11_borough_20 : decode cX11_borough 20 = .ok (.invokevirtual 98, 3) := by decide +kernel
theorem dGX11_borough_23 : decode cX11_borough 23 = .ok (.ireturn, 1) := by decide +kernel
def is_GX11_borough : Nat → List Nat := fun d => []
set_option maxRecDepth 100000 in
def b_GX11_borough_23 (J : Nat → List qV → List qV → qW → Prop) (Q : qR) : qK := x_iret Q
set_option maxRecDepth 100000 in
theorem s_GX11_borough_23 {p : Program} {l : Launch} {e : Env} {R : Room} {s : State} {m : MethodId} {args : Array Value} {below : List Frame} {meth : Method} {c : Code} {nW : Nat} {dC : Nat → ClassId} {dI : Nat → Nat → Nat} {k : Nat → ClassId} {g : Nat → Nat} {A : Nat → Prop} {J : Nat → List qV → List qV → qW → Prop} {Q : qR} (X : q_X p R s m args meth c cX11_borough 4 nW 2 43 RX11 (some .int) dC dI k g A) (hJ : ∀ d : Nat, q_Sd p l e R s m args below meth c 4 nW dC dI k g A (MQ below (q_post (dC, dI) k g nW Q A) args s 0 0 A) d (x_cut (is_GX11_borough d) (J d))) : q_Sd p l e R s m args below meth c 4 nW dC dI k g A (MQ below (q_post (dC, dI) k g nW Q A) args s 0 0 A) 23 (b_GX11_borough_23 J Q) := by
  unfold b_GX11_borough_23
  exact s_iret X dGX11_borough_23
set_option maxRecDepth 100000 in
def b_GX11_borough_0 (J : Nat → List qV → List qV → qW → Prop) (Q : qR) : qK := x_aload 0 (x_get 11 0 (x_iload 1 (x_callr (some 8) 2 spr_G8_boroughAt (x_astore 3 (x_aload 3 (x_ifnonnull (x_aload 3 (x_iload 2 (x_callr (some 0) 2 spr_G0_look (b_GX11_borough_23 J Q)))) (x_int (-2) (b_GX11_borough_23 J Q))))))))
set_option maxRecDepth 100000 in
theorem s_GX11_borough_0 {p : Program} {l : Launch} {e : Env} {R : Room} {s : State} {m : MethodId} {args : Array Value} {below : List Frame} {meth : Method} {c : Code} {nW : Nat} {dC : Nat → ClassId} {dI : Nat → Nat → Nat} {k : Nat → ClassId} {g : Nat → Nat} {A : Nat → Prop} {J : Nat → List qV → List qV → qW → Prop} {Q : qR} (X : q_X p R s m args meth c cX11_borough 4 nW 2 43 RX11 (some .int) dC dI k g A) (hJ : ∀ d : Nat, q_Sd p l e R s m args below meth c 4 nW dC dI k g A (MQ below (q_post (dC, dI) k g nW Q A) args s 0 0 A) d (x_cut (is_GX11_borough d) (J d))) : q_Sd p l e R s m args below meth c 4 nW dC dI k g A (MQ below (q_post (dC, dI) k g nW Q A) args s 0 0 A) 0 (b_GX11_borough_0 J Q) := by
  unfold b_GX11_borough_0
  refine s_aload_n X rfl dGX11_borough_0 ?_
  refine s_get X (T := TX11) (C := RX11) (N := 8) tu_X11 rfl (by decide) tw_326 dGX11_borough_1 ?_
  refine s_iload_n X rfl dGX11_borough_4 ?_
  refine s_callVr X (m_G8_boroughAt l) tw_541 tw_542 tw_543 tw_121 tw_544 rfl (by decide +kernel) ⟨by decide, by decide⟩ dGX11_borough_5 ?_
  refine s_astore_n X rfl (by decide) dGX11_borough_8 ?_
  refine s_aload_n X rfl dGX11_borough_9 ?_
  refine s_ifnonnull X (tgt := 18) dGX11_borough_10 (by decide) ?_ ?_
  · refine s_aload_n X rfl dGX11_borough_18 ?_
    refine s_iload_n X rfl dGX11_borough_19 ?_
    refine s_callVr X (m_G0_look l) tw_545 tw_546 tw_547 tw_122 tw_548 rfl (by decide +kernel) ⟨by decide, by decide⟩ dGX11_borough_20 ?_
    exact s_GX11_borough_23 X hJ
  · refine s_bipush X ⟨by decide, by decide⟩ (by decide) dGX11_borough_13 ?_
    refine s_goto X (tgt := 23) dGX11_borough_15 (by decide) ?_
    exact s_GX11_borough_23 X hJ

def spr_GX11_borough : List qV → qW → (Option qV → Prop) → Prop := fun av w Q => ∃ (tp : Nat → Int) (ct : Nat → Int) (ln : Int) (fa : Int) (pl : Int) (b0f1 : Nat → Int) (b0f2 : Nat → Int) (b0f3 : Nat → Int) (b0f4 : Nat → Int) (b0f5 : Nat → Int) (b0f6 : Nat → Int) (b0f7 : Nat → Int) (b0u0 : Int) (b0u1 : Int) (b0u2 : Int) (b0u3 : Int) (b0u4 : Int) (b1f1 : Nat → Int) (b1f2 : Nat → Int) (b1f3 : Nat → Int) (b1f4 : Nat → Int) (b1f5 : Nat → Int) (b1f6 : Nat → Int) (b1f7 : Nat → Int) (b1u0 : Int) (b1u1 : Int) (b1u2 : Int) (b1u3 : Int) (b1u4 : Int) (a : Int) (b : Int), av = [q2 0, q1 a, q1 b] ∧ w = [.inr (11, [q2 1, q2 21, q2 22, q2 23, q2 24, q2 25, q2 26, q2 27]), .inr (8, [q2 2, q2 3, q2 4, q2 28, q2 29, q2 30, q1 ln, q1 fa, q1 pl]), .inl (1, 600, .inl tp), .inl (0, 4, .inl ct), .inl (4, 2, .inr (.inr [some 5, some 13])), .inr (0, [q2 6, q2 7, q2 8, q2 9, q2 10, q2 11, q2 12, q1 b0u0, q1 b0u1, q1 b0u2, q1 b0u3, q1 b0u4]), .inl (0, 8, .inl b0f1), .inl (0, 8, .inl b0f2), .inl (0, 4, .inl b0f3), .inl (0, 32, .inl b0f4), .inl (0, 6, .inl b0f5), .inl (0, 6, .inl b0f6), .inl (0, 6, .inl b0f7), .inr (0, [q2 14, q2 15, q2 16, q2 17, q2 18, q2 19, q2 20, q1 b1u0, q1 b1u1, q1 b1u2, q1 b1u3, q1 b1u4]), .inl (0, 8, .inl b1f1), .inl (0, 8, .inl b1f2), .inl (0, 4, .inl b1f3), .inl (0, 32, .inl b1f4), .inl (0, 6, .inl b1f5), .inl (0, 6, .inl b1f6), .inl (0, 6, .inl b1f7)] ∧ (q_rg 0 2 ct) ∧ (0 ≤ ln ∧ ln ≤ 600) ∧ (0 ≤ b0u0 ∧ b0u0 ≤ 8 ∧ 0 ≤ b0u3 ∧ b0u3 ≤ 6 ∧ 0 ≤ b0u4 ∧ b0u4 ≤ 6) ∧ (q_rg 0 9 b0f3) ∧ (0 ≤ b1u0 ∧ b1u0 ≤ 8 ∧ 0 ≤ b1u3 ∧ b1u3 ≤ 6 ∧ 0 ≤ b1u4 ∧ b1u4 ≤ 6) ∧ (q_rg 0 9 b1f3) ∧ (∀ (r : Int) , ((((0 ≤ a ∧ a < ct (0 : Int).toNat) ∧ (a = 0 ∧ BoR b0f1 b0f2 b0f3 b0f4 b0f5 b0f6 b0f7 b0u0 b0u1 b0u2 b0u3 b0u4 b r ∨ a = 1 ∧ BoR b1f1 b1f2 b1f3 b1f4 b1f5 b1f6 b1f7 b1u0 b1u1 b1u2 b1u3 b1u4 b r) ∨ ¬ (0 ≤ a ∧ a < ct (0 : Int).toNat) ∧ r = -2))) → Q (some (q1 r)))
def sp_GX11_borough : qS := fun av w Q => spr_GX11_borough av w (fun r => Q r w)
set_option maxHeartbeats 4000000 in
set_option maxRecDepth 100000 in
theorem m_GX11_borough (l : Launch) : q_M l yX11_borough cX11_borough 4 (some .int) 2 43 sp_GX11_borough := by
  refine q_meth (by decide) (fun av w Q h => by obtain ⟨tp, ct, ln, fa, pl, b0f1, b0f2, b0f3, b0f4, b0f5, b0f6, b0f7, b0u0, b0u1, b0u2, b0u3, b0u4, b1f1, b1f2, b1f3, b1f4, b1f5, b1f6, b1f7, b1u0, b1u1, b1u2, b1u3, b1u4, a, b, rfl, rfl, hct, hln, hb0, hf0, hb1, hf1, hQ⟩ := h; exact Nat.le_of_ble_eq_true rfl) ?_
  intro p e R s m args below meth c dC dI k g A av w Q hsp oka okw X
  obtain ⟨tp, ct, ln, fa, pl, b0f1, b0f2, b0f3, b0f4, b0f5, b0f6, b0f7, b0u0, b0u1, b0u2, b0u3, b0u4, b1f1, b1f2, b1f3, b1f4, b1f5, b1f6, b1f7, b1u0, b1u1, b1u2, b1u3, b1u4, a, b, rfl, rfl, hct, hln, hb0, hf0, hb1, hf1, hQ⟩ := hsp
  have o_a : -2147483648 ≤ a ∧ a ≤ 2147483647 := oka _ (List.mem_of_getElem? (i := 1) rfl)
  have o_b : -2147483648 ≤ b ∧ b ≤ 2147483647 := oka _ (List.mem_of_getElem? (i := 2) rfl)
  refine s_mono (s_GX11_borough_0 X (J := fun _ _ _ _ => False) (fun d => s_cutF)) ?_
  rintro lv st w' ⟨rfl, rfl, rfl⟩
  refine Exists.intro [1, 2, 3, 4, 28, 29, 30, 5, 13] (Exists.intro [q2 0, q1 _] (Exists.intro ((wT4_0 _ _ _ _ _)) (And.intro rfl (And.intro rfl (And.intro rfl (And.intro ⟨⟨_, rfl⟩, rfl⟩ ?_))))))
  refine Exists.intro _ (Exists.intro _ (Exists.intro _ (Exists.intro _ (Exists.intro _ (Exists.intro _ (And.intro rfl (And.intro rfl (?_))))))))
  intro z5 h5
  rcases h5 with ⟨rfl, c5⟩ | ⟨rfl, rfl, c5⟩ | ⟨rfl, rfl, c5⟩
  · exact hQ _ (by first | exact Or.inr ⟨(by have q9 := hct (0 : Int).toNat; omega), rfl⟩ | exact Or.inl ⟨⟨by omega, by omega⟩, Or.inl ⟨rfl, h20⟩⟩ | exact Or.inl ⟨⟨by omega, by omega⟩, Or.inr ⟨rfl, h20⟩⟩)
  · refine Exists.intro [5, 6, 7, 8, 9, 10, 11, 12] (Exists.intro [q2 0, q1 _] (Exists.intro (wB _ _ _ _ _ _ _ _ _ _ _ _) (And.intro rfl (And.intro rfl (And.intro rfl (And.intro ⟨⟨_, rfl⟩, rfl⟩ ?_))))))
    refine Exists.intro _ (Exists.intro _ (Exists.intro _ (Exists.intro _ (Exists.intro _ (Exists.intro _ (Exists.intro _ (Exists.intro _ (Exists.intro _ (Exists.intro _ (Exists.intro _ (Exists.intro _ (Exists.intro _ (And.intro rfl (And.intro rfl (And.intro (by first | omega | assumption | exact q_rg_up (by assumption) (by omega) | exact q_rg_up (q_rg_up (by assumption) (by omega)) (by omega) | exact q_rg_cpy (by assumption) (by assumption)) (?_))))))))))))))))
    intro z20 h20
    exact hQ _ (by first | exact Or.inr ⟨(by have q9 := hct (0 : Int).toNat; omega), rfl⟩ | exact Or.inl ⟨⟨by omega, by omega⟩, Or.inl ⟨rfl, h20⟩⟩ | exact Or.inl ⟨⟨by omega, by omega⟩, Or.inr ⟨rfl, h20⟩⟩)
  · refine Exists.intro [13, 14, 15, 16, 17, 18, 19, 20] (Exists.intro [q2 0, q1 _] (Exists.intro (wB _ _ _ _ _ _ _ _ _ _ _ _) (And.intro rfl (And.intro rfl (And.intro rfl (And.intro ⟨⟨_, rfl⟩, rfl⟩ ?_))))))
    refine Exists.intro _ (Exists.intro _ (Exists.intro _ (Exists.intro _ (Exists.intro _ (Exists.intro _ (Exists.intro _ (Exists.intro _ (Exists.intro _ (Exists.intro _ (Exists.intro _ (Exists.intro _ (Exists.intro _ (And.intro rfl (And.intro rfl (And.intro (by first | omega | assumption | exact q_rg_up (by assumption) (by omega) | exact q_rg_up (q_rg_up (by assumption) (by omega)) (by omega) | exact q_rg_cpy (by assumption) (by assumption)) (?_))))))))))))))))
    intro z20 h20
    exact hQ _ (by first | exact Or.inr ⟨(by have q9 := hct (0 : Int).toNat; omega), rfl⟩ | exact Or.inl ⟨⟨by omega, by omega⟩, Or.inl ⟨rfl, h20⟩⟩ | exact Or.inl ⟨⟨by omega, by omega⟩, Or.inr ⟨rfl, h20⟩⟩)

theorem dGX11_deed_0 : decode cX11_deed 0 = .ok (.aload_n 0, 1) := by decide +kernel
theorem dGX11_deed_1 : decode cX11_deed 1 = .ok (.getfield 10, 3) := by decide +kernel
theorem dGX11_deed_4 : decode cX11_deed 4 = .ok (.iload_n 1, 1) := by decide +kernel
theorem dGX11_deed_5 : decode cX11_deed 5 = .ok (.invokevirtual 104, 3) := by decide +kernel
theorem dGX11_deed_8 : decode cX11_deed 8 = .ok (.astore 4, 2) := by decide +kernel
theorem dGX11_deed_10 : decode cX11_deed 10 = .ok (.aload 4, 2) := by decide +kernel
theorem dGX11_deed_12 : decode cX11_deed 12 = .ok (.ifnonnull 6, 3) := by decide +kernel
theorem dGX11_deed_15 : decode cX11_deed 15 = .ok (.bipush (-2), 2) := by decide +kernel
theorem dGX11_deed_17 : decode cX11_deed 17 = .ok (.ireturn, 1) := by decide +kernel
theorem dGX11_deed_18 : decode cX11_deed 18 = .ok (.iload_n 2, 1) := by decide +kernel
theorem dGX11_deed_19 : decode cX11_deed 19 = .ok (.iconst (-1), 1) := by decide +kernel
theorem dGX11_deed_20 : decode cX11_deed 20 = .ok (.if_icmp .ne 18, 3) := by decide +kernel
theorem dGX11_deed_23 : decode cX11_deed 23 = .ok (.iload_n 3, 1) := by decide +kernel
theorem dGX11_deed_24 : decode cX11_deed 24 = .ok (.ifCond .ne 11, 3) := by decide +kernel
theorem dGX11_deed_27 : decode cX11_deed 27 = .ok (.aload 4, 2) := by decide +kernel
theorem dGX11_deed_29 : decode cX11_deed 29 = .ok (.getfield 108, 3) := by decide +kernel
theorem dGX11_deed_32 : decode cX11_deed 32 = .ok (.goto 5, 3) := by decide +kernel
theorem dGX11_deed_35 : decode cX11_deed 35 = .ok (.bipush (-2), 2) := by decide +kernel
theorem dGX11_deed_37 : decode cX11_deed 37 = .ok (.ireturn, 1) := by decide +kernel
theorem dGX11_deed_38 : decode cX11_deed 38 = .ok (.aload 4, 2) := by decide +kernel
theorem dGX11_deed_40 : decode cX11_deed 40 = .ok (.iload_n 2, 1) := by decide +kernel
theorem dGX11_deed_41 : decode cX11_deed 41 = .ok (.iload_n 3, 1) := by decide +kernel
theorem dGX11_deed_42 : decode cX11_deed 42 = .ok (.invokevirtual 113, 3) := by decide +kernel
theorem dGX11_deed_45 : decode cX11_deed 45 = .ok (.ireturn, 1) := by decide +kernel
def is_GX11_deed : Nat → List Nat := fun d => []
set_option maxRecDepth 100000 in
def b_GX11_deed_37 (J : Nat → List qV → List qV → qW → Prop) (Q : qR) : qK := x_iret Q
set_option maxRecDepth 100000 in
theorem s_GX11_deed_37 {p : Program} {l : Launch} {e : Env} {R : Room} {s : State} {m : MethodId} {args : Array Value} {below : List Frame} {meth : Method} {c : Code} {nW : Nat} {dC : Nat → ClassId} {dI : Nat → Nat → Nat} {k : Nat → ClassId} {g : Nat → Nat} {A : Nat → Prop} {J : Nat → List qV → List qV → qW → Prop} {Q : qR} (X : q_X p R s m args meth c cX11_deed 5 nW 2 43 RX11 (some .int) dC dI k g A) (hJ : ∀ d : Nat, q_Sd p l e R s m args below meth c 5 nW dC dI k g A (MQ below (q_post (dC, dI) k g nW Q A) args s 0 0 A) d (x_cut (is_GX11_deed d) (J d))) : q_Sd p l e R s m args below meth c 5 nW dC dI k g A (MQ below (q_post (dC, dI) k g nW Q A) args s 0 0 A) 37 (b_GX11_deed_37 J Q) := by
  unfold b_GX11_deed_37
  exact s_iret X dGX11_deed_37
set_option maxRecDepth 100000 in
def b_GX11_deed_0 (J : Nat → List qV → List qV → qW → Prop) (Q : qR) : qK := x_aload 0 (x_get 11 0 (x_iload 1 (x_callr (some 8) 2 spr_G8_yearAt (x_astore 4 (x_aload 4 (x_ifnonnull (x_iload 2 (x_int (-1) (x_icmp_ne (x_aload 4 (x_iload 2 (x_iload 3 (x_callr (some 10) 3 spr_G10_look (x_iret Q))))) (x_iload 3 (x_if_ne (x_int (-2) (b_GX11_deed_37 J Q)) (x_aload 4 (x_get 10 4 (b_GX11_deed_37 J Q)))))))) (x_int (-2) (x_iret Q))))))))
set_option maxRecDepth 100000 in
theorem s_GX11_deed_0 {p : Program} {l : Launch} {e : Env} {R : Room} {s : State} {m : MethodId} {args : Array Value} {below : List Frame} {meth : Method} {c : Code} {nW : Nat} {dC : Nat → ClassId} {dI : Nat → Nat → Nat} {k : Nat → ClassId} {g : Nat → Nat} {A : Nat → Prop} {J : Nat → List qV → List qV → qW → Prop} {Q : qR} (X : q_X p R s m args meth c cX11_deed 5 nW 2 43 RX11 (some .int) dC dI k g A) (hJ : ∀ d : Nat, q_Sd p l e R s m args below meth c 5 nW dC dI k g A (MQ below (q_post (dC, dI) k g nW Q A) args s 0 0 A) d (x_cut (is_GX11_deed d) (J d))) : q_Sd p l e R s m args below meth c 5 nW dC dI k g A (MQ below (q_post (dC, dI) k g nW Q A) args s 0 0 A) 0 (b_GX11_deed_0 J Q) := by
  unfold b_GX11_deed_0
  refine s_aload_n X rfl dGX11_deed_0 ?_
  refine s_get X (T := TX11) (C := RX11) (N := 8) tu_X11 rfl (by decide) tw_326 dGX11_deed_1 ?_
  refine s_iload_n X rfl dGX11_deed_4 ?_
  refine s_callVr X (m_G8_yearAt l) tw_559 tw_560 tw_561 tw_121 tw_562 rfl (by decide +kernel) ⟨by decide, by decide⟩ dGX11_deed_5 ?_
  refine s_astore X (by decide) dGX11_deed_8 ?_
  refine s_aload X dGX11_deed_10 ?_
  refine s_ifnonnull X (tgt := 18) dGX11_deed_12 (by decide) ?_ ?_
  · refine s_iload_n X rfl dGX11_deed_18 ?_
    refine s_iconst X ⟨by decide, by decide⟩ dGX11_deed_19 ?_
    refine s_icmp_ne X (tgt := 38) dGX11_deed_20 (by decide) ?_ ?_
    · refine s_aload X dGX11_deed_38 ?_
      refine s_iload_n X rfl dGX11_deed_40 ?_
      refine s_iload_n X rfl dGX11_deed_41 ?_
      refine s_callVr X (m_G10_look l) tw_563 tw_564 tw_565 tw_125 tw_566 rfl (by decide +kernel) ⟨by decide, by decide⟩ dGX11_deed_42 ?_
      exact s_iret X dGX11_deed_45
    · refine s_iload_n X rfl dGX11_deed_23 ?_
      refine s_if_ne X (tgt := 35) dGX11_deed_24 (by decide) ?_ ?_
      · refine s_bipush X ⟨by decide, by decide⟩ (by decide) dGX11_deed_35 ?_
        exact s_GX11_deed_37 X hJ
      · refine s_aload X dGX11_deed_27 ?_
        refine s_get X (T := TX10) (C := RX10) (N := 5) tu_X10 rfl (by decide) tw_226 dGX11_deed_29 ?_
        refine s_goto X (tgt := 37) dGX11_deed_32 (by decide) ?_
        exact s_GX11_deed_37 X hJ
  · refine s_bipush X ⟨by decide, by decide⟩ (by decide) dGX11_deed_15 ?_
    exact s_iret X dGX11_deed_17

def spr_GX11_deed : List qV → qW → (Option qV → Prop) → Prop := fun av w Q => ∃ (tp : Nat → Int) (ct : Nat → Int) (ln : Int) (fa : Int) (pl : Int) (y0k1 : Nat → Int) (y0k2 : Nat → Int) (y0k3 : Nat → Int) (y0k4 : Nat → Int) (y0d : Int) (y1k1 : Nat → Int) (y1k2 : Nat → Int) (y1k3 : Nat → Int) (y1k4 : Nat → Int) (y1d : Int) (a : Int) (b : Int) (cc : Int), av = [q2 0, q1 a, q1 b, q1 cc] ∧ w = [.inr (11, [q2 1, q2 15, q2 16, q2 17, q2 18, q2 19, q2 20, q2 21]), .inr (8, [q2 2, q2 3, q2 22, q2 4, q2 23, q2 24, q1 ln, q1 fa, q1 pl]), .inl (1, 600, .inl tp), .inl (0, 4, .inl ct), .inl (5, 2, .inr (.inr [some 5, some 10])), .inr (10, [q2 6, q2 7, q2 8, q2 9, q1 y0d]), .inl (0, 40, .inl y0k1), .inl (0, 40, .inl y0k2), .inl (0, 40, .inl y0k3), .inl (0, 40, .inl y0k4), .inr (10, [q2 11, q2 12, q2 13, q2 14, q1 y1d]), .inl (0, 40, .inl y1k1), .inl (0, 40, .inl y1k2), .inl (0, 40, .inl y1k3), .inl (0, 40, .inl y1k4)] ∧ (q_rg 0 2 ct) ∧ (0 ≤ ln ∧ ln ≤ 600) ∧ (0 ≤ y0d ∧ y0d ≤ 40) ∧ (0 ≤ y1d ∧ y1d ≤ 40) ∧ (∀ (r : Int) , ((((0 ≤ a ∧ a < ct (1 : Int).toNat) ∧ (a = 0 ∧ DeR y0k1 y0k2 y0k3 y0k4 y0d b cc r ∨ a = 1 ∧ DeR y1k1 y1k2 y1k3 y1k4 y1d b cc r) ∨ ¬ (0 ≤ a ∧ a < ct (1 : Int).toNat) ∧ r = -2))) → Q (some (q1 r)))
def sp_GX11_deed : qS := fun av w Q => spr_GX11_deed av w (fun r => Q r w)
set_option maxHeartbeats 4000000 in
set_option maxRecDepth 100000 in
theorem m_GX11_deed (l : Launch) : q_M l yX11_deed cX11_deed 5 (some .int) 2 43 sp_GX11_deed := by
  refine q_meth (by decide) (fun av w Q h => by obtain ⟨tp, ct, ln, fa, pl, y0k1, y0k2, y0k3, y0k4, y0d, y1k1, y1k2, y1k3, y1k4, y1d, a, b, cc, rfl, rfl, hct, hln, hy0, hy1, hQ⟩ := h; exact Nat.le_of_ble_eq_true rfl) ?_
  intro p e R s m args below meth c dC dI k g A av w Q hsp oka okw X
  obtain ⟨tp, ct, ln, fa, pl, y0k1, y0k2, y0k3, y0k4, y0d, y1k1, y1k2, y1k3, y1k4, y1d, a, b, cc, rfl, rfl, hct, hln, hy0, hy1, hQ⟩ := hsp
  have o_a : -2147483648 ≤ a ∧ a ≤ 2147483647 := oka _ (List.mem_of_getElem? (i := 1) rfl)
  have o_b : -2147483648 ≤ b ∧ b ≤ 2147483647 := oka _ (List.mem_of_getElem? (i := 2) rfl)
  have o_cc : -2147483648 ≤ cc ∧ cc ≤ 2147483647 := oka _ (List.mem_of_getElem? (i := 3) rfl)
  refine s_mono (s_GX11_deed_0 X (J := fun _ _ _ _ => False) (fun d => s_cutF)) ?_
  rintro lv st w' ⟨rfl, rfl, rfl⟩
  refine Exists.intro [1, 2, 3, 4, 22, 23, 24, 5, 10] (Exists.intro [q2 0, q1 _] (Exists.intro ((wT4_1 _ _ _ _ _)) (And.intro rfl (And.intro rfl (And.intro rfl (And.intro ⟨⟨_, rfl⟩, rfl⟩ ?_))))))
  refine Exists.intro _ (Exists.intro _ (Exists.intro _ (Exists.intro _ (Exists.intro _ (Exists.intro _ (And.intro rfl (And.intro rfl (?_))))))))
  intro z5 h5
  rcases h5 with ⟨rfl, c5⟩ | ⟨rfl, rfl, c5⟩ | ⟨rfl, rfl, c5⟩
  · exact hQ _ (by first | exact Or.inr ⟨(by have q9 := hct (1 : Int).toNat; omega), rfl⟩ | exact Or.inl ⟨⟨by omega, by omega⟩, Or.inl ⟨rfl, (by first | exact Or.inl ⟨by omega, by omega, rfl⟩ | exact Or.inr (Or.inl ⟨by omega, by omega, rfl⟩) | exact Or.inr (Or.inr ⟨by omega, h42⟩))⟩⟩ | exact Or.inl ⟨⟨by omega, by omega⟩, Or.inr ⟨rfl, (by first | exact Or.inl ⟨by omega, by omega, rfl⟩ | exact Or.inr (Or.inl ⟨by omega, by omega, rfl⟩) | exact Or.inr (Or.inr ⟨by omega, h42⟩))⟩⟩)
  · apply And.intro
    · intro h20
      refine Exists.intro [5, 6, 7, 8, 9] (Exists.intro [q2 0, q1 _, q1 _] (Exists.intro ((wYo 0 _ _ _ _ _)) (And.intro rfl (And.intro rfl (And.intro rfl (And.intro ⟨⟨_, rfl⟩, rfl⟩ ?_))))))
      refine Exists.intro _ (Exists.intro _ (Exists.intro _ (Exists.intro _ (Exists.intro _ (Exists.intro _ (Exists.intro _ (And.intro rfl (And.intro rfl (And.intro (by first | omega | assumption | exact q_rg_up (by assumption) (by omega) | exact q_rg_up (q_rg_up (by assumption) (by omega)) (by omega) | exact q_rg_cpy (by assumption) (by assumption)) (?_))))))))))
      intro z42 h42
      exact hQ _ (by first | exact Or.inr ⟨(by have q9 := hct (1 : Int).toNat; omega), rfl⟩ | exact Or.inl ⟨⟨by omega, by omega⟩, Or.inl ⟨rfl, (by first | exact Or.inl ⟨by omega, by omega, rfl⟩ | exact Or.inr (Or.inl ⟨by omega, by omega, rfl⟩) | exact Or.inr (Or.inr ⟨by omega, h42⟩))⟩⟩ | exact Or.inl ⟨⟨by omega, by omega⟩, Or.inr ⟨rfl, (by first | exact Or.inl ⟨by omega, by omega, rfl⟩ | exact Or.inr (Or.inl ⟨by omega, by omega, rfl⟩) | exact Or.inr (Or.inr ⟨by omega, h42⟩))⟩⟩)
    · intro h20
      apply And.intro
      · intro h24
        exact hQ _ (by first | exact Or.inr ⟨(by have q9 := hct (1 : Int).toNat; omega), rfl⟩ | exact Or.inl ⟨⟨by omega, by omega⟩, Or.inl ⟨rfl, (by first | exact Or.inl ⟨by omega, by omega, rfl⟩ | exact Or.inr (Or.inl ⟨by omega, by omega, rfl⟩) | exact Or.inr (Or.inr ⟨by omega, h42⟩))⟩⟩ | exact Or.inl ⟨⟨by omega, by omega⟩, Or.inr ⟨rfl, (by first | exact Or.inl ⟨by omega, by omega, rfl⟩ | exact Or.inr (Or.inl ⟨by omega, by omega, rfl⟩) | exact Or.inr (Or.inr ⟨by omega, h42⟩))⟩⟩)
      · intro h24
        exact hQ _ (by first | exact Or.inr ⟨(by have q9 := hct (1 : Int).toNat; omega), rfl⟩ | exact Or.inl ⟨⟨by omega, by omega⟩, Or.inl ⟨rfl, (by first | exact Or.inl ⟨by omega, by omega, rfl⟩ | exact Or.inr (Or.inl ⟨by omega, by omega, rfl⟩) | exact Or.inr (Or.inr ⟨by omega, h42⟩))⟩⟩ | exact Or.inl ⟨⟨by omega, by omega⟩, Or.inr ⟨rfl, (by first | exact Or.inl ⟨by omega, by omega, rfl⟩ | exact Or.inr (Or.inl ⟨by omega, by omega, rfl⟩) | exact Or.inr (Or.inr ⟨by omega, h42⟩))⟩⟩)
  · apply And.intro
    · intro h20
      refine Exists.intro [10, 11, 12, 13, 14] (Exists.intro [q2 0, q1 _, q1 _] (Exists.intro ((wYo 0 _ _ _ _ _)) (And.intro rfl (And.intro rfl (And.intro rfl (And.intro ⟨⟨_, rfl⟩, rfl⟩ ?_))))))
      refine Exists.intro _ (Exists.intro _ (Exists.intro _ (Exists.intro _ (Exists.intro _ (Exists.intro _ (Exists.intro _ (And.intro rfl (And.intro rfl (And.intro (by first | omega | assumption | exact q_rg_up (by assumption) (by omega) | exact q_rg_up (q_rg_up (by assumption) (by omega)) (by omega) | exact q_rg_cpy (by assumption) (by assumption)) (?_))))))))))
      intro z42 h42
      exact hQ _ (by first | exact Or.inr ⟨(by have q9 := hct (1 : Int).toNat; omega), rfl⟩ | exact Or.inl ⟨⟨by omega, by omega⟩, Or.inl ⟨rfl, (by first | exact Or.inl ⟨by omega, by omega, rfl⟩ | exact Or.inr (Or.inl ⟨by omega, by omega, rfl⟩) | exact Or.inr (Or.inr ⟨by omega, h42⟩))⟩⟩ | exact Or.inl ⟨⟨by omega, by omega⟩, Or.inr ⟨rfl, (by first | exact Or.inl ⟨by omega, by omega, rfl⟩ | exact Or.inr (Or.inl ⟨by omega, by omega, rfl⟩) | exact Or.inr (Or.inr ⟨by omega, h42⟩))⟩⟩)
    · intro h20
      apply And.intro
      · intro h24
        exact hQ _ (by first | exact Or.inr ⟨(by have q9 := hct (1 : Int).toNat; omega), rfl⟩ | exact Or.inl ⟨⟨by omega, by omega⟩, Or.inl ⟨rfl, (by first | exact Or.inl ⟨by omega, by omega, rfl⟩ | exact Or.inr (Or.inl ⟨by omega, by omega, rfl⟩) | exact Or.inr (Or.inr ⟨by omega, h42⟩))⟩⟩ | exact Or.inl ⟨⟨by omega, by omega⟩, Or.inr ⟨rfl, (by first | exact Or.inl ⟨by omega, by omega, rfl⟩ | exact Or.inr (Or.inl ⟨by omega, by omega, rfl⟩) | exact Or.inr (Or.inr ⟨by omega, h42⟩))⟩⟩)
      · intro h24
        exact hQ _ (by first | exact Or.inr ⟨(by have q9 := hct (1 : Int).toNat; omega), rfl⟩ | exact Or.inl ⟨⟨by omega, by omega⟩, Or.inl ⟨rfl, (by first | exact Or.inl ⟨by omega, by omega, rfl⟩ | exact Or.inr (Or.inl ⟨by omega, by omega, rfl⟩) | exact Or.inr (Or.inr ⟨by omega, h42⟩))⟩⟩ | exact Or.inl ⟨⟨by omega, by omega⟩, Or.inr ⟨rfl, (by first | exact Or.inl ⟨by omega, by omega, rfl⟩ | exact Or.inr (Or.inl ⟨by omega, by omega, rfl⟩) | exact Or.inr (Or.inr ⟨by omega, h42⟩))⟩⟩)

theorem dGX11_fact_0 : decode cX11_fact 0 = .ok (.aload_n 0, 1) := by decide +kernel
theorem dGX11_fact_1 : decode cX11_fact 1 = .ok (.getfield 10, 3) := by decide +kernel
theorem dGX11_fact_4 : decode cX11_fact 4 = .ok (.iload_n 1, 1) := by decide +kernel
theorem dGX11_fact_5 : decode cX11_fact 5 = .ok (.invokevirtual 210, 3) := by decide +kernel
theorem dGX11_fact_8 : decode cX11_fact 8 = .ok (.astore 4, 2) := by decide +kernel
theorem dGX11_fact_10 : decode cX11_fact 10 = .ok (.aload 4, 2) := by decide +kernel
theorem dGX11_fact_12 : decode cX11_fact 12 = .ok (.ifnonnull 6, 3) := by decide +kernel
theorem dGX11_fact_15 : decode cX11_fact 15 = .ok (.bipush (-2), 2) := by decide +kernel
theorem dGX11_fact_17 : decode cX11_fact 17 = .ok (.ireturn, 1) := by decide +kernel
theorem dGX11_fact_18 : decode cX11_fact 18 = .ok (.iload_n 2, 1) := by decide +kernel
theorem dGX11_fact_19 : decode cX11_fact 19 = .ok (.iconst (-1), 1) := by decide +kernel
theorem dGX11_fact_20 : decode cX11_fact 20 = .ok (.if_icmp .ne 18, 3) := by decide +kernel
theorem dGX11_fact_23 : decode cX11_fact 23 = .ok (.iload_n 3, 1) := by decide +kernel
theorem dGX11_fact_24 : decode cX11_fact 24 = .ok (.ifCond .ne 11, 3) := by decide +kernel
theorem dGX11_fact_27 : decode cX11_fact 27 = .ok (.aload 4, 2) := by decide +kernel
theorem dGX11_fact_29 : decode cX11_fact 29 = .ok (.getfield 214, 3) := by decide +kernel
theorem dGX11_fact_32 : decode cX11_fact 32 = .ok (.goto 5, 3) := by decide +kernel
theorem dGX11_fact_35 : decode cX11_fact 35 = .ok (.bipush (-2), 2) := by decide +kernel
theorem dGX11_fact_37 : decode cX11_fact 37 = .ok (.ireturn, 1) := by decide +kernel
theorem dGX11_fact_38 : decode cX11_fact 38 = .ok (.aload 4, 2) := by decide +kernel
theorem dGX11_fact_40 : decode cX11_fact 40 = .ok (.iload_n 2, 1) := by decide +kernel
theorem dGX11_fact_41 : decode cX11_fact 41 = .ok (.iload_n 3, 1) := by decide +kernel
theorem dGX11_fact_42 : decode cX11_fact 42 = .ok (.invokevirtual 219, 3) := by decide +kernel
theorem dGX11_fact_45 : decode cX11_fact 45 = .ok (.ireturn, 1) := by decide +kernel
def is_GX11_fact : Nat → List Nat := fun d => []
set_option maxRecDepth 100000 in
def b_GX11_fact_37 (J : Nat → List qV → List qV → qW → Prop) (Q : qR) : qK := x_iret Q
set_option maxRecDepth 100000 in
theorem s_GX11_fact_37 {p : Program} {l : Launch} {e : Env} {R : Room} {s : State} {m : MethodId} {args : Array Value} {below : List Frame} {meth : Method} {c : Code} {nW : Nat} {dC : Nat → ClassId} {dI : Nat → Nat → Nat} {k : Nat → ClassId} {g : Nat → Nat} {A : Nat → Prop} {J : Nat → List qV → List qV → qW → Prop} {Q : qR} (X : q_X p R s m args meth c cX11_fact 5 nW 2 43 RX11 (some .int) dC dI k g A) (hJ : ∀ d : Nat, q_Sd p l e R s m args below meth c 5 nW dC dI k g A (MQ below (q_post (dC, dI) k g nW Q A) args s 0 0 A) d (x_cut (is_GX11_fact d) (J d))) : q_Sd p l e R s m args below meth c 5 nW dC dI k g A (MQ below (q_post (dC, dI) k g nW Q A) args s 0 0 A) 37 (b_GX11_fact_37 J Q) := by
  unfold b_GX11_fact_37
  exact s_iret X dGX11_fact_37
set_option maxRecDepth 100000 in
def b_GX11_fact_0 (J : Nat → List qV → List qV → qW → Prop) (Q : qR) : qK := x_aload 0 (x_get 11 0 (x_iload 1 (x_callr (some 8) 2 spr_G8_sightAt (x_astore 4 (x_aload 4 (x_ifnonnull (x_iload 2 (x_int (-1) (x_icmp_ne (x_aload 4 (x_iload 2 (x_iload 3 (x_callr (some 7) 3 spr_G7_look (x_iret Q))))) (x_iload 3 (x_if_ne (x_int (-2) (b_GX11_fact_37 J Q)) (x_aload 4 (x_get 7 2 (b_GX11_fact_37 J Q)))))))) (x_int (-2) (x_iret Q))))))))
set_option maxRecDepth 100000 in
theorem s_GX11_fact_0 {p : Program} {l : Launch} {e : Env} {R : Room} {s : State} {m : MethodId} {args : Array Value} {below : List Frame} {meth : Method} {c : Code} {nW : Nat} {dC : Nat → ClassId} {dI : Nat → Nat → Nat} {k : Nat → ClassId} {g : Nat → Nat} {A : Nat → Prop} {J : Nat → List qV → List qV → qW → Prop} {Q : qR} (X : q_X p R s m args meth c cX11_fact 5 nW 2 43 RX11 (some .int) dC dI k g A) (hJ : ∀ d : Nat, q_Sd p l e R s m args below meth c 5 nW dC dI k g A (MQ below (q_post (dC, dI) k g nW Q A) args s 0 0 A) d (x_cut (is_GX11_fact d) (J d))) : q_Sd p l e R s m args below meth c 5 nW dC dI k g A (MQ below (q_post (dC, dI) k g nW Q A) args s 0 0 A) 0 (b_GX11_fact_0 J Q) := by
  unfold b_GX11_fact_0
  refine s_aload_n X rfl dGX11_fact_0 ?_
  refine s_get X (T := TX11) (C := RX11) (N := 8) tu_X11 rfl (by decide) tw_326 dGX11_fact_1 ?_
  refine s_iload_n X rfl dGX11_fact_4 ?_
  refine s_callVr X (m_G8_sightAt l) tw_800 tw_801 tw_802 tw_121 tw_803 rfl (by decide +kernel) ⟨by decide, by decide⟩ dGX11_fact_5 ?_
  refine s_astore X (by decide) dGX11_fact_8 ?_
  refine s_aload X dGX11_fact_10 ?_
  refine s_ifnonnull X (tgt := 18) dGX11_fact_12 (by decide) ?_ ?_
  · refine s_iload_n X rfl dGX11_fact_18 ?_
    refine s_iconst X ⟨by decide, by decide⟩ dGX11_fact_19 ?_
    refine s_icmp_ne X (tgt := 38) dGX11_fact_20 (by decide) ?_ ?_
    · refine s_aload X dGX11_fact_38 ?_
      refine s_iload_n X rfl dGX11_fact_40 ?_
      refine s_iload_n X rfl dGX11_fact_41 ?_
      refine s_callVr X (m_G7_look l) tw_804 tw_805 tw_806 tw_127 tw_807 rfl (by decide +kernel) ⟨by decide, by decide⟩ dGX11_fact_42 ?_
      exact s_iret X dGX11_fact_45
    · refine s_iload_n X rfl dGX11_fact_23 ?_
      refine s_if_ne X (tgt := 35) dGX11_fact_24 (by decide) ?_ ?_
      · refine s_bipush X ⟨by decide, by decide⟩ (by decide) dGX11_fact_35 ?_
        exact s_GX11_fact_37 X hJ
      · refine s_aload X dGX11_fact_27 ?_
        refine s_get X (T := TX7) (C := RX7) (N := 3) tu_X7 rfl (by decide) tw_248 dGX11_fact_29 ?_
        refine s_goto X (tgt := 37) dGX11_fact_32 (by decide) ?_
        exact s_GX11_fact_37 X hJ
  · refine s_bipush X ⟨by decide, by decide⟩ (by decide) dGX11_fact_15 ?_
    exact s_iret X dGX11_fact_17

def spr_GX11_fact : List qV → qW → (Option qV → Prop) → Prop := fun av w Q => ∃ (tp : Nat → Int) (ct : Nat → Int) (ln : Int) (fa : Int) (pl : Int) (s0p : Nat → Int) (s0t : Nat → Int) (s0c : Int) (s1p : Nat → Int) (s1t : Nat → Int) (s1c : Int) (a : Int) (b : Int) (cc : Int), av = [q2 0, q1 a, q1 b, q1 cc] ∧ w = [.inr (11, [q2 1, q2 11, q2 12, q2 13, q2 14, q2 15, q2 16, q2 17]), .inr (8, [q2 2, q2 3, q2 18, q2 19, q2 20, q2 4, q1 ln, q1 fa, q1 pl]), .inl (1, 600, .inl tp), .inl (0, 4, .inl ct), .inl (7, 2, .inr (.inr [some 5, some 8])), .inr (7, [q2 6, q2 7, q1 s0c]), .inl (0, 10, .inl s0p), .inl (0, 10, .inl s0t), .inr (7, [q2 9, q2 10, q1 s1c]), .inl (0, 10, .inl s1p), .inl (0, 10, .inl s1t)] ∧ (q_rg 0 2 ct) ∧ (0 ≤ ln ∧ ln ≤ 600) ∧ (0 ≤ s0c ∧ s0c ≤ 10) ∧ (0 ≤ s1c ∧ s1c ≤ 10) ∧ (∀ (r : Int) , ((((0 ≤ a ∧ a < ct (3 : Int).toNat) ∧ (a = 0 ∧ FtR s0p s0t s0c b cc r ∨ a = 1 ∧ FtR s1p s1t s1c b cc r) ∨ ¬ (0 ≤ a ∧ a < ct (3 : Int).toNat) ∧ r = -2))) → Q (some (q1 r)))
def sp_GX11_fact : qS := fun av w Q => spr_GX11_fact av w (fun r => Q r w)
set_option maxHeartbeats 4000000 in
set_option maxRecDepth 100000 in
theorem m_GX11_fact (l : Launch) : q_M l yX11_fact cX11_fact 5 (some .int) 2 43 sp_GX11_fact := by
  refine q_meth (by decide) (fun av w Q h => by obtain ⟨tp, ct, ln, fa, pl, s0p, s0t, s0c, s1p, s1t, s1c, a, b, cc, rfl, rfl, hct, hln, hs0, hs1, hQ⟩ := h; exact Nat.le_of_ble_eq_true rfl) ?_
  intro p e R s m args below meth c dC dI k g A av w Q hsp oka okw X
  obtain ⟨tp, ct, ln, fa, pl, s0p, s0t, s0c, s1p, s1t, s1c, a, b, cc, rfl, rfl, hct, hln, hs0, hs1, hQ⟩ := hsp
  have o_a : -2147483648 ≤ a ∧ a ≤ 2147483647 := oka _ (List.mem_of_getElem? (i := 1) rfl)
  have o_b : -2147483648 ≤ b ∧ b ≤ 2147483647 := oka _ (List.mem_of_getElem? (i := 2) rfl)
  have o_cc : -2147483648 ≤ cc ∧ cc ≤ 2147483647 := oka _ (List.mem_of_getElem? (i := 3) rfl)
  refine s_mono (s_GX11_fact_0 X (J := fun _ _ _ _ => False) (fun d => s_cutF)) ?_
  rintro lv st w' ⟨rfl, rfl, rfl⟩
  refine Exists.intro [1, 2, 3, 4, 18, 19, 20, 5, 8] (Exists.intro [q2 0, q1 _] (Exists.intro ((wT4_3 _ _ _ _ _)) (And.intro rfl (And.intro rfl (And.intro rfl (And.intro ⟨⟨_, rfl⟩, rfl⟩ ?_))))))
  refine Exists.intro _ (Exists.intro _ (Exists.intro _ (Exists.intro _ (Exists.intro _ (Exists.intro _ (And.intro rfl (And.intro rfl (?_))))))))
  intro z5 h5
  rcases h5 with ⟨rfl, c5⟩ | ⟨rfl, rfl, c5⟩ | ⟨rfl, rfl, c5⟩
  · exact hQ _ (by first | exact Or.inr ⟨(by have q9 := hct (3 : Int).toNat; omega), rfl⟩ | exact Or.inl ⟨⟨by omega, by omega⟩, Or.inl ⟨rfl, (by first | exact Or.inl ⟨by omega, by omega, rfl⟩ | exact Or.inr (Or.inl ⟨by omega, by omega, rfl⟩) | exact Or.inr (Or.inr ⟨by omega, h42⟩))⟩⟩ | exact Or.inl ⟨⟨by omega, by omega⟩, Or.inr ⟨rfl, (by first | exact Or.inl ⟨by omega, by omega, rfl⟩ | exact Or.inr (Or.inl ⟨by omega, by omega, rfl⟩) | exact Or.inr (Or.inr ⟨by omega, h42⟩))⟩⟩)
  · apply And.intro
    · intro h20
      refine Exists.intro [5, 6, 7] (Exists.intro [q2 0, q1 _, q1 _] (Exists.intro ((wSo 0 _ _ _)) (And.intro rfl (And.intro rfl (And.intro rfl (And.intro ⟨⟨_, rfl⟩, rfl⟩ ?_))))))
      refine Exists.intro _ (Exists.intro _ (Exists.intro _ (Exists.intro _ (Exists.intro _ (And.intro rfl (And.intro rfl (And.intro (by first | omega | assumption | exact q_rg_up (by assumption) (by omega) | exact q_rg_up (q_rg_up (by assumption) (by omega)) (by omega) | exact q_rg_cpy (by assumption) (by assumption)) (?_))))))))
      intro z42 h42
      exact hQ _ (by first | exact Or.inr ⟨(by have q9 := hct (3 : Int).toNat; omega), rfl⟩ | exact Or.inl ⟨⟨by omega, by omega⟩, Or.inl ⟨rfl, (by first | exact Or.inl ⟨by omega, by omega, rfl⟩ | exact Or.inr (Or.inl ⟨by omega, by omega, rfl⟩) | exact Or.inr (Or.inr ⟨by omega, h42⟩))⟩⟩ | exact Or.inl ⟨⟨by omega, by omega⟩, Or.inr ⟨rfl, (by first | exact Or.inl ⟨by omega, by omega, rfl⟩ | exact Or.inr (Or.inl ⟨by omega, by omega, rfl⟩) | exact Or.inr (Or.inr ⟨by omega, h42⟩))⟩⟩)
    · intro h20
      apply And.intro
      · intro h24
        exact hQ _ (by first | exact Or.inr ⟨(by have q9 := hct (3 : Int).toNat; omega), rfl⟩ | exact Or.inl ⟨⟨by omega, by omega⟩, Or.inl ⟨rfl, (by first | exact Or.inl ⟨by omega, by omega, rfl⟩ | exact Or.inr (Or.inl ⟨by omega, by omega, rfl⟩) | exact Or.inr (Or.inr ⟨by omega, h42⟩))⟩⟩ | exact Or.inl ⟨⟨by omega, by omega⟩, Or.inr ⟨rfl, (by first | exact Or.inl ⟨by omega, by omega, rfl⟩ | exact Or.inr (Or.inl ⟨by omega, by omega, rfl⟩) | exact Or.inr (Or.inr ⟨by omega, h42⟩))⟩⟩)
      · intro h24
        exact hQ _ (by first | exact Or.inr ⟨(by have q9 := hct (3 : Int).toNat; omega), rfl⟩ | exact Or.inl ⟨⟨by omega, by omega⟩, Or.inl ⟨rfl, (by first | exact Or.inl ⟨by omega, by omega, rfl⟩ | exact Or.inr (Or.inl ⟨by omega, by omega, rfl⟩) | exact Or.inr (Or.inr ⟨by omega, h42⟩))⟩⟩ | exact Or.inl ⟨⟨by omega, by omega⟩, Or.inr ⟨rfl, (by first | exact Or.inl ⟨by omega, by omega, rfl⟩ | exact Or.inr (Or.inl ⟨by omega, by omega, rfl⟩) | exact Or.inr (Or.inr ⟨by omega, h42⟩))⟩⟩)
  · apply And.intro
    · intro h20
      refine Exists.intro [8, 9, 10] (Exists.intro [q2 0, q1 _, q1 _] (Exists.intro ((wSo 0 _ _ _)) (And.intro rfl (And.intro rfl (And.intro rfl (And.intro ⟨⟨_, rfl⟩, rfl⟩ ?_))))))
      refine Exists.intro _ (Exists.intro _ (Exists.intro _ (Exists.intro _ (Exists.intro _ (And.intro rfl (And.intro rfl (And.intro (by first | omega | assumption | exact q_rg_up (by assumption) (by omega) | exact q_rg_up (q_rg_up (by assumption) (by omega)) (by omega) | exact q_rg_cpy (by assumption) (by assumption)) (?_))))))))
      intro z42 h42
      exact hQ _ (by first | exact Or.inr ⟨(by have q9 := hct (3 : Int).toNat; omega), rfl⟩ | exact Or.inl ⟨⟨by omega, by omega⟩, Or.inl ⟨rfl, (by first | exact Or.inl ⟨by omega, by omega, rfl⟩ | exact Or.inr (Or.inl ⟨by omega, by omega, rfl⟩) | exact Or.inr (Or.inr ⟨by omega, h42⟩))⟩⟩ | exact Or.inl ⟨⟨by omega, by omega⟩, Or.inr ⟨rfl, (by first | exact Or.inl ⟨by omega, by omega, rfl⟩ | exact Or.inr (Or.inl ⟨by omega, by omega, rfl⟩) | exact Or.inr (Or.inr ⟨by omega, h42⟩))⟩⟩)
    · intro h20
      apply And.intro
      · intro h24
        exact hQ _ (by first | exact Or.inr ⟨(by have q9 := hct (3 : Int).toNat; omega), rfl⟩ | exact Or.inl ⟨⟨by omega, by omega⟩, Or.inl ⟨rfl, (by first | exact Or.inl ⟨by omega, by omega, rfl⟩ | exact Or.inr (Or.inl ⟨by omega, by omega, rfl⟩) | exact Or.inr (Or.inr ⟨by omega, h42⟩))⟩⟩ | exact Or.inl ⟨⟨by omega, by omega⟩, Or.inr ⟨rfl, (by first | exact Or.inl ⟨by omega, by omega, rfl⟩ | exact Or.inr (Or.inl ⟨by omega, by omega, rfl⟩) | exact Or.inr (Or.inr ⟨by omega, h42⟩))⟩⟩)
      · intro h24
        exact hQ _ (by first | exact Or.inr ⟨(by have q9 := hct (3 : Int).toNat; omega), rfl⟩ | exact Or.inl ⟨⟨by omega, by omega⟩, Or.inl ⟨rfl, (by first | exact Or.inl ⟨by omega, by omega, rfl⟩ | exact Or.inr (Or.inl ⟨by omega, by omega, rfl⟩) | exact Or.inr (Or.inr ⟨by omega, h42⟩))⟩⟩ | exact Or.inl ⟨⟨by omega, by omega⟩, Or.inr ⟨rfl, (by first | exact Or.inl ⟨by omega, by omega, rfl⟩ | exact Or.inr (Or.inl ⟨by omega, by omega, rfl⟩) | exact Or.inr (Or.inr ⟨by omega, h42⟩))⟩⟩)
