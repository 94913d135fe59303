/-! ===== steps up ===== -/
/-- r steps lead from a up to t, or none do -/
def ScR (f : Nat → Int) (b : Nat) (a t r : Int) : Prop := ((0 ≤ r ∧ r ≤ 7) ∧ pch f b r.toNat a = t ∧ ∀ j : Nat, (j : Int) < r → ¬ pch f b j a = t) ∨ (r = -1 ∧ ∀ j : Nat, ¬ pch f b j a = t)
theorem ScR_u {f : Nat → Int} {b : Nat} {a t r r' : Int} (h : ScR f b a t r) (h' : ScR f b a t r') : r = r' := by
  rcases h with ⟨h1, h2, h3⟩ | ⟨h1, h2⟩ <;> rcases h' with ⟨k1, k2, k3⟩ | ⟨k1, k2⟩
  · by_cases c : r < r'
    · exact absurd h2 (k3 r.toNat (by omega))
    · by_cases c2 : r' < r
      · exact absurd k2 (h3 r'.toNat (by omega))
      · omega
  · exact absurd h2 (k2 _)
  · exact absurd k2 (h2 _)
  · omega
def ScI (f : Nat → Int) (b : Nat) (a t n o : Int) : Prop := 0 ≤ n ∧ o = pch f b n.toNat a ∧ ∀ j : Nat, (j : Int) < n → ¬ pch f b j a = t ∧ ¬ pch f b j a = -1
theorem ScI_0 {f : Nat → Int} {b : Nat} {a t : Int} : ScI f b a t 0 a := ⟨Int.le_refl 0, rfl, fun j hj => by omega⟩
theorem ScI_s {f : Nat → Int} {bo a t n n' o r : Int} (h : ScI f (75 * bo.toNat) a t n o) (h2 : ¬ o = t) (hb : 0 ≤ bo ∧ bo ≤ 1) (ho : 0 ≤ o) (hr : r = ofR f bo (13 + o)) (hn : n' = n + 1) : ScI f (75 * bo.toNat) a t n' r := by
  obtain ⟨a1, a2, a3⟩ := h
  subst hn
  refine ⟨by omega, ?_, fun j hj => ?_⟩
  · rw [show (n + 1).toNat = n.toNat + 1 by omega]
    exact pch_of hb ho a2 hr
  · by_cases c : (j : Int) < n
    · exact a3 j c
    · have e : j = n.toNat := by omega
      rw [e, ← a2]
      exact ⟨h2, by omega⟩
theorem ScR_n {f : Nat → Int} {b : Nat} {a t n o : Int} (h : ScI f b a t n o) (h1 : o = -1) (ht : 0 ≤ t) : ScR f b a t (-1) := by
  obtain ⟨a1, a2, a3⟩ := h
  refine Or.inr ⟨rfl, fun j => ?_⟩
  by_cases c : (j : Int) < n
  · exact (a3 j c).1
  · rw [pch_le (by rw [← a2]; exact h1) (show n.toNat ≤ j by omega)]
    omega
theorem ScR_y {f : Nat → Int} {b : Nat} {a t n o : Int} (h : ScI f b a t n o) (h1 : o = t) (ht : 0 ≤ t) (h8 : pch f b 8 a = -1) : ScR f b a t n := by
  obtain ⟨a1, a2, a3⟩ := h
  have hn : n ≤ 7 := by
    by_cases c : n ≤ 7
    · exact c
    · exfalso
      have h9 : pch f b n.toNat a = -1 := pch_le h8 (by omega)
      rw [← a2, h1] at h9
      omega
  exact Or.inl ⟨⟨a1, hn⟩, by rw [← a2]; exact h1, fun j hj => (a3 j hj).1⟩
theorem ScI_8 {f : Nat → Int} {b : Nat} {a t n o : Int} (h : ScI f b a t n o) (h8 : pch f b 8 a = -1) : n ≤ 8 := by
  obtain ⟨a1, a2, a3⟩ := h
  by_cases c : n ≤ 8
  · exact c
  · exact absurd h8 (a3 8 (by omega)).2

theorem dG12_stepsUp_0 : decode cX12_stepsUp 0 = .ok (.iconst 0, 1) := by decide +kernel
theorem dG12_stepsUp_1 : decode cX12_stepsUp 1 = .ok (.istore_n 3, 1) := by decide +kernel
theorem dG12_stepsUp_2 : decode cX12_stepsUp 2 = .ok (.iload_n 1, 1) := by decide +kernel
theorem dG12_stepsUp_3 : decode cX12_stepsUp 3 = .ok (.istore 4, 2) := by decide +kernel
theorem dG12_stepsUp_5 : decode cX12_stepsUp 5 = .ok (.iload 4, 2) := by decide +kernel
theorem dG12_stepsUp_7 : decode cX12_stepsUp 7 = .ok (.iconst (-1), 1) := by decide +kernel
theorem dG12_stepsUp_8 : decode cX12_stepsUp 8 = .ok (.if_icmp .eq 26, 3) := by decide +kernel
theorem dG12_stepsUp_11 : decode cX12_stepsUp 11 = .ok (.iload 4, 2) := by decide +kernel
theorem dG12_stepsUp_13 : decode cX12_stepsUp 13 = .ok (.iload_n 2, 1) := by decide +kernel
theorem dG12_stepsUp_14 : decode cX12_stepsUp 14 = .ok (.if_icmp .eq 20, 3) := by decide +kernel
theorem dG12_stepsUp_17 : decode cX12_stepsUp 17 = .ok (.aload_n 0, 1) := by decide +kernel
theorem dG12_stepsUp_18 : decode cX12_stepsUp 18 = .ok (.bipush 13, 2) := by decide +kernel
theorem dG12_stepsUp_20 : decode cX12_stepsUp 20 = .ok (.iload 4, 2) := by decide +kernel
theorem dG12_stepsUp_22 : decode cX12_stepsUp 22 = .ok (.iadd, 1) := by decide +kernel
theorem dG12_stepsUp_23 : decode cX12_stepsUp 23 = .ok (.invokevirtual 299, 3) := by decide +kernel
theorem dG12_stepsUp_26 : decode cX12_stepsUp 26 = .ok (.istore 4, 2) := by decide +kernel
theorem dG12_stepsUp_28 : decode cX12_stepsUp 28 = .ok (.iinc 3 1, 3) := by decide +kernel
theorem dG12_stepsUp_31 : decode cX12_stepsUp 31 = .ok (.goto (-26), 3) := by decide +kernel
theorem dG12_stepsUp_34 : decode cX12_stepsUp 34 = .ok (.iload 4, 2) := by decide +kernel
theorem dG12_stepsUp_36 : decode cX12_stepsUp 36 = .ok (.iconst (-1), 1) := by decide +kernel
theorem dG12_stepsUp_37 : decode cX12_stepsUp 37 = .ok (.if_icmp .ne 7, 3) := by decide +kernel
theorem dG12_stepsUp_40 : decode cX12_stepsUp 40 = .ok (.iconst (-1), 1) := by decide +kernel
theorem dG12_stepsUp_41 : decode cX12_stepsUp 41 = .ok (.goto 4, 3) := by decide +kernel
theorem dG12_stepsUp_44 : decode cX12_stepsUp 44 = .ok (.iload_n 3, 1) := by decide +kernel
theorem dG12_stepsUp_45 : decode cX12_stepsUp 45 = .ok (.ireturn, 1) := by decide +kernel
def is_G12_stepsUp : Nat → List Nat := fun d => if d = 5 then [0, 2, 3, 4] else []
set_option maxRecDepth 100000 in
def b_G12_stepsUp_45 (J : Nat → List qV → List qV → qW → Prop) (Q : qR) : qK := x_iret Q
set_option maxRecDepth 100000 in
theorem s_G12_stepsUp_45 {p : Program} {l : Launch} {e : Env} {R : Room} {s : State} {m : MethodId} {args : Array Value} {below : List Frame} {meth : Method} {c : Code} {nW : Nat} {dC : Nat → ClassId} {dI : Nat → Nat → Nat} {k : Nat → ClassId} {g : Nat → Nat} {A : Nat → Prop} {J : Nat → List qV → List qV → qW → Prop} {Q : qR} (X : q_X p R s m args meth c cX12_stepsUp 5 nW 1 21 RX12 (some .int) dC dI k g A) (hJ : ∀ d : Nat, q_Sd p l e R s m args below meth c 5 nW dC dI k g A (MQ below (q_post (dC, dI) k g nW Q A) args s 0 0 A) d (x_cut (is_G12_stepsUp d) (J d))) : q_Sd p l e R s m args below meth c 5 nW dC dI k g A (MQ below (q_post (dC, dI) k g nW Q A) args s 0 0 A) 45 (b_G12_stepsUp_45 J Q) := by
  unfold b_G12_stepsUp_45
  exact s_iret X dG12_stepsUp_45
set_option maxRecDepth 100000 in
def b_G12_stepsUp_34 (J : Nat → List qV → List qV → qW → Prop) (Q : qR) : qK := x_iload 4 (x_int (-1) (x_icmp_ne (x_iload 3 (b_G12_stepsUp_45 J Q)) (x_int (-1) (b_G12_stepsUp_45 J Q))))
set_option maxRecDepth 100000 in
theorem s_G12_stepsUp_34 {p : Program} {l : Launch} {e : Env} {R : Room} {s : State} {m : MethodId} {args : Array Value} {below : List Frame} {meth : Method} {c : Code} {nW : Nat} {dC : Nat → ClassId} {dI : Nat → Nat → Nat} {k : Nat → ClassId} {g : Nat → Nat} {A : Nat → Prop} {J : Nat → List qV → List qV → qW → Prop} {Q : qR} (X : q_X p R s m args meth c cX12_stepsUp 5 nW 1 21 RX12 (some .int) dC dI k g A) (hJ : ∀ d : Nat, q_Sd p l e R s m args below meth c 5 nW dC dI k g A (MQ below (q_post (dC, dI) k g nW Q A) args s 0 0 A) d (x_cut (is_G12_stepsUp d) (J d))) : q_Sd p l e R s m args below meth c 5 nW dC dI k g A (MQ below (q_post (dC, dI) k g nW Q A) args s 0 0 A) 34 (b_G12_stepsUp_34 J Q) := by
  unfold b_G12_stepsUp_34
  refine s_iload X dG12_stepsUp_34 ?_
  refine s_iconst X ⟨by decide, by decide⟩ dG12_stepsUp_36 ?_
  refine s_icmp_ne X (tgt := 44) dG12_stepsUp_37 (by decide) ?_ ?_
  · refine s_iload_n X rfl dG12_stepsUp_44 ?_
    exact s_G12_stepsUp_45 X hJ
  · refine s_iconst X ⟨by decide, by decide⟩ dG12_stepsUp_40 ?_
    refine s_goto X (tgt := 45) dG12_stepsUp_41 (by decide) ?_
    exact s_G12_stepsUp_45 X hJ
set_option maxRecDepth 100000 in
def b_G12_stepsUp_5 (J : Nat → List qV → List qV → qW → Prop) (Q : qR) : qK := x_iload 4 (x_int (-1) (x_icmp_eq (b_G12_stepsUp_34 J Q) (x_iload 4 (x_iload 2 (x_icmp_eq (b_G12_stepsUp_34 J Q) (x_aload 0 (x_int 13 (x_iload 4 (x_iadd (x_callr (some 12) 2 spr_X12_of (x_istore 4 (x_iinc 3 1 (x_cut [0, 2, 3, 4] (J 5))))))))))))))
set_option maxRecDepth 100000 in
theorem s_G12_stepsUp_5 {p : Program} {l : Launch} {e : Env} {R : Room} {s : State} {m : MethodId} {args : Array Value} {below : List Frame} {meth : Method} {c : Code} {nW : Nat} {dC : Nat → ClassId} {dI : Nat → Nat → Nat} {k : Nat → ClassId} {g : Nat → Nat} {A : Nat → Prop} {J : Nat → List qV → List qV → qW → Prop} {Q : qR} (X : q_X p R s m args meth c cX12_stepsUp 5 nW 1 21 RX12 (some .int) dC dI k g A) (hJ : ∀ d : Nat, q_Sd p l e R s m args below meth c 5 nW dC dI k g A (MQ below (q_post (dC, dI) k g nW Q A) args s 0 0 A) d (x_cut (is_G12_stepsUp d) (J d))) : q_Sd p l e R s m args below meth c 5 nW dC dI k g A (MQ below (q_post (dC, dI) k g nW Q A) args s 0 0 A) 5 (b_G12_stepsUp_5 J Q) := by
  unfold b_G12_stepsUp_5
  refine s_iload X dG12_stepsUp_5 ?_
  refine s_iconst X ⟨by decide, by decide⟩ dG12_stepsUp_7 ?_
  refine s_icmp_eq X (tgt := 34) dG12_stepsUp_8 (by decide) ?_ ?_
  · exact s_G12_stepsUp_34 X hJ
  · refine s_iload X dG12_stepsUp_11 ?_
    refine s_iload_n X rfl dG12_stepsUp_13 ?_
    refine s_icmp_eq X (tgt := 34) dG12_stepsUp_14 (by decide) ?_ ?_
    · exact s_G12_stepsUp_34 X hJ
    · refine s_aload_n X rfl dG12_stepsUp_17 ?_
      refine s_bipush X ⟨by decide, by decide⟩ (by decide) dG12_stepsUp_18 ?_
      refine s_iload X dG12_stepsUp_20 ?_
      refine s_iadd X dG12_stepsUp_22 ?_
      refine s_callVr X (m_X12_of l) tw_1189 tw_1190 tw_1603 tw_134 tw_1191 rfl (by decide +kernel) ⟨by decide, by decide⟩ dG12_stepsUp_23 ?_
      refine s_istore X (by decide) dG12_stepsUp_26 ?_
      refine s_iinc X (by decide) dG12_stepsUp_28 ?_
      refine s_goto X (tgt := 5) dG12_stepsUp_31 (by decide) ?_
      exact hJ 5
set_option maxRecDepth 100000 in
def b_G12_stepsUp_0 (J : Nat → List qV → List qV → qW → Prop) (Q : qR) : qK := x_int 0 (x_istore 3 (x_iload 1 (x_istore 4 (x_cut [0, 2, 3, 4] (J 5)))))
set_option maxRecDepth 100000 in
theorem s_G12_stepsUp_0 {p : Program} {l : Launch} {e : Env} {R : Room} {s : State} {m : MethodId} {args : Array Value} {below : List Frame} {meth : Method} {c : Code} {nW : Nat} {dC : Nat → ClassId} {dI : Nat → Nat → Nat} {k : Nat → ClassId} {g : Nat → Nat} {A : Nat → Prop} {J : Nat → List qV → List qV → qW → Prop} {Q : qR} (X : q_X p R s m args meth c cX12_stepsUp 5 nW 1 21 RX12 (some .int) dC dI k g A) (hJ : ∀ d : Nat, q_Sd p l e R s m args below meth c 5 nW dC dI k g A (MQ below (q_post (dC, dI) k g nW Q A) args s 0 0 A) d (x_cut (is_G12_stepsUp d) (J d))) : q_Sd p l e R s m args below meth c 5 nW dC dI k g A (MQ below (q_post (dC, dI) k g nW Q A) args s 0 0 A) 0 (b_G12_stepsUp_0 J Q) := by
  unfold b_G12_stepsUp_0
  refine s_iconst X ⟨by decide, by decide⟩ dG12_stepsUp_0 ?_
  refine s_istore_n X rfl (by decide) dG12_stepsUp_1 ?_
  refine s_iload_n X rfl dG12_stepsUp_2 ?_
  refine s_istore X (by decide) dG12_stepsUp_3 ?_
  exact hJ 5

def spr_G12_stepsUp : List qV → qW → (Option qV → Prop) → Prop := fun av w Q => ∃ (mco : Int) (mre : Int) (mle : Int) (mbe : Int) (mso : Int) (mva : Int) (mwo : Int) (mwr : Int) (mlf : Int) (mlp : Int) (mfp : Int) (mfd : Int) (mgo : Int) (mbo : Int) (mpe : Int) (mye : Int) (mpr : Int) (mld : Int) (msi : Int) (mse : Int) (bs : Nat → Int) (a : Int) (b : Int), av = [q2 0, q1 a, q1 b] ∧ w = [.inr (12, [q1 mco, q2 2, q2 3, q2 4, q2 5, q2 6, q2 1, q2 7, q2 8, q2 9, q1 mre, q1 mle, q1 mbe, q1 mso, q1 mva, q3 mwo, q1 mwr, q1 mlf, q1 mlp, q2 10, q2 11, q1 mfp, q1 mfd, q1 mgo, q1 mbo, q1 mpe, q1 mye, q2 12, q1 mpr, q2 13, q2 14, q2 15, q2 16, q1 mld, q2 17, q1 msi, q2 18, q2 19, q2 20, q2 21, q2 22, q1 mse, q2 23, q2 24, q2 25]), .inl (0, 600, .inl bs)] ∧ (0 ≤ mbo ∧ mbo ≤ 1) ∧ (0 ≤ mpe ∧ mpe ≤ 8) ∧ (BI bs) ∧ (mpe = ofR bs mbo 0) ∧ (0 ≤ a ∧ a < mpe) ∧ (0 ≤ b) ∧ (∀ (r : Int) , ScR bs (75 * mbo.toNat) a b r → Q (some (q1 r)))
def sp_G12_stepsUp : qS := fun av w Q => spr_G12_stepsUp av w (fun r => Q r w)
def I_G12_stepsUp (mco : Int) (mre : Int) (mle : Int) (mbe : Int) (mso : Int) (mva : Int) (mwo : Int) (mwr : Int) (mlf : Int) (mlp : Int) (mfp : Int) (mfd : Int) (mgo : Int) (mbo : Int) (mpe : Int) (mye : Int) (mpr : Int) (mld : Int) (msi : Int) (mse : Int) (bs : Nat → Int) (a : Int) (b : Int) : Nat → Nat → List qV → List qV → qW → Prop := fun dz mz vz sz wz => if dz = 5 then (∃ (v3 : Int) (v4 : Int), vz = [q2 0, q1 b, q1 v3, q1 v4] ∧ sz = [] ∧ wz = [.inr (12, [q1 mco, q2 2, q2 3, q2 4, q2 5, q2 6, q2 1, q2 7, q2 8, q2 9, q1 mre, q1 mle, q1 mbe, q1 mso, q1 mva, q3 mwo, q1 mwr, q1 mlf, q1 mlp, q2 10, q2 11, q1 mfp, q1 mfd, q1 mgo, q1 mbo, q1 mpe, q1 mye, q2 12, q1 mpr, q2 13, q2 14, q2 15, q2 16, q1 mld, q2 17, q1 msi, q2 18, q2 19, q2 20, q2 21, q2 22, q1 mse, q2 23, q2 24, q2 25]), .inl (0, 600, .inl bs)] ∧ mz = stp bs (75 * mbo.toNat) 8 v4 ∧ (pch bs (75 * mbo.toNat) 8 v4 = -1) ∧ (-1 ≤ v4 ∧ v4 ≤ 7) ∧ (ScI bs (75 * mbo.toNat) a b v3 v4)) else False
set_option maxHeartbeats 4000000 in
set_option maxRecDepth 100000 in
theorem m_G12_stepsUp (l : Launch) : q_M l yX12_stepsUp cX12_stepsUp 5 (some .int) 1 21 sp_G12_stepsUp := by
  refine q_meth (by decide) (fun av w Q h => by obtain ⟨mco, mre, mle, mbe, mso, mva, mwo, mwr, mlf, mlp, mfp, mfd, mgo, mbo, mpe, mye, mpr, mld, msi, mse, bs, a, b, rfl, rfl, hbo, hpe, hbi, hpq, ha, hb9, hQ⟩ := h; exact Nat.le_of_ble_eq_true rfl) ?_
  intro p e R s m args below meth c dC dI k g A av w Q hsp oka okw X
  obtain ⟨mco, mre, mle, mbe, mso, mva, mwo, mwr, mlf, mlp, mfp, mfd, mgo, mbo, mpe, mye, mpr, mld, msi, mse, bs, a, b, rfl, rfl, hbo, hpe, hbi, hpq, ha, hb9, hQ⟩ := hsp
  have o_a : -2147483648 ≤ a ∧ a ≤ 2147483647 := oka _ (List.mem_of_getElem? (i := 1) rfl)
  have o_b : -2147483648 ≤ b ∧ b ≤ 2147483647 := oka _ (List.mem_of_getElem? (i := 2) rfl)
  refine s_mono (s_G12_stepsUp_0 X (J := fun dz vz sz wz => ∃ mz, I_G12_stepsUp mco mre mle mbe mso mva mwo mwr mlf mlp mfp mfd mgo mbo mpe mye mpr mld msi mse bs a b dz mz vz sz wz) (q_loopn (I_G12_stepsUp mco mre mle mbe mso mva mwo mwr mlf mlp mfp mfd mgo mbo mpe mye mpr mld msi mse bs a b) (fun dz J => if dz = 5 then b_G12_stepsUp_5 J Q else q_F) ?hs ?hv)) ?_
  case hs =>
    intro d J hJ
    by_cases h5 : d = 5
    · subst h5; exact s_G12_stepsUp_5 X hJ
    simp only [h5, if_false]
    exact s_F
  case hv =>
    intro dz mz vz sz wz hI okv oks okw hlen
    by_cases h5 : dz = 5
    · subst h5
      obtain ⟨v3, v4, rfl, rfl, rfl, hn, ho, hr, hs9⟩ := hI
      have n0 := hs9.1
      have n8 := ScI_8 hs9 (BI_ac hbi hbo (by omega))
      apply And.intro
      · intro h8
        apply And.intro
        · intro h37
          exact hQ _ (by first | exact ScR_n hs9 (by omega) hb9 | exact ScR_y hs9 (by omega) hb9 (BI_ac hbi hbo (by omega)))
        · intro h37
          exact hQ _ (by first | exact ScR_n hs9 (by omega) hb9 | exact ScR_y hs9 (by omega) hb9 (BI_ac hbi hbo (by omega)))
      · intro h8
        apply And.intro
        · intro h14
          apply And.intro
          · intro h37
            exact hQ _ (by first | exact ScR_n hs9 (by omega) hb9 | exact ScR_y hs9 (by omega) hb9 (BI_ac hbi hbo (by omega)))
          · intro h37
            exact hQ _ (by first | exact ScR_n hs9 (by omega) hb9 | exact ScR_y hs9 (by omega) hb9 (BI_ac hbi hbo (by omega)))
        · intro h14
          intro z22 h22
          first | replace h22 := e_add h22 (by omega) | replace h22 := e_rng h22
          refine Exists.intro [0, 1, 2, 3, 4, 5, 6, 7, 8, 9, 10, 11, 12, 13, 14, 15, 16, 17, 18, 19, 20, 21, 22, 23, 24, 25] (Exists.intro [q2 0, q1 _] (Exists.intro ([.inr (12, [q1 _, q2 2, q2 3, q2 4, q2 5, q2 6, q2 1, q2 7, q2 8, q2 9, q1 _, q1 _, q1 _, q1 _, q1 _, q3 _, q1 _, q1 _, q1 _, q2 10, q2 11, q1 _, q1 _, q1 _, q1 _, q1 _, q1 _, q2 12, q1 _, q2 13, q2 14, q2 15, q2 16, q1 _, q2 17, q1 _, q2 18, q2 19, q2 20, q2 21, q2 22, q1 _, q2 23, q2 24, q2 25]), .inl (0, 600, .inl _)]) (And.intro rfl (And.intro rfl (And.intro rfl (And.intro ⟨⟨_, rfl⟩, rfl⟩ ?_))))))
          refine Exists.intro _ (Exists.intro _ (Exists.intro _ (Exists.intro _ (Exists.intro _ (Exists.intro _ (Exists.intro _ (Exists.intro _ (Exists.intro _ (Exists.intro _ (Exists.intro _ (Exists.intro _ (Exists.intro _ (Exists.intro _ (Exists.intro _ (Exists.intro _ (Exists.intro _ (Exists.intro _ (Exists.intro _ (Exists.intro _ (Exists.intro _ (Exists.intro _ (And.intro rfl (And.intro rfl (And.intro (by first | omega | assumption | exact q_rg_up (by assumption) (by omega) | exact q_rg_up (q_rg_up (by assumption) (by omega)) (by omega) | exact q_rg_cpy (by assumption) (by assumption)) (And.intro (by first | omega | assumption | exact q_rg_up (by assumption) (by omega) | exact q_rg_up (q_rg_up (by assumption) (by omega)) (by omega) | exact q_rg_cpy (by assumption) (by assumption)) (And.intro (by first | omega | assumption | exact q_rg_up (by assumption) (by omega) | exact q_rg_up (q_rg_up (by assumption) (by omega)) (by omega) | exact q_rg_cpy (by assumption) (by assumption)) (?_)))))))))))))))))))))))))))
          intro z23 h23
          obtain ⟨h23, k23⟩ := h23
          first | replace k23 := OFQ_13 k23 (by omega) | replace k23 := OFQ_21 k23 (by omega) | clear k23
          have st := up_s (r := z23) hbo ho (by omega) (by rw [h23, h22])
          intro z28 h28
          first | replace h28 := e_add h28 (by omega) | replace h28 := e_rng h28
          exact ⟨_, ⟨_, _, rfl, rfl, rfl, rfl, (by first | exact st.1 | exact BI_ac hbi hbo (by omega)), (by first | omega | assumption | exact q_rg_up (by assumption) (by omega) | exact q_rg_up (q_rg_up (by assumption) (by omega)) (by omega) | exact q_rg_cpy (by assumption) (by assumption)), (by first | exact ScI_0 | exact ScI_s hs9 (by omega) hbo (by omega) (by rw [h23, h22]) (by omega))⟩, by omega⟩
    simp only [I_G12_stepsUp, h5, if_false] at hI
  rintro lv st w' ⟨rfl, rfl, rfl⟩
  exact ⟨_, _, _, rfl, rfl, rfl, rfl, (by first | exact st.1 | exact BI_ac hbi hbo (by omega)), (by first | omega | assumption | exact q_rg_up (by assumption) (by omega) | exact q_rg_up (q_rg_up (by assumption) (by omega)) (by omega) | exact q_rg_cpy (by assumption) (by assumption)), (by first | exact ScI_0 | exact ScI_s hs9 (by omega) hbo (by omega) (by rw [h23, h22]) (by omega))⟩
