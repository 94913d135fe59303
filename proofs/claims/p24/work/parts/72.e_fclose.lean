/-! ===== the class: the end of a text; the whole of it ===== -/
def PaR (f2 : Nat → Int) (u0 : Int) (D : Nat → Int) : Prop := u0 = D 0 ∧ ∀ i : Nat, i < 8 → f2 i = D (13 + i) ∧ -1 ≤ D (13 + i) ∧ D (13 + i) < u0
def GrQ (D : Nat → Int) (v : Int) : Prop := ∀ p : Nat, (p : Int) < v → pch D 0 8 p = -1
theorem GrQ_0 {D : Nat → Int} : GrQ D 0 := fun p hp => by omega
theorem gr_st {f2 D : Nat → Int} {u0 v1 v2 v3 v3' z : Int} (hP : PaR f2 u0 D) (ho : v2 = pch D 0 v3.toNat v1) (hz : z = f2 v2.toNat) (hq_2 : 0 ≤ v2 ∧ v2 < 8) (hq_3 : 0 ≤ v3) (e : v3' = v3 + 1) : z = pch D 0 v3'.toNat v1 ∧ -1 ≤ z ∧ z < u0 := by
  obtain ⟨-, h⟩ := hP
  obtain ⟨a1, a2, a3⟩ := h v2.toNat (by omega)
  rw [a1] at hz
  refine ⟨?_, by omega, by omega⟩
  rw [show v3'.toNat = v3.toNat + 1 by omega, pch_s (by rw [← ho]; omega), ← ho, hz]
theorem GrQ_s {D : Nat → Int} {v v' v2 v3 : Int} (h : GrQ D v) (hv : 0 ≤ v) (e : v' = v + 1) (ho : v2 = pch D 0 v3.toNat v) (hq_2 : v2 = -1) (hq_3 : 0 ≤ v3 ∧ v3 ≤ 8) : GrQ D v' := fun p hp => by
  by_cases c : (p : Int) = v
  · rw [c]; exact pch_le (n := v3.toNat) (by rw [← ho]; exact hq_2) (by omega)
  · exact h p (by omega)
theorem gr_1 {f2 D : Nat → Int} {u0 v1 v2 v3 : Int} (hP : PaR f2 u0 D) (hu : 0 ≤ u0 ∧ u0 ≤ 8) (hv : 0 ≤ v1 ∧ v1 < u0) (ho : v2 = pch D 0 v3.toNat v1) (hq_3 : v3 = u0) (hq_2 : ¬ v2 = -1) : grD D := by
  obtain ⟨e0, h⟩ := hP
  refine ⟨v1.toNat, by omega, ?_⟩
  rw [show ((v1.toNat : Nat) : Int) = v1 by omega]
  exact chn (s := fun k o => pch D 0 k o) (f := fun o => D (0 + 13 + o.toNat)) (fun o => rfl) (fun k o => rfl) u0.toNat (fun o hq_1 hq_4 => by
    obtain ⟨-, b2, b3⟩ := h o.toNat (by omega)
    show D (0 + 13 + o.toNat) = -1 ∨ (0 ≤ D (0 + 13 + o.toNat) ∧ D (0 + 13 + o.toNat) < (u0.toNat : Nat))
    rw [show 0 + 13 + o.toNat = 13 + o.toNat by omega]
    omega) v1 (by omega) (by show ¬ pch D 0 u0.toNat v1 = -1; rw [← hq_3, ← ho]; exact hq_2) 8
theorem gc_0 {f2 D : Nat → Int} {u0 v1 : Int} (hP : PaR f2 u0 D) (h : GrQ D v1) (hv : u0 ≤ v1) : ¬ grD D := by
  rintro ⟨p, hq_1, hq_2⟩
  exact hq_2 (h p (by have := hP.1; omega))
/-! who is named and not there -/
theorem np_sh : ∀ (m : Fin 256) (u : Fin 9), ((nI m.val >>> (nI u.val &&& 31)).toInt = 0) ↔ m.val < 2 ^ u.val := by decide +kernel
theorem np_e {np fp u z x : Int} (hN : NPR np fp) (hx : u = x) (hu : 0 ≤ u ∧ u ≤ 8) (hz : z = (Int32.ofInt np >>> (Int32.ofInt u &&& 31)).toInt) : z = 0 ↔ ¬ x ≤ fp := by
  obtain ⟨hq_1, hq_2, hq_3⟩ := hN
  have hq_4 := np_sh ⟨np.toNat, by omega⟩ ⟨u.toNat, by omega⟩
  have hq_4 : ((nI np.toNat >>> (nI u.toNat &&& 31)).toInt = 0) ↔ np.toNat < 2 ^ u.toNat := hq_4
  have hq_5 := hq_3 u.toNat (by omega)
  rw [hz, q_nI hq_1.1 (by omega), q_nI hu.1 (by omega), hq_4]
  constructor
  · intro hq_6 hq_7
    have := hq_5.mpr (by omega)
    omega
  · intro hq_6
    by_cases c : np.toNat < 2 ^ u.toNat
    · exact c
    · have := hq_5.mp (by omega)
      omega
def ParD (D : Nat → Int) (fp : Int) : Prop := (0 ≤ D 0 ∧ 0 ≤ D 3 ∧ 0 ≤ D 4) ∧ ∀ i : Nat, i < 8 → -1 ≤ D (13 + i) ∧ D (13 + i) ≤ fp
theorem par_lt {f1 f2 f3 f4 f5 f6 f7 D : Nat → Int} {u0 u1 u2 u3 u4 fp : Int} (hC : CB f1 f2 f3 f4 f5 f6 f7 u0 u1 u2 u3 u4 D) (hP : ParD D fp) (h : ¬ D 0 ≤ fp) : PaR f2 u0 D := by
  obtain ⟨⟨a0, -⟩, -, b2, -⟩ := hC
  refine ⟨a0, fun i hi => ⟨b2 i hi, ?_⟩⟩
  have := hP.2 i hi
  omega
def XC (a : Int) (X : Prop) : Prop := a = 0 → X
theorem clF_n {s fp fd : Int} {D : Nat → Int} (h : ¬ s = 0) : clF s D fp fd = 0 := by
  unfold clF
  rw [pif_f (fun hq_9 => h hq_9.1), pif_f (fun hq_9 => h hq_9.1), pif_f (fun hq_9 => h hq_9.1)]
theorem clF_4 {s fp fd : Int} {D : Nat → Int} (hs : s = 0) (h : D 0 ≤ fp) : clF s D fp fd = 4 := pif_t ⟨hs, h⟩
theorem clF_5 {s fp fd : Int} {D : Nat → Int} (hs : s = 0) (hq_4 : ¬ D 0 ≤ fp) (h : D 3 ≤ fd) : clF s D fp fd = 5 := by
  unfold clF
  rw [pif_f (fun hq_9 => hq_4 hq_9.2), pif_t ⟨hs, h⟩]
theorem clF_6 {s fp fd : Int} {D : Nat → Int} (hs : s = 0) (hq_4 : ¬ D 0 ≤ fp) (hq_5 : ¬ D 3 ≤ fd) (h : grD D) : clF s D fp fd = 6 := by
  unfold clF
  rw [pif_f (fun hq_9 => hq_4 hq_9.2), pif_f (fun hq_9 => hq_5 hq_9.2), pif_t ⟨hs, h⟩]
theorem clF_0 {s fp fd : Int} {D : Nat → Int} (hq_4 : ¬ D 0 ≤ fp) (hq_5 : ¬ D 3 ≤ fd) (h : ¬ grD D) : clF s D fp fd = 0 := by
  unfold clF
  rw [pif_f (fun hq_9 => hq_4 hq_9.2), pif_f (fun hq_9 => hq_5 hq_9.2), pif_f (fun hq_9 => h hq_9.2)]
/-- the end: what close comes to -/
def ClR (s : Int) (D : Nat → Int) (fp fd n fa pl fa' pl' : Int) : Prop := (fa = 0 ∧ fa' = clF s D fp fd ∧ pl' = if clF s D fp fd = 0 then pl else n) ∨ (¬ fa = 0 ∧ fa' = fa ∧ pl' = pl)
theorem ClR_0 {s fp fd n fa pl fa' pl' : Int} {D : Nat → Int} (h : fa = 0) (hc : clF s D fp fd = 0) (hq_1 : fa' = 0) (hq_2 : pl' = pl) : ClR s D fp fd n fa pl fa' pl' := Or.inl ⟨h, by rw [hc]; exact hq_1, by rw [if_pos hc]; exact hq_2⟩
theorem ClR_1 {s fp fd n fa pl fa' pl' k : Int} {D : Nat → Int} (h : fa = 0) (hc : clF s D fp fd = k) (hk : ¬ k = 0) (hq_1 : fa' = k) (hq_2 : pl' = n) : ClR s D fp fd n fa pl fa' pl' := Or.inl ⟨h, by rw [hc]; exact hq_1, by rw [if_neg (by rw [hc]; exact hk)]; exact hq_2⟩
theorem ClR_2 {s fp fd n fa pl fa' pl' : Int} {D : Nat → Int} (h : ¬ fa = 0) (hq_1 : fa' = fa) (hq_2 : pl' = pl) : ClR s D fp fd n fa pl fa' pl' := Or.inr ⟨h, hq_1, hq_2⟩
/-! the PARENTS stay among those named -/
theorem tel_k {w v0 v1 v2 : Int} {D : Nat → Int} (hw : 0 ≤ w ∧ w ≤ 8) (hv : VR w v0 v1) (hf : ¬ fulP w D) (hq_0 : 0 ≤ D 0 ∧ 0 ≤ D 3 ∧ 0 ≤ D 4) : (0 ≤ tel w v0 v1 v2 D 0 ∧ 0 ≤ tel w v0 v1 v2 D 3 ∧ 0 ≤ tel w v0 v1 v2 D 4) ∧ ∀ i : Nat, i < 8 → tel w v0 v1 v2 D (13 + i) = D (13 + i) ∨ (w = 5 ∧ tel w v0 v1 v2 D (13 + i) = v1) := by
  unfold fulP at hf
  rcases (show w = 0 ∨ w = 1 ∨ w = 2 ∨ w = 3 ∨ w = 4 ∨ w = 5 ∨ w = 6 ∨ w = 7 ∨ w = 8 by omega) with rfl | rfl | rfl | rfl | rfl | rfl | rfl | rfl | rfl
  · have e : tel 0 v0 v1 v2 D = q_up (q_up D (5 + D 0).toNat v0) 0 (D 0 + 1) := rfl
    rw [e]
    exact ⟨⟨by rw [q_up_s]; omega, by rw [q_up_n (by omega), q_up_n (by omega)]; omega, by rw [q_up_n (by omega), q_up_n (by omega)]; omega⟩, fun i hi => Or.inl (by rw [q_up_n (by omega), q_up_n (by omega)])⟩
  · have e : tel 1 v0 v1 v2 D = q_up D 1 (orI (D 1) v0) := rfl
    rw [e]
    exact ⟨⟨by rw [q_up_n (by omega)]; omega, by rw [q_up_n (by omega)]; omega, by rw [q_up_n (by omega)]; omega⟩, fun i hi => Or.inl (by rw [q_up_n (by omega)])⟩
  · have e : tel 2 v0 v1 v2 D = q_up D 2 v0 := rfl
    rw [e]
    exact ⟨⟨by rw [q_up_n (by omega)]; omega, by rw [q_up_n (by omega)]; omega, by rw [q_up_n (by omega)]; omega⟩, fun i hi => Or.inl (by rw [q_up_n (by omega)])⟩
  · have e : tel 3 v0 v1 v2 D = q_up (q_up D (25 + D 3).toNat v0) 3 (D 3 + 1) := rfl
    rw [e]
    exact ⟨⟨by rw [q_up_n (by omega), q_up_n (by omega)]; omega, by rw [q_up_s]; omega, by rw [q_up_n (by omega), q_up_n (by omega)]; omega⟩, fun i hi => Or.inl (by rw [q_up_n (by omega), q_up_n (by omega)])⟩
  · have e : tel 4 v0 v1 v2 D = q_up (q_up D (37 + D 4).toNat v0) 4 (D 4 + 1) := rfl
    rw [e]
    exact ⟨⟨by rw [q_up_n (by omega), q_up_n (by omega)]; omega, by rw [q_up_n (by omega), q_up_n (by omega)]; omega, by rw [q_up_s]; omega⟩, fun i hi => Or.inl (by rw [q_up_n (by omega), q_up_n (by omega)])⟩
  · have e : tel 5 v0 v1 v2 D = q_up D (13 + v0).toNat v1 := rfl
    have hp := VR_p hv (by omega)
    rw [e]
    refine ⟨⟨by rw [q_up_n (by omega)]; omega, by rw [q_up_n (by omega)]; omega, by rw [q_up_n (by omega)]; omega⟩, fun i hi => ?_⟩
    by_cases c : 13 + i = (13 + v0).toNat
    · exact Or.inr ⟨rfl, by rw [c, q_up_s]⟩
    · exact Or.inl (by rw [q_up_n c])
  · have e : tel 6 v0 v1 v2 D = q_up D (31 + v1).toNat (orI (D (31 + v1).toNat) v0) := rfl
    have hp := VR_6 hv rfl
    rw [e]
    exact ⟨⟨by rw [q_up_n (by omega)]; omega, by rw [q_up_n (by omega)]; omega, by rw [q_up_n (by omega)]; omega⟩, fun i hi => Or.inl (by rw [q_up_n (by omega)])⟩
  · have e : tel 7 v0 v1 v2 D = q_up D (21 + v0).toNat v1 := rfl
    have hp := VR_7a hv rfl
    rw [e]
    exact ⟨⟨by rw [q_up_n (by omega)]; omega, by rw [q_up_n (by omega)]; omega, by rw [q_up_n (by omega)]; omega⟩, fun i hi => Or.inl (by rw [q_up_n (by omega)])⟩
  · have e : tel 8 v0 v1 v2 D = q_up D (43 + 4 * v0 + v1).toNat v2 := rfl
    have hp := VR_8 hv rfl
    have hq := VR_p hv (by omega)
    rw [e]
    exact ⟨⟨by rw [q_up_n (by omega)]; omega, by rw [q_up_n (by omega)]; omega, by rw [q_up_n (by omega)]; omega⟩, fun i hi => Or.inl (by rw [q_up_n (by omega)])⟩
theorem stS_par {t : Nat → Int} {n s : Int} (hs : s = 0) : ∀ k : Nat, (stS t n s k).2.1 = 0 → ParD (stS t n s k).2.2.2.1 (stS t n s k).2.2.2.2.1 := by
  subst hs
  intro k
  induction k with
  | zero =>
    intro _
    refine ⟨⟨(show (0 : Int) ≤ blk 0 0 from by decide), (show (0 : Int) ≤ blk 0 3 from by decide), (show (0 : Int) ≤ blk 0 4 from by decide)⟩, fun i hi => ?_⟩
    have hq_9 : ∀ j : Fin 8, blk 0 (13 + j.val) = -1 := by decide
    have hq_8 : blk 0 (13 + i) = -1 := hq_9 ⟨i, hi⟩
    show -1 ≤ blk 0 (13 + i) ∧ blk 0 (13 + i) ≤ -1
    omega
  | succ k ih =>
    intro h
    by_cases c : hlt t n 0 (stS t n 0 k)
    · have e : stS t n 0 (k + 1) = stS t n 0 k := pifT_t c
      rw [e] at h ⊢
      exact ih h
    · have e : stS t n 0 (k + 1) = _ := nxS_n c
      rw [e] at h ⊢
      obtain ⟨S, eS⟩ : ∃ S, S = stS t n 0 k := ⟨_, rfl⟩
      rw [← eS] at h c ih ⊢
      have h : fS t n 0 S = 0 := h
      show ParD (pifT (fS t n 0 S = 0) (dS t n 0 S) S.2.2.2.1) (pif (fS t n 0 S = 0) (gS t n 0 S) S.2.2.2.2.1)
      rw [pifT_t h, pif_t h]
      have hok : lnOk t n (sW t n 0 S) S.1 := Classical.byContradiction (fun hq_9 => c (Or.inr hq_9))
      obtain ⟨hf1, -⟩ := lfa_0 h
      obtain ⟨hf0, hnf⟩ := ntF_0 (by decide) hf1
      have hI := ih hf0
      have hw := ws_li (t := t) (n := n) (p := S.1) (s := 0) (by decide) rfl hok.1
      have hw8 : 0 ≤ sW t n 0 S ∧ sW t n 0 S ≤ 8 := by
        have hq_7 : wsR 0 (sW t n 0 S) := hw
        unfold wsR at hq_7
        omega
      have hv := VR_l h hok.2.1
      obtain ⟨g1, g2⟩ := tel_k (v2 := vS t n 0 S 2) hw8 hv hnf hI.1
      refine ⟨g1, fun i hi => ?_⟩
      obtain ⟨i1, i2⟩ := hI.2 i hi
      have hg : S.2.2.2.2.1 ≤ gS t n 0 S := by
        unfold gS fpN
        split
        · omega
        · split
          · omega
          · omega
      rcases g2 i hi with e1 | ⟨e0, e1⟩
      · have e1 : dS t n 0 S (13 + i) = S.2.2.2.1 (13 + i) := e1
        rw [e1]
        omega
      · have e1 : dS t n 0 S (13 + i) = vS t n 0 S 1 := e1
        have e2 : gS t n 0 S = max (max S.2.2.2.2.1 (vS t n 0 S 0)) (vS t n 0 S 1) := by unfold gS; rw [e0]; exact fpN_5
        have e3 : 0 ≤ vS t n 0 S 1 ∧ vS t n 0 S 1 ≤ 7 := VR_5 hv e0
        rw [e1, e2]
        omega
/-! the whole text -/
def RdS (S : qS6) (nx fa pl : Int) (C : Prop) : Prop := nx = S.1 ∧ fa = S.2.1 ∧ pl = S.2.2.1 ∧ C
theorem RdS_S {S : qS6} {nx fa pl : Int} {C : Prop} (h : RdS S nx fa pl C) : (nx, fa, pl, S.2.2.2.1, S.2.2.2.2.1, S.2.2.2.2.2) = S := by
  obtain ⟨rfl, rfl, rfl, -⟩ := h
  rfl
theorem lnP_gt {t : Nat → Int} {n w p : Int} (h : p ≤ n) (hk : ¬ tK t n p = 0) : p + 1 ≤ lnP t n w p ∧ lnP t n w p ≤ n := by
  have hq_1 := tB_r (t := t) h
  have hq_2 := tE_r (t := t) h
  have hq_3 := lps_r (t := t) (w := w) h 3
  have hq_4 := tB_r (t := t) hq_3.2
  have hq_5 := tE_r (t := t) hq_3.2
  have hq_6 : tB t n p < n := by
    by_cases c : tB t n p < n
    · exact c
    · exfalso; apply hk; unfold tK; rw [if_neg c]
  have hq_7 := hq_2.2.2 hq_6
  unfold lnP
  omega

theorem dF0_goesRound_0 : decode cX0_goesRound 0 = .ok (.iconst 0, 1) := by decide +kernel
theorem dF0_goesRound_1 : decode cX0_goesRound 1 = .ok (.istore_n 1, 1) := by decide +kernel
theorem dF0_goesRound_2 : decode cX0_goesRound 2 = .ok (.iload_n 1, 1) := by decide +kernel
theorem dF0_goesRound_3 : decode cX0_goesRound 3 = .ok (.aload_n 0, 1) := by decide +kernel
theorem dF0_goesRound_4 : decode cX0_goesRound 4 = .ok (.getfield 51, 3) := by decide +kernel
theorem dF0_goesRound_7 : decode cX0_goesRound 7 = .ok (.if_icmp .ge 52, 3) := by decide +kernel
theorem dF0_goesRound_10 : decode cX0_goesRound 10 = .ok (.iload_n 1, 1) := by decide +kernel
theorem dF0_goesRound_11 : decode cX0_goesRound 11 = .ok (.istore_n 2, 1) := by decide +kernel
theorem dF0_goesRound_12 : decode cX0_goesRound 12 = .ok (.iconst 0, 1) := by decide +kernel
theorem dF0_goesRound_13 : decode cX0_goesRound 13 = .ok (.istore_n 3, 1) := by decide +kernel
theorem dF0_goesRound_14 : decode cX0_goesRound 14 = .ok (.iload_n 3, 1) := by decide +kernel
theorem dF0_goesRound_15 : decode cX0_goesRound 15 = .ok (.aload_n 0, 1) := by decide +kernel
theorem dF0_goesRound_16 : decode cX0_goesRound 16 = .ok (.getfield 51, 3) := by decide +kernel
theorem dF0_goesRound_19 : decode cX0_goesRound 19 = .ok (.if_icmp .ge 24, 3) := by decide +kernel
theorem dF0_goesRound_22 : decode cX0_goesRound 22 = .ok (.aload_n 0, 1) := by decide +kernel
theorem dF0_goesRound_23 : decode cX0_goesRound 23 = .ok (.iload_n 2, 1) := by decide +kernel
theorem dF0_goesRound_24 : decode cX0_goesRound 24 = .ok (.invokevirtual 75, 3) := by decide +kernel
theorem dF0_goesRound_27 : decode cX0_goesRound 27 = .ok (.ifCond .eq 16, 3) := by decide +kernel
theorem dF0_goesRound_30 : decode cX0_goesRound 30 = .ok (.aload_n 0, 1) := by decide +kernel
theorem dF0_goesRound_31 : decode cX0_goesRound 31 = .ok (.getfield 15, 3) := by decide +kernel
theorem dF0_goesRound_34 : decode cX0_goesRound 34 = .ok (.iload_n 2, 1) := by decide +kernel
theorem dF0_goesRound_35 : decode cX0_goesRound 35 = .ok (.iaload, 1) := by decide +kernel
theorem dF0_goesRound_36 : decode cX0_goesRound 36 = .ok (.istore_n 2, 1) := by decide +kernel
theorem dF0_goesRound_37 : decode cX0_goesRound 37 = .ok (.iinc 3 1, 3) := by decide +kernel
theorem dF0_goesRound_40 : decode cX0_goesRound 40 = .ok (.goto (-26), 3) := by decide +kernel
theorem dF0_goesRound_43 : decode cX0_goesRound 43 = .ok (.aload_n 0, 1) := by decide +kernel
theorem dF0_goesRound_44 : decode cX0_goesRound 44 = .ok (.iload_n 2, 1) := by decide +kernel
theorem dF0_goesRound_45 : decode cX0_goesRound 45 = .ok (.invokevirtual 75, 3) := by decide +kernel
theorem dF0_goesRound_48 : decode cX0_goesRound 48 = .ok (.ifCond .eq 5, 3) := by decide +kernel
theorem dF0_goesRound_51 : decode cX0_goesRound 51 = .ok (.iconst 1, 1) := by decide +kernel
theorem dF0_goesRound_52 : decode cX0_goesRound 52 = .ok (.ireturn, 1) := by decide +kernel
theorem dF0_goesRound_53 : decode cX0_goesRound 53 = .ok (.iinc 1 1, 3) := by decide +kernel
theorem dF0_goesRound_56 : decode cX0_goesRound 56 = .ok (.goto (-54), 3) := by decide +kernel
theorem dF0_goesRound_59 : decode cX0_goesRound 59 = .ok (.iconst 0, 1) := by decide +kernel
theorem dF0_goesRound_60 : decode cX0_goesRound 60 = .ok (.ireturn, 1) := by decide +kernel
def is_F0_goesRound : Nat → List Nat := fun d => if d = 2 then [0, 1] else if d = 14 then [0, 1, 2, 3] else []
set_option maxRecDepth 100000 in
def b_F0_goesRound_43 (J : Nat → List qV → List qV → qW → Prop) (Q : qR) : qK := x_aload 0 (x_iload 2 (x_callr (some 0) 2 spr_X0_has (x_if_eq (x_iinc 1 1 (x_cut [0, 1] (J 2))) (x_int 1 (x_zret Q)))))
set_option maxRecDepth 100000 in
theorem s_F0_goesRound_43 {p : Program} {l : Launch} {e : Env} {R : Room} {s : State} {m : MethodId} {args : Array Value} {below : List Frame} {meth : Method} {c : Code} {nW : Nat} {dC : Nat → ClassId} {dI : Nat → Nat → Nat} {k : Nat → ClassId} {g : Nat → Nat} {A : Nat → Prop} {J : Nat → List qV → List qV → qW → Prop} {Q : qR} (X : q_X p R s m args meth c cX0_goesRound 4 nW 1 21 RX0 (some .boolean) dC dI k g A) (hJ : ∀ d : Nat, q_Sd p l e R s m args below meth c 4 nW dC dI k g A (MQ below (q_post (dC, dI) k g nW Q A) args s 0 0 A) d (x_cut (is_F0_goesRound d) (J d))) : q_Sd p l e R s m args below meth c 4 nW dC dI k g A (MQ below (q_post (dC, dI) k g nW Q A) args s 0 0 A) 43 (b_F0_goesRound_43 J Q) := by
  unfold b_F0_goesRound_43
  refine s_aload_n X rfl dF0_goesRound_43 ?_
  refine s_iload_n X rfl dF0_goesRound_44 ?_
  refine s_callVr X (m_X0_has l) tw_398 tw_399 tw_400 tw_122 tw_401 rfl (by decide +kernel) ⟨by decide, by decide⟩ dF0_goesRound_45 ?_
  refine s_if_eq X (tgt := 53) dF0_goesRound_48 (by decide) ?_ ?_
  · refine s_iinc X (by decide) dF0_goesRound_53 ?_
    refine s_goto X (tgt := 2) dF0_goesRound_56 (by decide) ?_
    exact hJ 2
  · refine s_iconst X ⟨by decide, by decide⟩ dF0_goesRound_51 ?_
    exact s_zret X dF0_goesRound_52
set_option maxRecDepth 100000 in
def b_F0_goesRound_14 (J : Nat → List qV → List qV → qW → Prop) (Q : qR) : qK := x_iload 3 (x_aload 0 (x_get 0 7 (x_icmp_ge (b_F0_goesRound_43 J Q) (x_aload 0 (x_iload 2 (x_callr (some 0) 2 spr_X0_has (x_if_eq (b_F0_goesRound_43 J Q) (x_aload 0 (x_get 0 1 (x_iload 2 (x_iald (x_istore 2 (x_iinc 3 1 (x_cut [0, 1, 2, 3] (J 14)))))))))))))))
set_option maxRecDepth 100000 in
theorem s_F0_goesRound_14 {p : Program} {l : Launch} {e : Env} {R : Room} {s : State} {m : MethodId} {args : Array Value} {below : List Frame} {meth : Method} {c : Code} {nW : Nat} {dC : Nat → ClassId} {dI : Nat → Nat → Nat} {k : Nat → ClassId} {g : Nat → Nat} {A : Nat → Prop} {J : Nat → List qV → List qV → qW → Prop} {Q : qR} (X : q_X p R s m args meth c cX0_goesRound 4 nW 1 21 RX0 (some .boolean) dC dI k g A) (hJ : ∀ d : Nat, q_Sd p l e R s m args below meth c 4 nW dC dI k g A (MQ below (q_post (dC, dI) k g nW Q A) args s 0 0 A) d (x_cut (is_F0_goesRound d) (J d))) : q_Sd p l e R s m args below meth c 4 nW dC dI k g A (MQ below (q_post (dC, dI) k g nW Q A) args s 0 0 A) 14 (b_F0_goesRound_14 J Q) := by
  unfold b_F0_goesRound_14
  refine s_iload_n X rfl dF0_goesRound_14 ?_
  refine s_aload_n X rfl dF0_goesRound_15 ?_
  refine s_get X (T := TX0) (C := RX0) (N := 12) tu_X0 rfl (by decide) tw_193 dF0_goesRound_16 ?_
  refine s_icmp_ge X (tgt := 43) dF0_goesRound_19 (by decide) ?_ ?_
  · exact s_F0_goesRound_43 X hJ
  · refine s_aload_n X rfl dF0_goesRound_22 ?_
    refine s_iload_n X rfl dF0_goesRound_23 ?_
    refine s_callVr X (m_X0_has l) tw_398 tw_399 tw_400 tw_122 tw_401 rfl (by decide +kernel) ⟨by decide, by decide⟩ dF0_goesRound_24 ?_
    refine s_if_eq X (tgt := 43) dF0_goesRound_27 (by decide) ?_ ?_
    · exact s_F0_goesRound_43 X hJ
    · refine s_aload_n X rfl dF0_goesRound_30 ?_
      refine s_get X (T := TX0) (C := RX0) (N := 12) tu_X0 rfl (by decide) tw_172 dF0_goesRound_31 ?_
      refine s_iload_n X rfl dF0_goesRound_34 ?_
      refine s_iald X dF0_goesRound_35 ?_
      refine s_istore_n X rfl (by decide) dF0_goesRound_36 ?_
      refine s_iinc X (by decide) dF0_goesRound_37 ?_
      refine s_goto X (tgt := 14) dF0_goesRound_40 (by decide) ?_
      exact hJ 14
set_option maxRecDepth 100000 in
def b_F0_goesRound_2 (J : Nat → List qV → List qV → qW → Prop) (Q : qR) : qK := x_iload 1 (x_aload 0 (x_get 0 7 (x_icmp_ge (x_int 0 (x_zret Q)) (x_iload 1 (x_istore 2 (x_int 0 (x_istore 3 (x_cut [0, 1, 2, 3] (J 14)))))))))
set_option maxRecDepth 100000 in
theorem s_F0_goesRound_2 {p : Program} {l : Launch} {e : Env} {R : Room} {s : State} {m : MethodId} {args : Array Value} {below : List Frame} {meth : Method} {c : Code} {nW : Nat} {dC : Nat → ClassId} {dI : Nat → Nat → Nat} {k : Nat → ClassId} {g : Nat → Nat} {A : Nat → Prop} {J : Nat → List qV → List qV → qW → Prop} {Q : qR} (X : q_X p R s m args meth c cX0_goesRound 4 nW 1 21 RX0 (some .boolean) dC dI k g A) (hJ : ∀ d : Nat, q_Sd p l e R s m args below meth c 4 nW dC dI k g A (MQ below (q_post (dC, dI) k g nW Q A) args s 0 0 A) d (x_cut (is_F0_goesRound d) (J d))) : q_Sd p l e R s m args below meth c 4 nW dC dI k g A (MQ below (q_post (dC, dI) k g nW Q A) args s 0 0 A) 2 (b_F0_goesRound_2 J Q) := by
  unfold b_F0_goesRound_2
  refine s_iload_n X rfl dF0_goesRound_2 ?_
  refine s_aload_n X rfl dF0_goesRound_3 ?_
  refine s_get X (T := TX0) (C := RX0) (N := 12) tu_X0 rfl (by decide) tw_193 dF0_goesRound_4 ?_
  refine s_icmp_ge X (tgt := 59) dF0_goesRound_7 (by decide) ?_ ?_
  · refine s_iconst X ⟨by decide, by decide⟩ dF0_goesRound_59 ?_
    exact s_zret X dF0_goesRound_60
  · refine s_iload_n X rfl dF0_goesRound_10 ?_
    refine s_istore_n X rfl (by decide) dF0_goesRound_11 ?_
    refine s_iconst X ⟨by decide, by decide⟩ dF0_goesRound_12 ?_
    refine s_istore_n X rfl (by decide) dF0_goesRound_13 ?_
    exact hJ 14
set_option maxRecDepth 100000 in
def b_F0_goesRound_0 (J : Nat → List qV → List qV → qW → Prop) (Q : qR) : qK := x_int 0 (x_istore 1 (x_cut [0, 1] (J 2)))
set_option maxRecDepth 100000 in
theorem s_F0_goesRound_0 {p : Program} {l : Launch} {e : Env} {R : Room} {s : State} {m : MethodId} {args : Array Value} {below : List Frame} {meth : Method} {c : Code} {nW : Nat} {dC : Nat → ClassId} {dI : Nat → Nat → Nat} {k : Nat → ClassId} {g : Nat → Nat} {A : Nat → Prop} {J : Nat → List qV → List qV → qW → Prop} {Q : qR} (X : q_X p R s m args meth c cX0_goesRound 4 nW 1 21 RX0 (some .boolean) dC dI k g A) (hJ : ∀ d : Nat, q_Sd p l e R s m args below meth c 4 nW dC dI k g A (MQ below (q_post (dC, dI) k g nW Q A) args s 0 0 A) d (x_cut (is_F0_goesRound d) (J d))) : q_Sd p l e R s m args below meth c 4 nW dC dI k g A (MQ below (q_post (dC, dI) k g nW Q A) args s 0 0 A) 0 (b_F0_goesRound_0 J Q) := by
  unfold b_F0_goesRound_0
  refine s_iconst X ⟨by decide, by decide⟩ dF0_goesRound_0 ?_
  refine s_istore_n X rfl (by decide) dF0_goesRound_1 ?_
  exact hJ 2

def spr_F0_goesRound : List qV → qW → (Option qV → Prop) → Prop := fun av w Q => ∃ (f1 : Nat → Int) (f2 : Nat → Int) (f3 : Nat → Int) (f4 : Nat → Int) (f5 : Nat → Int) (f6 : Nat → Int) (f7 : Nat → Int) (u0 : Int) (u1 : Int) (u2 : Int) (u3 : Int) (u4 : Int) (gD : Nat → Int), av = [q2 0] ∧ w = wB f1 f2 f3 f4 f5 f6 f7 u0 u1 u2 u3 u4 ∧ (0 ≤ u0 ∧ u0 ≤ 8) ∧ (PaR f2 u0 gD) ∧ (∀ (r : Int) , (r = 1 ∧ grD gD ∨ r = 0 ∧ ¬ grD gD) → Q (some (q1 r)))
def sp_F0_goesRound : qS := fun av w Q => spr_F0_goesRound av w (fun r => Q r w)
def I_F0_goesRound (f1 : Nat → Int) (f2 : Nat → Int) (f3 : Nat → Int) (f4 : Nat → Int) (f5 : Nat → Int) (f6 : Nat → Int) (f7 : Nat → Int) (u0 : Int) (u1 : Int) (u2 : Int) (u3 : Int) (u4 : Int) (gD : Nat → Int) : Nat → Nat → List qV → List qV → qW → Prop := fun dz mz vz sz wz => if dz = 2 then (∃ (v1 : Int), vz = [q2 0, q1 v1] ∧ sz = [] ∧ wz = wB f1 f2 f3 f4 f5 f6 f7 u0 u1 u2 u3 u4 ∧ mz = 100 * (u0 - v1).toNat ∧ (0 ≤ v1 ∧ v1 ≤ u0) ∧ (GrQ gD v1)) else if dz = 14 then (∃ (v1 : Int) (v2 : Int) (v3 : Int), vz = [q2 0, q1 v1, q1 v2, q1 v3] ∧ sz = [] ∧ wz = wB f1 f2 f3 f4 f5 f6 f7 u0 u1 u2 u3 u4 ∧ mz = 100 * (u0 - v1).toNat - 50 + (u0 - v3).toNat ∧ (0 ≤ v1 ∧ v1 < u0) ∧ (0 ≤ v3 ∧ v3 ≤ u0) ∧ (-1 ≤ v2 ∧ v2 < u0) ∧ (v2 = pch gD 0 v3.toNat v1) ∧ (GrQ gD v1)) else False
set_option maxHeartbeats 4000000 in
set_option maxRecDepth 100000 in
theorem m_F0_goesRound (l : Launch) : q_M l yX0_goesRound cX0_goesRound 4 (some .boolean) 1 21 sp_F0_goesRound := by
  refine q_meth (by decide) (fun av w Q h => by obtain ⟨f1, f2, f3, f4, f5, f6, f7, u0, u1, u2, u3, u4, gD, rfl, rfl, hu0, hp9, hQ⟩ := h; exact Nat.le_of_ble_eq_true rfl) ?_
  intro p e R s m args below meth c dC dI k g A av w Q hsp oka okw X
  obtain ⟨f1, f2, f3, f4, f5, f6, f7, u0, u1, u2, u3, u4, gD, rfl, rfl, hu0, hp9, hQ⟩ := hsp
  refine s_mono (s_F0_goesRound_0 X (J := fun dz vz sz wz => ∃ mz, I_F0_goesRound f1 f2 f3 f4 f5 f6 f7 u0 u1 u2 u3 u4 gD dz mz vz sz wz) (q_loopn (I_F0_goesRound f1 f2 f3 f4 f5 f6 f7 u0 u1 u2 u3 u4 gD) (fun dz J => if dz = 2 then b_F0_goesRound_2 J Q else if dz = 14 then b_F0_goesRound_14 J Q else q_F) ?hs ?hv)) ?_
  case hs =>
    intro d J hJ
    by_cases hq_2 : d = 2
    · subst hq_2; exact s_F0_goesRound_2 X hJ
    by_cases hq_14 : d = 14
    · subst hq_14; exact s_F0_goesRound_14 X hJ
    simp only [hq_2, hq_14, if_false]
    exact s_F
  case hv =>
    intro dz mz vz sz wz hI okv oks okw hlen
    by_cases hq_2 : dz = 2
    · subst hq_2
      obtain ⟨v1, rfl, rfl, rfl, hn, hp, hz⟩ := hI
      apply And.intro
      · intro hq_7
        apply And.intro
        · first | exact Or.inl rfl | exact Or.inr rfl | omega
        exact hQ _ (by first | (exfalso; omega) | exact Or.inl ⟨rfl, gr_1 hp9 hu0 (by omega) ho (by omega) (by omega)⟩ | exact Or.inr ⟨rfl, gc_0 hp9 hz (by omega)⟩)
      · intro hq_7
        exact ⟨_, ⟨_, _, _, rfl, rfl, rfl, rfl, (by first | assumption | exact q_rg_up (by assumption) (by omega) | exact q_rg_up (q_rg_up (by assumption) (by omega)) (by omega) | exact q_rg_cpy (by assumption) (by assumption) | omega), (by first | assumption | exact q_rg_up (by assumption) (by omega) | exact q_rg_up (q_rg_up (by assumption) (by omega)) (by omega) | exact q_rg_cpy (by assumption) (by assumption) | omega), (by first | assumption | exact q_rg_up (by assumption) (by omega) | exact q_rg_up (q_rg_up (by assumption) (by omega)) (by omega) | exact q_rg_cpy (by assumption) (by assumption) | omega), (by first | rfl | (rw [show zq_37 = v3 + 1 by omega]; exact g35.1)), (by first | assumption | exact q_rg_up (by assumption) (by omega) | exact q_rg_up (q_rg_up (by assumption) (by omega)) (by omega) | exact q_rg_cpy (by assumption) (by assumption) | omega)⟩, by omega⟩
    by_cases hq_14 : dz = 14
    · subst hq_14
      obtain ⟨v1, v2, v3, rfl, rfl, rfl, hn, hp, hq, hr, ho, hz⟩ := hI
      apply And.intro
      · intro hq_19
        refine Exists.intro [0, 1, 2, 3, 4, 5, 6, 7] (Exists.intro [q2 0, q1 _] (Exists.intro (wB _ _ _ _ _ _ _ _ _ _ _ _) (And.intro rfl (And.intro rfl (And.intro rfl (And.intro ⟨⟨_, rfl⟩, rfl⟩ ?_))))))
        refine Exists.intro _ (Exists.intro _ (Exists.intro _ (Exists.intro _ (Exists.intro _ (Exists.intro _ (Exists.intro _ (Exists.intro _ (Exists.intro _ (Exists.intro _ (Exists.intro _ (Exists.intro _ (Exists.intro _ (And.intro rfl (And.intro rfl (?_)))))))))))))))
        intro zq_45 hq_45
        apply And.intro
        · intro hq_48
          intro zq_53 hq_53
          first | replace hq_53 := e_add hq_53 (by omega) | replace hq_53 := e_rng hq_53
          exact ⟨_, ⟨_, rfl, rfl, rfl, rfl, (by first | assumption | exact q_rg_up (by assumption) (by omega) | exact q_rg_up (q_rg_up (by assumption) (by omega)) (by omega) | exact q_rg_cpy (by assumption) (by assumption) | omega), (by first | exact GrQ_0 | exact GrQ_s hz (by omega) (by omega) ho (by omega) (by omega))⟩, by omega⟩
        · intro hq_48
          apply And.intro
          · first | exact Or.inl rfl | exact Or.inr rfl | omega
          exact hQ _ (by first | (exfalso; omega) | exact Or.inl ⟨rfl, gr_1 hp9 hu0 (by omega) ho (by omega) (by omega)⟩ | exact Or.inr ⟨rfl, gc_0 hp9 hz (by omega)⟩)
      · intro hq_19
        refine Exists.intro [0, 1, 2, 3, 4, 5, 6, 7] (Exists.intro [q2 0, q1 _] (Exists.intro (wB _ _ _ _ _ _ _ _ _ _ _ _) (And.intro rfl (And.intro rfl (And.intro rfl (And.intro ⟨⟨_, rfl⟩, rfl⟩ ?_))))))
        refine Exists.intro _ (Exists.intro _ (Exists.intro _ (Exists.intro _ (Exists.intro _ (Exists.intro _ (Exists.intro _ (Exists.intro _ (Exists.intro _ (Exists.intro _ (Exists.intro _ (Exists.intro _ (Exists.intro _ (And.intro rfl (And.intro rfl (?_)))))))))))))))
        intro zq_24 hq_24
        apply And.intro
        · intro hq_27
          refine Exists.intro [0, 1, 2, 3, 4, 5, 6, 7] (Exists.intro [q2 0, q1 _] (Exists.intro (wB _ _ _ _ _ _ _ _ _ _ _ _) (And.intro rfl (And.intro rfl (And.intro rfl (And.intro ⟨⟨_, rfl⟩, rfl⟩ ?_))))))
          refine Exists.intro _ (Exists.intro _ (Exists.intro _ (Exists.intro _ (Exists.intro _ (Exists.intro _ (Exists.intro _ (Exists.intro _ (Exists.intro _ (Exists.intro _ (Exists.intro _ (Exists.intro _ (Exists.intro _ (And.intro rfl (And.intro rfl (?_)))))))))))))))
          intro zq_45 hq_45
          apply And.intro
          · intro hq_48
            intro zq_53 hq_53
            first | replace hq_53 := e_add hq_53 (by omega) | replace hq_53 := e_rng hq_53
            exact ⟨_, ⟨_, rfl, rfl, rfl, rfl, (by first | assumption | exact q_rg_up (by assumption) (by omega) | exact q_rg_up (q_rg_up (by assumption) (by omega)) (by omega) | exact q_rg_cpy (by assumption) (by assumption) | omega), (by first | exact GrQ_0 | exact GrQ_s hz (by omega) (by omega) ho (by omega) (by omega))⟩, by omega⟩
          · intro hq_48
            apply And.intro
            · first | exact Or.inl rfl | exact Or.inr rfl | omega
            exact hQ _ (by first | (exfalso; omega) | exact Or.inl ⟨rfl, gr_1 hp9 hu0 (by omega) ho (by omega) (by omega)⟩ | exact Or.inr ⟨rfl, gc_0 hp9 hz (by omega)⟩)
        · intro hq_27
          apply And.intro
          · exact ⟨by omega, by omega⟩
          intro zq_35 hq_35
          have g35 := gr_st (v3' := v3 + 1) hp9 ho hq_35 (by omega) (by omega) rfl
          intro zq_37 hq_37
          first | replace hq_37 := e_add hq_37 (by omega) | replace hq_37 := e_rng hq_37
          exact ⟨_, ⟨_, _, _, rfl, rfl, rfl, rfl, (by first | assumption | exact q_rg_up (by assumption) (by omega) | exact q_rg_up (q_rg_up (by assumption) (by omega)) (by omega) | exact q_rg_cpy (by assumption) (by assumption) | omega), (by first | assumption | exact q_rg_up (by assumption) (by omega) | exact q_rg_up (q_rg_up (by assumption) (by omega)) (by omega) | exact q_rg_cpy (by assumption) (by assumption) | omega), (by first | assumption | exact q_rg_up (by assumption) (by omega) | exact q_rg_up (q_rg_up (by assumption) (by omega)) (by omega) | exact q_rg_cpy (by assumption) (by assumption) | omega), (by first | rfl | (rw [show zq_37 = v3 + 1 by omega]; exact g35.1)), (by first | assumption | exact q_rg_up (by assumption) (by omega) | exact q_rg_up (q_rg_up (by assumption) (by omega)) (by omega) | exact q_rg_cpy (by assumption) (by assumption) | omega)⟩, by omega⟩
    simp only [I_F0_goesRound, hq_2, hq_14, if_false] at hI
  rintro lv st w' ⟨rfl, rfl, rfl⟩
  exact ⟨_, _, rfl, rfl, rfl, rfl, (by first | assumption | exact q_rg_up (by assumption) (by omega) | exact q_rg_up (q_rg_up (by assumption) (by omega)) (by omega) | exact q_rg_cpy (by assumption) (by assumption) | omega), (by first | exact GrQ_0 | exact GrQ_s hz (by omega) (by omega) ho (by omega) (by omega))⟩

theorem dF6_close_0 : decode cX6_close 0 = .ok (.iload_n 1, 1) := by decide +kernel
theorem dF6_close_1 : decode cX6_close 1 = .ok (.ifCond .eq 4, 3) := by decide +kernel
theorem dF6_close_4 : decode cX6_close 4 = .ok (.return_, 1) := by decide +kernel
theorem dF6_close_5 : decode cX6_close 5 = .ok (.aload_n 0, 1) := by decide +kernel
theorem dF6_close_6 : decode cX6_close 6 = .ok (.getfield 97, 3) := by decide +kernel
theorem dF6_close_9 : decode cX6_close 9 = .ok (.aload_n 0, 1) := by decide +kernel
theorem dF6_close_10 : decode cX6_close 10 = .ok (.getfield 12, 3) := by decide +kernel
theorem dF6_close_13 : decode cX6_close 13 = .ok (.getfield 103, 3) := by decide +kernel
theorem dF6_close_16 : decode cX6_close 16 = .ok (.ishr, 1) := by decide +kernel
theorem dF6_close_17 : decode cX6_close 17 = .ok (.ifCond .eq 12, 3) := by decide +kernel
theorem dF6_close_20 : decode cX6_close 20 = .ok (.aload_n 0, 1) := by decide +kernel
theorem dF6_close_21 : decode cX6_close 21 = .ok (.iconst 4, 1) := by decide +kernel
theorem dF6_close_22 : decode cX6_close 22 = .ok (.aload_n 0, 1) := by decide +kernel
theorem dF6_close_23 : decode cX6_close 23 = .ok (.getfield 51, 3) := by decide +kernel
theorem dF6_close_26 : decode cX6_close 26 = .ok (.invokevirtual 106, 3) := by decide +kernel
theorem dF6_close_29 : decode cX6_close 29 = .ok (.aload_n 0, 1) := by decide +kernel
theorem dF6_close_30 : decode cX6_close 30 = .ok (.getfield 100, 3) := by decide +kernel
theorem dF6_close_33 : decode cX6_close 33 = .ok (.aload_n 0, 1) := by decide +kernel
theorem dF6_close_34 : decode cX6_close 34 = .ok (.getfield 12, 3) := by decide +kernel
theorem dF6_close_37 : decode cX6_close 37 = .ok (.getfield 110, 3) := by decide +kernel
theorem dF6_close_40 : decode cX6_close 40 = .ok (.ishr, 1) := by decide +kernel
theorem dF6_close_41 : decode cX6_close 41 = .ok (.ifCond .eq 12, 3) := by decide +kernel
theorem dF6_close_44 : decode cX6_close 44 = .ok (.aload_n 0, 1) := by decide +kernel
theorem dF6_close_45 : decode cX6_close 45 = .ok (.iconst 5, 1) := by decide +kernel
theorem dF6_close_46 : decode cX6_close 46 = .ok (.aload_n 0, 1) := by decide +kernel
theorem dF6_close_47 : decode cX6_close 47 = .ok (.getfield 51, 3) := by decide +kernel
theorem dF6_close_50 : decode cX6_close 50 = .ok (.invokevirtual 106, 3) := by decide +kernel
theorem dF6_close_53 : decode cX6_close 53 = .ok (.aload_n 0, 1) := by decide +kernel
theorem dF6_close_54 : decode cX6_close 54 = .ok (.getfield 69, 3) := by decide +kernel
theorem dF6_close_57 : decode cX6_close 57 = .ok (.ifCond .ne 23, 3) := by decide +kernel
theorem dF6_close_60 : decode cX6_close 60 = .ok (.aload_n 0, 1) := by decide +kernel
theorem dF6_close_61 : decode cX6_close 61 = .ok (.getfield 12, 3) := by decide +kernel
theorem dF6_close_64 : decode cX6_close 64 = .ok (.invokevirtual 113, 3) := by decide +kernel
theorem dF6_close_67 : decode cX6_close 67 = .ok (.ifCond .eq 13, 3) := by decide +kernel
theorem dF6_close_70 : decode cX6_close 70 = .ok (.aload_n 0, 1) := by decide +kernel
theorem dF6_close_71 : decode cX6_close 71 = .ok (.bipush 6, 2) := by decide +kernel
theorem dF6_close_73 : decode cX6_close 73 = .ok (.aload_n 0, 1) := by decide +kernel
theorem dF6_close_74 : decode cX6_close 74 = .ok (.getfield 51, 3) := by decide +kernel
theorem dF6_close_77 : decode cX6_close 77 = .ok (.invokevirtual 106, 3) := by decide +kernel
theorem dF6_close_80 : decode cX6_close 80 = .ok (.return_, 1) := by decide +kernel
def is_F6_close : Nat → List Nat := fun d => []
set_option maxRecDepth 100000 in
def b_F6_close_80 (J : Nat → List qV → List qV → qW → Prop) (Q : qR) : qK := x_vret Q
set_option maxRecDepth 100000 in
theorem s_F6_close_80 {p : Program} {l : Launch} {e : Env} {R : Room} {s : State} {m : MethodId} {args : Array Value} {below : List Frame} {meth : Method} {c : Code} {nW : Nat} {dC : Nat → ClassId} {dI : Nat → Nat → Nat} {k : Nat → ClassId} {g : Nat → Nat} {A : Nat → Prop} {J : Nat → List qV → List qV → qW → Prop} {Q : qR} (X : q_X p R s m args meth c cX6_close 2 nW 2 44 RX6 none dC dI k g A) (hJ : ∀ d : Nat, q_Sd p l e R s m args below meth c 2 nW dC dI k g A (MQ below (q_post (dC, dI) k g nW Q A) args s 0 0 A) d (x_cut (is_F6_close d) (J d))) : q_Sd p l e R s m args below meth c 2 nW dC dI k g A (MQ below (q_post (dC, dI) k g nW Q A) args s 0 0 A) 80 (b_F6_close_80 J Q) := by
  unfold b_F6_close_80
  exact s_vret X dF6_close_80
set_option maxRecDepth 100000 in
def b_F6_close_53 (J : Nat → List qV → List qV → qW → Prop) (Q : qR) : qK := x_aload 0 (x_get 6 7 (x_if_ne (b_F6_close_80 J Q) (x_aload 0 (x_get 6 0 (x_callr (some 0) 1 spr_F0_goesRound (x_if_eq (b_F6_close_80 J Q) (x_aload 0 (x_int 6 (x_aload 0 (x_get 6 6 (x_call (some 6) 3 sp_F6_note (x_nw (b_F6_close_80 J Q)))))))))))))
set_option maxRecDepth 100000 in
theorem s_F6_close_53 {p : Program} {l : Launch} {e : Env} {R : Room} {s : State} {m : MethodId} {args : Array Value} {below : List Frame} {meth : Method} {c : Code} {nW : Nat} {dC : Nat → ClassId} {dI : Nat → Nat → Nat} {k : Nat → ClassId} {g : Nat → Nat} {A : Nat → Prop} {J : Nat → List qV → List qV → qW → Prop} {Q : qR} (X : q_X p R s m args meth c cX6_close 2 nW 2 44 RX6 none dC dI k g A) (hJ : ∀ d : Nat, q_Sd p l e R s m args below meth c 2 nW dC dI k g A (MQ below (q_post (dC, dI) k g nW Q A) args s 0 0 A) d (x_cut (is_F6_close d) (J d))) : q_Sd p l e R s m args below meth c 2 nW dC dI k g A (MQ below (q_post (dC, dI) k g nW Q A) args s 0 0 A) 53 (b_F6_close_53 J Q) := by
  unfold b_F6_close_53
  refine s_aload_n X rfl dF6_close_53 ?_
  refine s_get X (T := TX6) (C := RX6) (N := 15) tu_X6 rfl (by decide) tw_278 dF6_close_54 ?_
  refine s_if_ne X (tgt := 80) dF6_close_57 (by decide) ?_ ?_
  · exact s_F6_close_80 X hJ
  · refine s_aload_n X rfl dF6_close_60 ?_
    refine s_get X (T := TX6) (C := RX6) (N := 15) tu_X6 rfl (by decide) tw_267 dF6_close_61 ?_
    refine s_callVr X (m_F0_goesRound l) tw_394 tw_395 tw_396 tw_122 tw_397 rfl (by decide +kernel) ⟨by decide, by decide⟩ dF6_close_64 ?_
    refine s_if_eq X (tgt := 80) dF6_close_67 (by decide) ?_ ?_
    · exact s_F6_close_80 X hJ
    · refine s_aload_n X rfl dF6_close_70 ?_
      refine s_bipush X ⟨by decide, by decide⟩ (by decide) dF6_close_71 ?_
      refine s_aload_n X rfl dF6_close_73 ?_
      refine s_get X (T := TX6) (C := RX6) (N := 15) tu_X6 rfl (by decide) tw_277 dF6_close_74 ?_
      refine s_callV X (m_F6_note l) tw_391 tw_392 tw_1514 tw_128 tw_393 rfl (by decide +kernel) ⟨by decide, by decide⟩ dF6_close_77 ?_
      refine s_nw ?_
      exact s_F6_close_80 X hJ
set_option maxRecDepth 100000 in
def b_F6_close_29 (J : Nat → List qV → List qV → qW → Prop) (Q : qR) : qK := x_aload 0 (x_get 6 14 (x_aload 0 (x_get 6 0 (x_get 0 10 (x_ishr (x_if_eq (b_F6_close_53 J Q) (x_aload 0 (x_int 5 (x_aload 0 (x_get 6 6 (x_call (some 6) 3 sp_F6_note (x_nw (b_F6_close_53 J Q)))))))))))))
set_option maxRecDepth 100000 in
theorem s_F6_close_29 {p : Program} {l : Launch} {e : Env} {R : Room} {s : State} {m : MethodId} {args : Array Value} {below : List Frame} {meth : Method} {c : Code} {nW : Nat} {dC : Nat → ClassId} {dI : Nat → Nat → Nat} {k : Nat → ClassId} {g : Nat → Nat} {A : Nat → Prop} {J : Nat → List qV → List qV → qW → Prop} {Q : qR} (X : q_X p R s m args meth c cX6_close 2 nW 2 44 RX6 none dC dI k g A) (hJ : ∀ d : Nat, q_Sd p l e R s m args below meth c 2 nW dC dI k g A (MQ below (q_post (dC, dI) k g nW Q A) args s 0 0 A) d (x_cut (is_F6_close d) (J d))) : q_Sd p l e R s m args below meth c 2 nW dC dI k g A (MQ below (q_post (dC, dI) k g nW Q A) args s 0 0 A) 29 (b_F6_close_29 J Q) := by
  unfold b_F6_close_29
  refine s_aload_n X rfl dF6_close_29 ?_
  refine s_get X (T := TX6) (C := RX6) (N := 15) tu_X6 rfl (by decide) tw_287 dF6_close_30 ?_
  refine s_aload_n X rfl dF6_close_33 ?_
  refine s_get X (T := TX6) (C := RX6) (N := 15) tu_X6 rfl (by decide) tw_267 dF6_close_34 ?_
  refine s_get X (T := TX0) (C := RX0) (N := 12) tu_X0 rfl (by decide) tw_204 dF6_close_37 ?_
  refine s_ishr X dF6_close_40 ?_
  refine s_if_eq X (tgt := 53) dF6_close_41 (by decide) ?_ ?_
  · exact s_F6_close_53 X hJ
  · refine s_aload_n X rfl dF6_close_44 ?_
    refine s_iconst X ⟨by decide, by decide⟩ dF6_close_45 ?_
    refine s_aload_n X rfl dF6_close_46 ?_
    refine s_get X (T := TX6) (C := RX6) (N := 15) tu_X6 rfl (by decide) tw_277 dF6_close_47 ?_
    refine s_callV X (m_F6_note l) tw_391 tw_392 tw_1514 tw_128 tw_393 rfl (by decide +kernel) ⟨by decide, by decide⟩ dF6_close_50 ?_
    refine s_nw ?_
    exact s_F6_close_53 X hJ
set_option maxRecDepth 100000 in
def b_F6_close_0 (J : Nat → List qV → List qV → qW → Prop) (Q : qR) : qK := x_iload 1 (x_if_eq (x_aload 0 (x_get 6 13 (x_aload 0 (x_get 6 0 (x_get 0 7 (x_ishr (x_if_eq (b_F6_close_29 J Q) (x_aload 0 (x_int 4 (x_aload 0 (x_get 6 6 (x_call (some 6) 3 sp_F6_note (x_nw (b_F6_close_29 J Q)))))))))))))) (x_vret Q))
set_option maxRecDepth 100000 in
theorem s_F6_close_0 {p : Program} {l : Launch} {e : Env} {R : Room} {s : State} {m : MethodId} {args : Array Value} {below : List Frame} {meth : Method} {c : Code} {nW : Nat} {dC : Nat → ClassId} {dI : Nat → Nat → Nat} {k : Nat → ClassId} {g : Nat → Nat} {A : Nat → Prop} {J : Nat → List qV → List qV → qW → Prop} {Q : qR} (X : q_X p R s m args meth c cX6_close 2 nW 2 44 RX6 none dC dI k g A) (hJ : ∀ d : Nat, q_Sd p l e R s m args below meth c 2 nW dC dI k g A (MQ below (q_post (dC, dI) k g nW Q A) args s 0 0 A) d (x_cut (is_F6_close d) (J d))) : q_Sd p l e R s m args below meth c 2 nW dC dI k g A (MQ below (q_post (dC, dI) k g nW Q A) args s 0 0 A) 0 (b_F6_close_0 J Q) := by
  unfold b_F6_close_0
  refine s_iload_n X rfl dF6_close_0 ?_
  refine s_if_eq X (tgt := 5) dF6_close_1 (by decide) ?_ ?_
  · refine s_aload_n X rfl dF6_close_5 ?_
    refine s_get X (T := TX6) (C := RX6) (N := 15) tu_X6 rfl (by decide) tw_286 dF6_close_6 ?_
    refine s_aload_n X rfl dF6_close_9 ?_
    refine s_get X (T := TX6) (C := RX6) (N := 15) tu_X6 rfl (by decide) tw_267 dF6_close_10 ?_
    refine s_get X (T := TX0) (C := RX0) (N := 12) tu_X0 rfl (by decide) tw_195 dF6_close_13 ?_
    refine s_ishr X dF6_close_16 ?_
    refine s_if_eq X (tgt := 29) dF6_close_17 (by decide) ?_ ?_
    · exact s_F6_close_29 X hJ
    · refine s_aload_n X rfl dF6_close_20 ?_
      refine s_iconst X ⟨by decide, by decide⟩ dF6_close_21 ?_
      refine s_aload_n X rfl dF6_close_22 ?_
      refine s_get X (T := TX6) (C := RX6) (N := 15) tu_X6 rfl (by decide) tw_277 dF6_close_23 ?_
      refine s_callV X (m_F6_note l) tw_391 tw_392 tw_1514 tw_128 tw_393 rfl (by decide +kernel) ⟨by decide, by decide⟩ dF6_close_26 ?_
      refine s_nw ?_
      exact s_F6_close_29 X hJ
  · exact s_vret X dF6_close_4

def sp_F6_close : qS := fun av w Q => ∃ (rln : Int) (rfa : Int) (rpl : Int) (rst : Int) (rnx : Int) (rtk : Int) (rnm : Int) (rnp : Int) (rnd : Int) (rbf1 : Nat → Int) (rbf2 : Nat → Int) (rbf3 : Nat → Int) (rbf4 : Nat → Int) (rbf5 : Nat → Int) (rbf6 : Nat → Int) (rbf7 : Nat → Int) (rbu0 : Int) (rbu1 : Int) (rbu2 : Int) (rbu3 : Int) (rbu4 : Int) (gD : Nat → Int) (gf : Int) (gd : Int) (a : Int), av = [q2 0, q1 a] ∧ w = [.inr (6, [q2 1, q2 9, q2 10, q2 11, q2 12, q2 13, q1 rln, q1 rfa, q1 rpl, q1 rst, q1 rnx, q1 rtk, q1 rnm, q1 rnp, q1 rnd]), .inr (0, [q2 2, q2 3, q2 4, q2 5, q2 6, q2 7, q2 8, q1 rbu0, q1 rbu1, q1 rbu2, q1 rbu3, q1 rbu4]), .inl (0, 8, .inl rbf1), .inl (0, 8, .inl rbf2), .inl (0, 4, .inl rbf3), .inl (0, 32, .inl rbf4), .inl (0, 6, .inl rbf5), .inl (0, 6, .inl rbf6), .inl (0, 6, .inl rbf7)] ∧ (0 ≤ rbu0 ∧ rbu0 ≤ 8 ∧ 0 ≤ rbu3 ∧ rbu3 ≤ 6 ∧ 0 ≤ rbu4 ∧ rbu4 ≤ 6) ∧ ((rfa = 0 ∧ XC a (CB rbf1 rbf2 rbf3 rbf4 rbf5 rbf6 rbf7 rbu0 rbu1 rbu2 rbu3 rbu4 gD ∧ NPR rnp gf ∧ NPR rnd gd ∧ ParD gD gf)) ∨ ¬ rfa = 0) ∧ (∀ (x_rfa : Int) (x_rpl : Int), ClR a gD gf gd rln rfa rpl x_rfa x_rpl → Q none ([.inr (6, [q2 1, q2 9, q2 10, q2 11, q2 12, q2 13, q1 rln, q1 x_rfa, q1 x_rpl, q1 rst, q1 rnx, q1 rtk, q1 rnm, q1 rnp, q1 rnd]), .inr (0, [q2 2, q2 3, q2 4, q2 5, q2 6, q2 7, q2 8, q1 rbu0, q1 rbu1, q1 rbu2, q1 rbu3, q1 rbu4]), .inl (0, 8, .inl rbf1), .inl (0, 8, .inl rbf2), .inl (0, 4, .inl rbf3), .inl (0, 32, .inl rbf4), .inl (0, 6, .inl rbf5), .inl (0, 6, .inl rbf6), .inl (0, 6, .inl rbf7)]))
set_option maxHeartbeats 4000000 in
set_option maxRecDepth 100000 in
theorem m_F6_close (l : Launch) : q_M l yX6_close cX6_close 2 none 2 44 sp_F6_close := by
  refine q_meth (by decide) (fun av w Q h => by obtain ⟨rln, rfa, rpl, rst, rnx, rtk, rnm, rnp, rnd, rbf1, rbf2, rbf3, rbf4, rbf5, rbf6, rbf7, rbu0, rbu1, rbu2, rbu3, rbu4, gD, gf, gd, a, rfl, rfl, hrb, hC, hQ⟩ := h; exact Nat.le_of_ble_eq_true rfl) ?_
  intro p e R s m args below meth c dC dI k g A av w Q hsp oka okw X
  obtain ⟨rln, rfa, rpl, rst, rnx, rtk, rnm, rnp, rnd, rbf1, rbf2, rbf3, rbf4, rbf5, rbf6, rbf7, rbu0, rbu1, rbu2, rbu3, rbu4, gD, gf, gd, a, rfl, rfl, hrb, hC, hQ⟩ := hsp
  have o_a : -2147483648 ≤ a ∧ a ≤ 2147483647 := oka _ (List.mem_of_getElem? (i := 1) rfl)
  refine s_mono (s_F6_close_0 X (J := fun _ _ _ _ => False) (fun d => s_cutF)) ?_
  rintro lv st w' ⟨rfl, rfl, rfl⟩
  rcases hC with ⟨hf0, hX⟩ | hf0
  · apply And.intro
    · intro hq_1
      try have hY := hX hq_1
      intro zq_16 hq_16
      skip
      apply And.intro
      · intro hq_17
        try have q4 := (np_e hY.2.1 hY.1.1.1 (by omega) hq_16).mp hq_17
        intro zq_40 hq_40
        skip
        apply And.intro
        · intro hq_41
          try have q5 := (np_e hY.2.2.1 hY.1.1.2.2.2.1 (by omega) hq_40).mp hq_41
          apply And.intro
          · intro hq_57
            exact hQ _ _ (by first | exact ClR_2 (by omega) (by omega) (by omega) | exact ClR_0 hf0 (clF_n hq_1) (by omega) (by omega) | exact ClR_1 hf0 (clF_4 hq_1 q4) (by decide) (by omega) (by omega) | exact ClR_1 hf0 (clF_5 hq_1 q4 q5) (by decide) (by omega) (by omega) | exact ClR_1 hf0 (clF_6 hq_1 q4 q5 (dj1 hq_64 hq_67)) (by decide) (by omega) (by omega) | exact ClR_0 hf0 (clF_0 q4 q5 (dj0 hq_64 hq_67)) (by omega) (by omega) | (exfalso; omega))
          · intro hq_57
            refine Exists.intro [1, 2, 3, 4, 5, 6, 7, 8] (Exists.intro [q2 0] (Exists.intro (wB _ _ _ _ _ _ _ _ _ _ _ _) (And.intro rfl (And.intro rfl (And.intro rfl (And.intro ⟨⟨_, rfl⟩, rfl⟩ ?_))))))
            refine Exists.intro _ (Exists.intro _ (Exists.intro _ (Exists.intro _ (Exists.intro _ (Exists.intro _ (Exists.intro _ (Exists.intro _ (Exists.intro _ (Exists.intro _ (Exists.intro _ (Exists.intro _ (Exists.intro gD (And.intro rfl (And.intro rfl (And.intro (by first | assumption | exact q_rg_up (by assumption) (by omega) | exact q_rg_up (q_rg_up (by assumption) (by omega)) (by omega) | exact q_rg_cpy (by assumption) (by assumption) | omega) (And.intro (by first | exact par_lt hY.1 hY.2.2.2 q4 | (exfalso; omega)) (?_)))))))))))))))))
            intro zq_64 hq_64
            apply And.intro
            · intro hq_67
              exact hQ _ _ (by first | exact ClR_2 (by omega) (by omega) (by omega) | exact ClR_0 hf0 (clF_n hq_1) (by omega) (by omega) | exact ClR_1 hf0 (clF_4 hq_1 q4) (by decide) (by omega) (by omega) | exact ClR_1 hf0 (clF_5 hq_1 q4 q5) (by decide) (by omega) (by omega) | exact ClR_1 hf0 (clF_6 hq_1 q4 q5 (dj1 hq_64 hq_67)) (by decide) (by omega) (by omega) | exact ClR_0 hf0 (clF_0 q4 q5 (dj0 hq_64 hq_67)) (by omega) (by omega) | (exfalso; omega))
            · intro hq_67
              refine Exists.intro [0, 1, 9, 10, 11, 12, 13] (Exists.intro [q2 0, q1 _, q1 _] (Exists.intro ([.inr (6, [q2 1, q2 2, q2 3, q2 4, q2 5, q2 6, q1 _, q1 _, q1 _, q1 _, q1 _, q1 _, q1 _, q1 _, q1 _])]) (And.intro rfl (And.intro rfl (And.intro rfl (And.intro ⟨⟨_, rfl⟩, rfl⟩ ?_))))))
              refine Exists.intro _ (Exists.intro _ (Exists.intro _ (Exists.intro _ (Exists.intro _ (Exists.intro _ (Exists.intro _ (Exists.intro _ (Exists.intro _ (Exists.intro _ (Exists.intro _ (And.intro rfl (And.intro rfl (?_)))))))))))))
              intro x_rfa_77 x_rpl_77 hq_77
              exact hQ _ _ (by first | exact ClR_2 (by omega) (by omega) (by omega) | exact ClR_0 hf0 (clF_n hq_1) (by omega) (by omega) | exact ClR_1 hf0 (clF_4 hq_1 q4) (by decide) (by omega) (by omega) | exact ClR_1 hf0 (clF_5 hq_1 q4 q5) (by decide) (by omega) (by omega) | exact ClR_1 hf0 (clF_6 hq_1 q4 q5 (dj1 hq_64 hq_67)) (by decide) (by omega) (by omega) | exact ClR_0 hf0 (clF_0 q4 q5 (dj0 hq_64 hq_67)) (by omega) (by omega) | (exfalso; omega))
        · intro hq_41
          try have q5 := Classical.byContradiction (fun hq_9 => hq_41 ((np_e hY.2.2.1 hY.1.1.2.2.2.1 (by omega) hq_40).mpr hq_9))
          refine Exists.intro [0, 1, 9, 10, 11, 12, 13] (Exists.intro [q2 0, q1 _, q1 _] (Exists.intro ([.inr (6, [q2 1, q2 2, q2 3, q2 4, q2 5, q2 6, q1 _, q1 _, q1 _, q1 _, q1 _, q1 _, q1 _, q1 _, q1 _])]) (And.intro rfl (And.intro rfl (And.intro rfl (And.intro ⟨⟨_, rfl⟩, rfl⟩ ?_))))))
          refine Exists.intro _ (Exists.intro _ (Exists.intro _ (Exists.intro _ (Exists.intro _ (Exists.intro _ (Exists.intro _ (Exists.intro _ (Exists.intro _ (Exists.intro _ (Exists.intro _ (And.intro rfl (And.intro rfl (?_)))))))))))))
          intro x_rfa_50 x_rpl_50 hq_50
          apply And.intro
          · intro hq_57
            exact hQ _ _ (by first | exact ClR_2 (by omega) (by omega) (by omega) | exact ClR_0 hf0 (clF_n hq_1) (by omega) (by omega) | exact ClR_1 hf0 (clF_4 hq_1 q4) (by decide) (by omega) (by omega) | exact ClR_1 hf0 (clF_5 hq_1 q4 q5) (by decide) (by omega) (by omega) | exact ClR_1 hf0 (clF_6 hq_1 q4 q5 (dj1 hq_64 hq_67)) (by decide) (by omega) (by omega) | exact ClR_0 hf0 (clF_0 q4 q5 (dj0 hq_64 hq_67)) (by omega) (by omega) | (exfalso; omega))
          · intro hq_57
            refine Exists.intro [1, 2, 3, 4, 5, 6, 7, 8] (Exists.intro [q2 0] (Exists.intro (wB _ _ _ _ _ _ _ _ _ _ _ _) (And.intro rfl (And.intro rfl (And.intro rfl (And.intro ⟨⟨_, rfl⟩, rfl⟩ ?_))))))
            refine Exists.intro _ (Exists.intro _ (Exists.intro _ (Exists.intro _ (Exists.intro _ (Exists.intro _ (Exists.intro _ (Exists.intro _ (Exists.intro _ (Exists.intro _ (Exists.intro _ (Exists.intro _ (Exists.intro gD (And.intro rfl (And.intro rfl (And.intro (by first | assumption | exact q_rg_up (by assumption) (by omega) | exact q_rg_up (q_rg_up (by assumption) (by omega)) (by omega) | exact q_rg_cpy (by assumption) (by assumption) | omega) (And.intro (by first | exact par_lt hY.1 hY.2.2.2 q4 | (exfalso; omega)) (?_)))))))))))))))))
            intro zq_64 hq_64
            apply And.intro
            · intro hq_67
              exact hQ _ _ (by first | exact ClR_2 (by omega) (by omega) (by omega) | exact ClR_0 hf0 (clF_n hq_1) (by omega) (by omega) | exact ClR_1 hf0 (clF_4 hq_1 q4) (by decide) (by omega) (by omega) | exact ClR_1 hf0 (clF_5 hq_1 q4 q5) (by decide) (by omega) (by omega) | exact ClR_1 hf0 (clF_6 hq_1 q4 q5 (dj1 hq_64 hq_67)) (by decide) (by omega) (by omega) | exact ClR_0 hf0 (clF_0 q4 q5 (dj0 hq_64 hq_67)) (by omega) (by omega) | (exfalso; omega))
            · intro hq_67
              refine Exists.intro [0, 1, 9, 10, 11, 12, 13] (Exists.intro [q2 0, q1 _, q1 _] (Exists.intro ([.inr (6, [q2 1, q2 2, q2 3, q2 4, q2 5, q2 6, q1 _, q1 _, q1 _, q1 _, q1 _, q1 _, q1 _, q1 _, q1 _])]) (And.intro rfl (And.intro rfl (And.intro rfl (And.intro ⟨⟨_, rfl⟩, rfl⟩ ?_))))))
              refine Exists.intro _ (Exists.intro _ (Exists.intro _ (Exists.intro _ (Exists.intro _ (Exists.intro _ (Exists.intro _ (Exists.intro _ (Exists.intro _ (Exists.intro _ (Exists.intro _ (And.intro rfl (And.intro rfl (?_)))))))))))))
              intro x_rfa_77 x_rpl_77 hq_77
              exact hQ _ _ (by first | exact ClR_2 (by omega) (by omega) (by omega) | exact ClR_0 hf0 (clF_n hq_1) (by omega) (by omega) | exact ClR_1 hf0 (clF_4 hq_1 q4) (by decide) (by omega) (by omega) | exact ClR_1 hf0 (clF_5 hq_1 q4 q5) (by decide) (by omega) (by omega) | exact ClR_1 hf0 (clF_6 hq_1 q4 q5 (dj1 hq_64 hq_67)) (by decide) (by omega) (by omega) | exact ClR_0 hf0 (clF_0 q4 q5 (dj0 hq_64 hq_67)) (by omega) (by omega) | (exfalso; omega))
      · intro hq_17
        try have q4 := Classical.byContradiction (fun hq_9 => hq_17 ((np_e hY.2.1 hY.1.1.1 (by omega) hq_16).mpr hq_9))
        refine Exists.intro [0, 1, 9, 10, 11, 12, 13] (Exists.intro [q2 0, q1 _, q1 _] (Exists.intro ([.inr (6, [q2 1, q2 2, q2 3, q2 4, q2 5, q2 6, q1 _, q1 _, q1 _, q1 _, q1 _, q1 _, q1 _, q1 _, q1 _])]) (And.intro rfl (And.intro rfl (And.intro rfl (And.intro ⟨⟨_, rfl⟩, rfl⟩ ?_))))))
        refine Exists.intro _ (Exists.intro _ (Exists.intro _ (Exists.intro _ (Exists.intro _ (Exists.intro _ (Exists.intro _ (Exists.intro _ (Exists.intro _ (Exists.intro _ (Exists.intro _ (And.intro rfl (And.intro rfl (?_)))))))))))))
        intro x_rfa_26 x_rpl_26 hq_26
        intro zq_40 hq_40
        skip
        apply And.intro
        · intro hq_41
          try have q5 := (np_e hY.2.2.1 hY.1.1.2.2.2.1 (by omega) hq_40).mp hq_41
          apply And.intro
          · intro hq_57
            exact hQ _ _ (by first | exact ClR_2 (by omega) (by omega) (by omega) | exact ClR_0 hf0 (clF_n hq_1) (by omega) (by omega) | exact ClR_1 hf0 (clF_4 hq_1 q4) (by decide) (by omega) (by omega) | exact ClR_1 hf0 (clF_5 hq_1 q4 q5) (by decide) (by omega) (by omega) | exact ClR_1 hf0 (clF_6 hq_1 q4 q5 (dj1 hq_64 hq_67)) (by decide) (by omega) (by omega) | exact ClR_0 hf0 (clF_0 q4 q5 (dj0 hq_64 hq_67)) (by omega) (by omega) | (exfalso; omega))
          · intro hq_57
            refine Exists.intro [1, 2, 3, 4, 5, 6, 7, 8] (Exists.intro [q2 0] (Exists.intro (wB _ _ _ _ _ _ _ _ _ _ _ _) (And.intro rfl (And.intro rfl (And.intro rfl (And.intro ⟨⟨_, rfl⟩, rfl⟩ ?_))))))
            refine Exists.intro _ (Exists.intro _ (Exists.intro _ (Exists.intro _ (Exists.intro _ (Exists.intro _ (Exists.intro _ (Exists.intro _ (Exists.intro _ (Exists.intro _ (Exists.intro _ (Exists.intro _ (Exists.intro gD (And.intro rfl (And.intro rfl (And.intro (by first | assumption | exact q_rg_up (by assumption) (by omega) | exact q_rg_up (q_rg_up (by assumption) (by omega)) (by omega) | exact q_rg_cpy (by assumption) (by assumption) | omega) (And.intro (by first | exact par_lt hY.1 hY.2.2.2 q4 | (exfalso; omega)) (?_)))))))))))))))))
            intro zq_64 hq_64
            apply And.intro
            · intro hq_67
              exact hQ _ _ (by first | exact ClR_2 (by omega) (by omega) (by omega) | exact ClR_0 hf0 (clF_n hq_1) (by omega) (by omega) | exact ClR_1 hf0 (clF_4 hq_1 q4) (by decide) (by omega) (by omega) | exact ClR_1 hf0 (clF_5 hq_1 q4 q5) (by decide) (by omega) (by omega) | exact ClR_1 hf0 (clF_6 hq_1 q4 q5 (dj1 hq_64 hq_67)) (by decide) (by omega) (by omega) | exact ClR_0 hf0 (clF_0 q4 q5 (dj0 hq_64 hq_67)) (by omega) (by omega) | (exfalso; omega))
            · intro hq_67
              refine Exists.intro [0, 1, 9, 10, 11, 12, 13] (Exists.intro [q2 0, q1 _, q1 _] (Exists.intro ([.inr (6, [q2 1, q2 2, q2 3, q2 4, q2 5, q2 6, q1 _, q1 _, q1 _, q1 _, q1 _, q1 _, q1 _, q1 _, q1 _])]) (And.intro rfl (And.intro rfl (And.intro rfl (And.intro ⟨⟨_, rfl⟩, rfl⟩ ?_))))))
              refine Exists.intro _ (Exists.intro _ (Exists.intro _ (Exists.intro _ (Exists.intro _ (Exists.intro _ (Exists.intro _ (Exists.intro _ (Exists.intro _ (Exists.intro _ (Exists.intro _ (And.intro rfl (And.intro rfl (?_)))))))))))))
              intro x_rfa_77 x_rpl_77 hq_77
              exact hQ _ _ (by first | exact ClR_2 (by omega) (by omega) (by omega) | exact ClR_0 hf0 (clF_n hq_1) (by omega) (by omega) | exact ClR_1 hf0 (clF_4 hq_1 q4) (by decide) (by omega) (by omega) | exact ClR_1 hf0 (clF_5 hq_1 q4 q5) (by decide) (by omega) (by omega) | exact ClR_1 hf0 (clF_6 hq_1 q4 q5 (dj1 hq_64 hq_67)) (by decide) (by omega) (by omega) | exact ClR_0 hf0 (clF_0 q4 q5 (dj0 hq_64 hq_67)) (by omega) (by omega) | (exfalso; omega))
        · intro hq_41
          try have q5 := Classical.byContradiction (fun hq_9 => hq_41 ((np_e hY.2.2.1 hY.1.1.2.2.2.1 (by omega) hq_40).mpr hq_9))
          refine Exists.intro [0, 1, 9, 10, 11, 12, 13] (Exists.intro [q2 0, q1 _, q1 _] (Exists.intro ([.inr (6, [q2 1, q2 2, q2 3, q2 4, q2 5, q2 6, q1 _, q1 _, q1 _, q1 _, q1 _, q1 _, q1 _, q1 _, q1 _])]) (And.intro rfl (And.intro rfl (And.intro rfl (And.intro ⟨⟨_, rfl⟩, rfl⟩ ?_))))))
          refine Exists.intro _ (Exists.intro _ (Exists.intro _ (Exists.intro _ (Exists.intro _ (Exists.intro _ (Exists.intro _ (Exists.intro _ (Exists.intro _ (Exists.intro _ (Exists.intro _ (And.intro rfl (And.intro rfl (?_)))))))))))))
          intro x_rfa_50 x_rpl_50 hq_50
          apply And.intro
          · intro hq_57
            exact hQ _ _ (by first | exact ClR_2 (by omega) (by omega) (by omega) | exact ClR_0 hf0 (clF_n hq_1) (by omega) (by omega) | exact ClR_1 hf0 (clF_4 hq_1 q4) (by decide) (by omega) (by omega) | exact ClR_1 hf0 (clF_5 hq_1 q4 q5) (by decide) (by omega) (by omega) | exact ClR_1 hf0 (clF_6 hq_1 q4 q5 (dj1 hq_64 hq_67)) (by decide) (by omega) (by omega) | exact ClR_0 hf0 (clF_0 q4 q5 (dj0 hq_64 hq_67)) (by omega) (by omega) | (exfalso; omega))
          · intro hq_57
            refine Exists.intro [1, 2, 3, 4, 5, 6, 7, 8] (Exists.intro [q2 0] (Exists.intro (wB _ _ _ _ _ _ _ _ _ _ _ _) (And.intro rfl (And.intro rfl (And.intro rfl (And.intro ⟨⟨_, rfl⟩, rfl⟩ ?_))))))
            refine Exists.intro _ (Exists.intro _ (Exists.intro _ (Exists.intro _ (Exists.intro _ (Exists.intro _ (Exists.intro _ (Exists.intro _ (Exists.intro _ (Exists.intro _ (Exists.intro _ (Exists.intro _ (Exists.intro gD (And.intro rfl (And.intro rfl (And.intro (by first | assumption | exact q_rg_up (by assumption) (by omega) | exact q_rg_up (q_rg_up (by assumption) (by omega)) (by omega) | exact q_rg_cpy (by assumption) (by assumption) | omega) (And.intro (by first | exact par_lt hY.1 hY.2.2.2 q4 | (exfalso; omega)) (?_)))))))))))))))))
            intro zq_64 hq_64
            apply And.intro
            · intro hq_67
              exact hQ _ _ (by first | exact ClR_2 (by omega) (by omega) (by omega) | exact ClR_0 hf0 (clF_n hq_1) (by omega) (by omega) | exact ClR_1 hf0 (clF_4 hq_1 q4) (by decide) (by omega) (by omega) | exact ClR_1 hf0 (clF_5 hq_1 q4 q5) (by decide) (by omega) (by omega) | exact ClR_1 hf0 (clF_6 hq_1 q4 q5 (dj1 hq_64 hq_67)) (by decide) (by omega) (by omega) | exact ClR_0 hf0 (clF_0 q4 q5 (dj0 hq_64 hq_67)) (by omega) (by omega) | (exfalso; omega))
            · intro hq_67
              refine Exists.intro [0, 1, 9, 10, 11, 12, 13] (Exists.intro [q2 0, q1 _, q1 _] (Exists.intro ([.inr (6, [q2 1, q2 2, q2 3, q2 4, q2 5, q2 6, q1 _, q1 _, q1 _, q1 _, q1 _, q1 _, q1 _, q1 _, q1 _])]) (And.intro rfl (And.intro rfl (And.intro rfl (And.intro ⟨⟨_, rfl⟩, rfl⟩ ?_))))))
              refine Exists.intro _ (Exists.intro _ (Exists.intro _ (Exists.intro _ (Exists.intro _ (Exists.intro _ (Exists.intro _ (Exists.intro _ (Exists.intro _ (Exists.intro _ (Exists.intro _ (And.intro rfl (And.intro rfl (?_)))))))))))))
              intro x_rfa_77 x_rpl_77 hq_77
              exact hQ _ _ (by first | exact ClR_2 (by omega) (by omega) (by omega) | exact ClR_0 hf0 (clF_n hq_1) (by omega) (by omega) | exact ClR_1 hf0 (clF_4 hq_1 q4) (by decide) (by omega) (by omega) | exact ClR_1 hf0 (clF_5 hq_1 q4 q5) (by decide) (by omega) (by omega) | exact ClR_1 hf0 (clF_6 hq_1 q4 q5 (dj1 hq_64 hq_67)) (by decide) (by omega) (by omega) | exact ClR_0 hf0 (clF_0 q4 q5 (dj0 hq_64 hq_67)) (by omega) (by omega) | (exfalso; omega))
    · intro hq_1
      exact hQ _ _ (by first | exact ClR_2 (by omega) (by omega) (by omega) | exact ClR_0 hf0 (clF_n hq_1) (by omega) (by omega) | exact ClR_1 hf0 (clF_4 hq_1 q4) (by decide) (by omega) (by omega) | exact ClR_1 hf0 (clF_5 hq_1 q4 q5) (by decide) (by omega) (by omega) | exact ClR_1 hf0 (clF_6 hq_1 q4 q5 (dj1 hq_64 hq_67)) (by decide) (by omega) (by omega) | exact ClR_0 hf0 (clF_0 q4 q5 (dj0 hq_64 hq_67)) (by omega) (by omega) | (exfalso; omega))
  · apply And.intro
    · intro hq_1
      try have hY := hX hq_1
      intro zq_16 hq_16
      skip
      apply And.intro
      · intro hq_17
        try have q4 := (np_e hY.2.1 hY.1.1.1 (by omega) hq_16).mp hq_17
        intro zq_40 hq_40
        skip
        apply And.intro
        · intro hq_41
          try have q5 := (np_e hY.2.2.1 hY.1.1.2.2.2.1 (by omega) hq_40).mp hq_41
          apply And.intro
          · intro hq_57
            exact hQ _ _ (by first | exact ClR_2 (by omega) (by omega) (by omega) | exact ClR_0 hf0 (clF_n hq_1) (by omega) (by omega) | exact ClR_1 hf0 (clF_4 hq_1 q4) (by decide) (by omega) (by omega) | exact ClR_1 hf0 (clF_5 hq_1 q4 q5) (by decide) (by omega) (by omega) | exact ClR_1 hf0 (clF_6 hq_1 q4 q5 (dj1 hq_64 hq_67)) (by decide) (by omega) (by omega) | exact ClR_0 hf0 (clF_0 q4 q5 (dj0 hq_64 hq_67)) (by omega) (by omega) | (exfalso; omega))
          · intro hq_57
            refine Exists.intro [1, 2, 3, 4, 5, 6, 7, 8] (Exists.intro [q2 0] (Exists.intro (wB _ _ _ _ _ _ _ _ _ _ _ _) (And.intro rfl (And.intro rfl (And.intro rfl (And.intro ⟨⟨_, rfl⟩, rfl⟩ ?_))))))
            refine Exists.intro _ (Exists.intro _ (Exists.intro _ (Exists.intro _ (Exists.intro _ (Exists.intro _ (Exists.intro _ (Exists.intro _ (Exists.intro _ (Exists.intro _ (Exists.intro _ (Exists.intro _ (Exists.intro gD (And.intro rfl (And.intro rfl (And.intro (by first | assumption | exact q_rg_up (by assumption) (by omega) | exact q_rg_up (q_rg_up (by assumption) (by omega)) (by omega) | exact q_rg_cpy (by assumption) (by assumption) | omega) (And.intro (by first | exact par_lt hY.1 hY.2.2.2 q4 | (exfalso; omega)) (?_)))))))))))))))))
            intro zq_64 hq_64
            apply And.intro
            · intro hq_67
              exact hQ _ _ (by first | exact ClR_2 (by omega) (by omega) (by omega) | exact ClR_0 hf0 (clF_n hq_1) (by omega) (by omega) | exact ClR_1 hf0 (clF_4 hq_1 q4) (by decide) (by omega) (by omega) | exact ClR_1 hf0 (clF_5 hq_1 q4 q5) (by decide) (by omega) (by omega) | exact ClR_1 hf0 (clF_6 hq_1 q4 q5 (dj1 hq_64 hq_67)) (by decide) (by omega) (by omega) | exact ClR_0 hf0 (clF_0 q4 q5 (dj0 hq_64 hq_67)) (by omega) (by omega) | (exfalso; omega))
            · intro hq_67
              refine Exists.intro [0, 1, 9, 10, 11, 12, 13] (Exists.intro [q2 0, q1 _, q1 _] (Exists.intro ([.inr (6, [q2 1, q2 2, q2 3, q2 4, q2 5, q2 6, q1 _, q1 _, q1 _, q1 _, q1 _, q1 _, q1 _, q1 _, q1 _])]) (And.intro rfl (And.intro rfl (And.intro rfl (And.intro ⟨⟨_, rfl⟩, rfl⟩ ?_))))))
              refine Exists.intro _ (Exists.intro _ (Exists.intro _ (Exists.intro _ (Exists.intro _ (Exists.intro _ (Exists.intro _ (Exists.intro _ (Exists.intro _ (Exists.intro _ (Exists.intro _ (And.intro rfl (And.intro rfl (?_)))))))))))))
              intro x_rfa_77 x_rpl_77 hq_77
              exact hQ _ _ (by first | exact ClR_2 (by omega) (by omega) (by omega) | exact ClR_0 hf0 (clF_n hq_1) (by omega) (by omega) | exact ClR_1 hf0 (clF_4 hq_1 q4) (by decide) (by omega) (by omega) | exact ClR_1 hf0 (clF_5 hq_1 q4 q5) (by decide) (by omega) (by omega) | exact ClR_1 hf0 (clF_6 hq_1 q4 q5 (dj1 hq_64 hq_67)) (by decide) (by omega) (by omega) | exact ClR_0 hf0 (clF_0 q4 q5 (dj0 hq_64 hq_67)) (by omega) (by omega) | (exfalso; omega))
        · intro hq_41
          try have q5 := Classical.byContradiction (fun hq_9 => hq_41 ((np_e hY.2.2.1 hY.1.1.2.2.2.1 (by omega) hq_40).mpr hq_9))
          refine Exists.intro [0, 1, 9, 10, 11, 12, 13] (Exists.intro [q2 0, q1 _, q1 _] (Exists.intro ([.inr (6, [q2 1, q2 2, q2 3, q2 4, q2 5, q2 6, q1 _, q1 _, q1 _, q1 _, q1 _, q1 _, q1 _, q1 _, q1 _])]) (And.intro rfl (And.intro rfl (And.intro rfl (And.intro ⟨⟨_, rfl⟩, rfl⟩ ?_))))))
          refine Exists.intro _ (Exists.intro _ (Exists.intro _ (Exists.intro _ (Exists.intro _ (Exists.intro _ (Exists.intro _ (Exists.intro _ (Exists.intro _ (Exists.intro _ (Exists.intro _ (And.intro rfl (And.intro rfl (?_)))))))))))))
          intro x_rfa_50 x_rpl_50 hq_50
          apply And.intro
          · intro hq_57
            exact hQ _ _ (by first | exact ClR_2 (by omega) (by omega) (by omega) | exact ClR_0 hf0 (clF_n hq_1) (by omega) (by omega) | exact ClR_1 hf0 (clF_4 hq_1 q4) (by decide) (by omega) (by omega) | exact ClR_1 hf0 (clF_5 hq_1 q4 q5) (by decide) (by omega) (by omega) | exact ClR_1 hf0 (clF_6 hq_1 q4 q5 (dj1 hq_64 hq_67)) (by decide) (by omega) (by omega) | exact ClR_0 hf0 (clF_0 q4 q5 (dj0 hq_64 hq_67)) (by omega) (by omega) | (exfalso; omega))
          · intro hq_57
            refine Exists.intro [1, 2, 3, 4, 5, 6, 7, 8] (Exists.intro [q2 0] (Exists.intro (wB _ _ _ _ _ _ _ _ _ _ _ _) (And.intro rfl (And.intro rfl (And.intro rfl (And.intro ⟨⟨_, rfl⟩, rfl⟩ ?_))))))
            refine Exists.intro _ (Exists.intro _ (Exists.intro _ (Exists.intro _ (Exists.intro _ (Exists.intro _ (Exists.intro _ (Exists.intro _ (Exists.intro _ (Exists.intro _ (Exists.intro _ (Exists.intro _ (Exists.intro gD (And.intro rfl (And.intro rfl (And.intro (by first | assumption | exact q_rg_up (by assumption) (by omega) | exact q_rg_up (q_rg_up (by assumption) (by omega)) (by omega) | exact q_rg_cpy (by assumption) (by assumption) | omega) (And.intro (by first | exact par_lt hY.1 hY.2.2.2 q4 | (exfalso; omega)) (?_)))))))))))))))))
            intro zq_64 hq_64
            apply And.intro
            · intro hq_67
              exact hQ _ _ (by first | exact ClR_2 (by omega) (by omega) (by omega) | exact ClR_0 hf0 (clF_n hq_1) (by omega) (by omega) | exact ClR_1 hf0 (clF_4 hq_1 q4) (by decide) (by omega) (by omega) | exact ClR_1 hf0 (clF_5 hq_1 q4 q5) (by decide) (by omega) (by omega) | exact ClR_1 hf0 (clF_6 hq_1 q4 q5 (dj1 hq_64 hq_67)) (by decide) (by omega) (by omega) | exact ClR_0 hf0 (clF_0 q4 q5 (dj0 hq_64 hq_67)) (by omega) (by omega) | (exfalso; omega))
            · intro hq_67
              refine Exists.intro [0, 1, 9, 10, 11, 12, 13] (Exists.intro [q2 0, q1 _, q1 _] (Exists.intro ([.inr (6, [q2 1, q2 2, q2 3, q2 4, q2 5, q2 6, q1 _, q1 _, q1 _, q1 _, q1 _, q1 _, q1 _, q1 _, q1 _])]) (And.intro rfl (And.intro rfl (And.intro rfl (And.intro ⟨⟨_, rfl⟩, rfl⟩ ?_))))))
              refine Exists.intro _ (Exists.intro _ (Exists.intro _ (Exists.intro _ (Exists.intro _ (Exists.intro _ (Exists.intro _ (Exists.intro _ (Exists.intro _ (Exists.intro _ (Exists.intro _ (And.intro rfl (And.intro rfl (?_)))))))))))))
              intro x_rfa_77 x_rpl_77 hq_77
              exact hQ _ _ (by first | exact ClR_2 (by omega) (by omega) (by omega) | exact ClR_0 hf0 (clF_n hq_1) (by omega) (by omega) | exact ClR_1 hf0 (clF_4 hq_1 q4) (by decide) (by omega) (by omega) | exact ClR_1 hf0 (clF_5 hq_1 q4 q5) (by decide) (by omega) (by omega) | exact ClR_1 hf0 (clF_6 hq_1 q4 q5 (dj1 hq_64 hq_67)) (by decide) (by omega) (by omega) | exact ClR_0 hf0 (clF_0 q4 q5 (dj0 hq_64 hq_67)) (by omega) (by omega) | (exfalso; omega))
      · intro hq_17
        try have q4 := Classical.byContradiction (fun hq_9 => hq_17 ((np_e hY.2.1 hY.1.1.1 (by omega) hq_16).mpr hq_9))
        refine Exists.intro [0, 1, 9, 10, 11, 12, 13] (Exists.intro [q2 0, q1 _, q1 _] (Exists.intro ([.inr (6, [q2 1, q2 2, q2 3, q2 4, q2 5, q2 6, q1 _, q1 _, q1 _, q1 _, q1 _, q1 _, q1 _, q1 _, q1 _])]) (And.intro rfl (And.intro rfl (And.intro rfl (And.intro ⟨⟨_, rfl⟩, rfl⟩ ?_))))))
        refine Exists.intro _ (Exists.intro _ (Exists.intro _ (Exists.intro _ (Exists.intro _ (Exists.intro _ (Exists.intro _ (Exists.intro _ (Exists.intro _ (Exists.intro _ (Exists.intro _ (And.intro rfl (And.intro rfl (?_)))))))))))))
        intro x_rfa_26 x_rpl_26 hq_26
        intro zq_40 hq_40
        skip
        apply And.intro
        · intro hq_41
          try have q5 := (np_e hY.2.2.1 hY.1.1.2.2.2.1 (by omega) hq_40).mp hq_41
          apply And.intro
          · intro hq_57
            exact hQ _ _ (by first | exact ClR_2 (by omega) (by omega) (by omega) | exact ClR_0 hf0 (clF_n hq_1) (by omega) (by omega) | exact ClR_1 hf0 (clF_4 hq_1 q4) (by decide) (by omega) (by omega) | exact ClR_1 hf0 (clF_5 hq_1 q4 q5) (by decide) (by omega) (by omega) | exact ClR_1 hf0 (clF_6 hq_1 q4 q5 (dj1 hq_64 hq_67)) (by decide) (by omega) (by omega) | exact ClR_0 hf0 (clF_0 q4 q5 (dj0 hq_64 hq_67)) (by omega) (by omega) | (exfalso; omega))
          · intro hq_57
            refine Exists.intro [1, 2, 3, 4, 5, 6, 7, 8] (Exists.intro [q2 0] (Exists.intro (wB _ _ _ _ _ _ _ _ _ _ _ _) (And.intro rfl (And.intro rfl (And.intro rfl (And.intro ⟨⟨_, rfl⟩, rfl⟩ ?_))))))
            refine Exists.intro _ (Exists.intro _ (Exists.intro _ (Exists.intro _ (Exists.intro _ (Exists.intro _ (Exists.intro _ (Exists.intro _ (Exists.intro _ (Exists.intro _ (Exists.intro _ (Exists.intro _ (Exists.intro gD (And.intro rfl (And.intro rfl (And.intro (by first | assumption | exact q_rg_up (by assumption) (by omega) | exact q_rg_up (q_rg_up (by assumption) (by omega)) (by omega) | exact q_rg_cpy (by assumption) (by assumption) | omega) (And.intro (by first | exact par_lt hY.1 hY.2.2.2 q4 | (exfalso; omega)) (?_)))))))))))))))))
            intro zq_64 hq_64
            apply And.intro
            · intro hq_67
              exact hQ _ _ (by first | exact ClR_2 (by omega) (by omega) (by omega) | exact ClR_0 hf0 (clF_n hq_1) (by omega) (by omega) | exact ClR_1 hf0 (clF_4 hq_1 q4) (by decide) (by omega) (by omega) | exact ClR_1 hf0 (clF_5 hq_1 q4 q5) (by decide) (by omega) (by omega) | exact ClR_1 hf0 (clF_6 hq_1 q4 q5 (dj1 hq_64 hq_67)) (by decide) (by omega) (by omega) | exact ClR_0 hf0 (clF_0 q4 q5 (dj0 hq_64 hq_67)) (by omega) (by omega) | (exfalso; omega))
            · intro hq_67
              refine Exists.intro [0, 1, 9, 10, 11, 12, 13] (Exists.intro [q2 0, q1 _, q1 _] (Exists.intro ([.inr (6, [q2 1, q2 2, q2 3, q2 4, q2 5, q2 6, q1 _, q1 _, q1 _, q1 _, q1 _, q1 _, q1 _, q1 _, q1 _])]) (And.intro rfl (And.intro rfl (And.intro rfl (And.intro ⟨⟨_, rfl⟩, rfl⟩ ?_))))))
              refine Exists.intro _ (Exists.intro _ (Exists.intro _ (Exists.intro _ (Exists.intro _ (Exists.intro _ (Exists.intro _ (Exists.intro _ (Exists.intro _ (Exists.intro _ (Exists.intro _ (And.intro rfl (And.intro rfl (?_)))))))))))))
              intro x_rfa_77 x_rpl_77 hq_77
              exact hQ _ _ (by first | exact ClR_2 (by omega) (by omega) (by omega) | exact ClR_0 hf0 (clF_n hq_1) (by omega) (by omega) | exact ClR_1 hf0 (clF_4 hq_1 q4) (by decide) (by omega) (by omega) | exact ClR_1 hf0 (clF_5 hq_1 q4 q5) (by decide) (by omega) (by omega) | exact ClR_1 hf0 (clF_6 hq_1 q4 q5 (dj1 hq_64 hq_67)) (by decide) (by omega) (by omega) | exact ClR_0 hf0 (clF_0 q4 q5 (dj0 hq_64 hq_67)) (by omega) (by omega) | (exfalso; omega))
        · intro hq_41
          try have q5 := Classical.byContradiction (fun hq_9 => hq_41 ((np_e hY.2.2.1 hY.1.1.2.2.2.1 (by omega) hq_40).mpr hq_9))
          refine Exists.intro [0, 1, 9, 10, 11, 12, 13] (Exists.intro [q2 0, q1 _, q1 _] (Exists.intro ([.inr (6, [q2 1, q2 2, q2 3, q2 4, q2 5, q2 6, q1 _, q1 _, q1 _, q1 _, q1 _, q1 _, q1 _, q1 _, q1 _])]) (And.intro rfl (And.intro rfl (And.intro rfl (And.intro ⟨⟨_, rfl⟩, rfl⟩ ?_))))))
          refine Exists.intro _ (Exists.intro _ (Exists.intro _ (Exists.intro _ (Exists.intro _ (Exists.intro _ (Exists.intro _ (Exists.intro _ (Exists.intro _ (Exists.intro _ (Exists.intro _ (And.intro rfl (And.intro rfl (?_)))))))))))))
          intro x_rfa_50 x_rpl_50 hq_50
          apply And.intro
          · intro hq_57
            exact hQ _ _ (by first | exact ClR_2 (by omega) (by omega) (by omega) | exact ClR_0 hf0 (clF_n hq_1) (by omega) (by omega) | exact ClR_1 hf0 (clF_4 hq_1 q4) (by decide) (by omega) (by omega) | exact ClR_1 hf0 (clF_5 hq_1 q4 q5) (by decide) (by omega) (by omega) | exact ClR_1 hf0 (clF_6 hq_1 q4 q5 (dj1 hq_64 hq_67)) (by decide) (by omega) (by omega) | exact ClR_0 hf0 (clF_0 q4 q5 (dj0 hq_64 hq_67)) (by omega) (by omega) | (exfalso; omega))
          · intro hq_57
            refine Exists.intro [1, 2, 3, 4, 5, 6, 7, 8] (Exists.intro [q2 0] (Exists.intro (wB _ _ _ _ _ _ _ _ _ _ _ _) (And.intro rfl (And.intro rfl (And.intro rfl (And.intro ⟨⟨_, rfl⟩, rfl⟩ ?_))))))
            refine Exists.intro _ (Exists.intro _ (Exists.intro _ (Exists.intro _ (Exists.intro _ (Exists.intro _ (Exists.intro _ (Exists.intro _ (Exists.intro _ (Exists.intro _ (Exists.intro _ (Exists.intro _ (Exists.intro gD (And.intro rfl (And.intro rfl (And.intro (by first | assumption | exact q_rg_up (by assumption) (by omega) | exact q_rg_up (q_rg_up (by assumption) (by omega)) (by omega) | exact q_rg_cpy (by assumption) (by assumption) | omega) (And.intro (by first | exact par_lt hY.1 hY.2.2.2 q4 | (exfalso; omega)) (?_)))))))))))))))))
            intro zq_64 hq_64
            apply And.intro
            · intro hq_67
              exact hQ _ _ (by first | exact ClR_2 (by omega) (by omega) (by omega) | exact ClR_0 hf0 (clF_n hq_1) (by omega) (by omega) | exact ClR_1 hf0 (clF_4 hq_1 q4) (by decide) (by omega) (by omega) | exact ClR_1 hf0 (clF_5 hq_1 q4 q5) (by decide) (by omega) (by omega) | exact ClR_1 hf0 (clF_6 hq_1 q4 q5 (dj1 hq_64 hq_67)) (by decide) (by omega) (by omega) | exact ClR_0 hf0 (clF_0 q4 q5 (dj0 hq_64 hq_67)) (by omega) (by omega) | (exfalso; omega))
            · intro hq_67
              refine Exists.intro [0, 1, 9, 10, 11, 12, 13] (Exists.intro [q2 0, q1 _, q1 _] (Exists.intro ([.inr (6, [q2 1, q2 2, q2 3, q2 4, q2 5, q2 6, q1 _, q1 _, q1 _, q1 _, q1 _, q1 _, q1 _, q1 _, q1 _])]) (And.intro rfl (And.intro rfl (And.intro rfl (And.intro ⟨⟨_, rfl⟩, rfl⟩ ?_))))))
              refine Exists.intro _ (Exists.intro _ (Exists.intro _ (Exists.intro _ (Exists.intro _ (Exists.intro _ (Exists.intro _ (Exists.intro _ (Exists.intro _ (Exists.intro _ (Exists.intro _ (And.intro rfl (And.intro rfl (?_)))))))))))))
              intro x_rfa_77 x_rpl_77 hq_77
              exact hQ _ _ (by first | exact ClR_2 (by omega) (by omega) (by omega) | exact ClR_0 hf0 (clF_n hq_1) (by omega) (by omega) | exact ClR_1 hf0 (clF_4 hq_1 q4) (by decide) (by omega) (by omega) | exact ClR_1 hf0 (clF_5 hq_1 q4 q5) (by decide) (by omega) (by omega) | exact ClR_1 hf0 (clF_6 hq_1 q4 q5 (dj1 hq_64 hq_67)) (by decide) (by omega) (by omega) | exact ClR_0 hf0 (clF_0 q4 q5 (dj0 hq_64 hq_67)) (by omega) (by omega) | (exfalso; omega))
    · intro hq_1
      exact hQ _ _ (by first | exact ClR_2 (by omega) (by omega) (by omega) | exact ClR_0 hf0 (clF_n hq_1) (by omega) (by omega) | exact ClR_1 hf0 (clF_4 hq_1 q4) (by decide) (by omega) (by omega) | exact ClR_1 hf0 (clF_5 hq_1 q4 q5) (by decide) (by omega) (by omega) | exact ClR_1 hf0 (clF_6 hq_1 q4 q5 (dj1 hq_64 hq_67)) (by decide) (by omega) (by omega) | exact ClR_0 hf0 (clF_0 q4 q5 (dj0 hq_64 hq_67)) (by omega) (by omega) | (exfalso; omega))
