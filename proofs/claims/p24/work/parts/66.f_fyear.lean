/-! ===== keep ===== -/
def KpS (m : Nat) (td rd h : Nat → Int) (b : Nat) (v : Int) : Prop := (∀ i : Nat, (i : Int) < v → h (b + i) = rd i) ∧ ∀ j : Nat, (j < b ∨ b + m ≤ j) → h j = td j
theorem KpS_i {m b : Nat} {td rd : Nat → Int} : KpS m td rd td b 0 := ⟨fun i hi => by omega, fun _ _ => rfl⟩
theorem KpS_s {m b : Nat} {td rd h : Nat → Int} {v z i v2 : Int} (hk : KpS m td rd h b v) (hv : 0 ≤ v ∧ v < m) (hz : z = rd v.toNat) (hi : i = b + v) (e : v2 = v + 1) : KpS m td rd (q_up h i.toNat z) b v2 := ⟨kp_s1 hk.1 hv.1 hz hi e, kp_s2 hk.2 hv hi⟩
theorem KpS_0 {m k : Nat} {td rd g : Nat → Int} {v : Int} (h : KpS m td rd g (1 + k) v) : g 0 = td 0 := h.2 0 (Or.inl (by omega))
theorem KpR_f {m : Nat} {most : Int} {td rd : Nat → Int} (h : td 0 = most) : KpR m most td rd td := Or.inl ⟨h, rfl⟩
theorem KpR_e {m : Nat} {most v x : Int} {td rd g : Nat → Int} (h : KpS m td rd g (1 + m * (td 0).toNat) v) (hv : (m : Int) ≤ v) (hne : ¬ td 0 = most) (hx : x = td 0 + 1) : KpR m most td rd (q_up g 0 x) := by
  refine Or.inr ⟨hne, by rw [q_up_s]; exact hx, fun i hi => ?_⟩
  obtain ⟨b, hb⟩ : ∃ b : Nat, b = 1 + m * (td 0).toNat := ⟨_, rfl⟩
  rw [← hb] at h ⊢
  rw [q_up_n (by omega)]
  by_cases c : b ≤ i ∧ i < b + m
  · rw [if_pos c]
    have hq_1 := h.1 (i - b) (by omega)
    rw [show b + (i - b) = i by omega] at hq_1
    exact hq_1
  · rw [if_neg c]; exact h.2 i (by omega)
theorem KpS_1 {m b : Nat} {td rd g : Nat → Int} {v : Int} (h : KpS m td rd g b v) (hv : (m : Int) ≤ v) : ∀ i : Nat, (i : Int) < (m : Int) → g (b + i) = rd i := fun i hi => h.1 i (by omega)
theorem KpS_2 {m b : Nat} {td rd g : Nat → Int} {v : Int} (h : KpS m td rd g b v) : ∀ j : Nat, (j < b ∨ b + m ≤ j) → g j = td j := h.2
theorem Sg_1 {t : Nat → Int} {n p fa pl fp fd re be so va wo wr lf lp go mfp mfd : Int} {D td rd td' : Nat → Int} (h : SlM t n 16 p (ntF (fulP 16 D) 3 fa) (ntP (fulP 16 D) (tB t n p) fa pl) 2 re be so va wo lf lp go) (hz : slT 16 ((2 : Nat) : Int) = 0) (hk : KpR 2 10 td rd td') (hT : TdR (fa = 0) D fp fd td mfp mfd) (hb : 0 ≤ td 0) (r0 : rd 0 = lvs t n 16 p 0) (r1 : rd 1 = lvs t n 16 p 1) : LnM t n 16 p (ntF (fulP 16 D) 3 fa) (ntP (fulP 16 D) (tB t n p) fa pl) D fp fd 1 re be so va wo wr lf lp go td' mfp mfd := by
  refine LnM_1 (SlM_z h hz) (fun hq_9 => ?_)
  obtain ⟨e8, nf⟩ := ntF_0 (by decide) (lfa_m hq_9)
  obtain ⟨hD, dq_1, dq_2⟩ := hT e8
  refine ⟨kp_2 hk hD nf hb r0 r1, ?_, ?_⟩
  · rw [fpN_n (by decide)]; exact dq_1
  · rw [fdN_n (by decide)]; exact dq_2

theorem dF12_keep4_0 : decode cX12_keep 0 = .ok (.aload_n 0, 1) := by decide +kernel
theorem dF12_keep4_1 : decode cX12_keep 1 = .ok (.getfield 38, 3) := by decide +kernel
theorem dF12_keep4_4 : decode cX12_keep 4 = .ok (.iconst 0, 1) := by decide +kernel
theorem dF12_keep4_5 : decode cX12_keep 5 = .ok (.iaload, 1) := by decide +kernel
theorem dF12_keep4_6 : decode cX12_keep 6 = .ok (.istore_n 3, 1) := by decide +kernel
theorem dF12_keep4_7 : decode cX12_keep 7 = .ok (.iload_n 3, 1) := by decide +kernel
theorem dF12_keep4_8 : decode cX12_keep 8 = .ok (.iload_n 2, 1) := by decide +kernel
theorem dF12_keep4_9 : decode cX12_keep 9 = .ok (.if_icmp .ne 4, 3) := by decide +kernel
theorem dF12_keep4_12 : decode cX12_keep 12 = .ok (.return_, 1) := by decide +kernel
theorem dF12_keep4_13 : decode cX12_keep 13 = .ok (.iconst 0, 1) := by decide +kernel
theorem dF12_keep4_14 : decode cX12_keep 14 = .ok (.istore 4, 2) := by decide +kernel
theorem dF12_keep4_16 : decode cX12_keep 16 = .ok (.iload 4, 2) := by decide +kernel
theorem dF12_keep4_18 : decode cX12_keep 18 = .ok (.iload_n 1, 1) := by decide +kernel
theorem dF12_keep4_19 : decode cX12_keep 19 = .ok (.if_icmp .ge 29, 3) := by decide +kernel
theorem dF12_keep4_22 : decode cX12_keep 22 = .ok (.aload_n 0, 1) := by decide +kernel
theorem dF12_keep4_23 : decode cX12_keep 23 = .ok (.getfield 38, 3) := by decide +kernel
theorem dF12_keep4_26 : decode cX12_keep 26 = .ok (.iconst 1, 1) := by decide +kernel
theorem dF12_keep4_27 : decode cX12_keep 27 = .ok (.iload_n 1, 1) := by decide +kernel
theorem dF12_keep4_28 : decode cX12_keep 28 = .ok (.iload_n 3, 1) := by decide +kernel
theorem dF12_keep4_29 : decode cX12_keep 29 = .ok (.imul, 1) := by decide +kernel
theorem dF12_keep4_30 : decode cX12_keep 30 = .ok (.iadd, 1) := by decide +kernel
theorem dF12_keep4_31 : decode cX12_keep 31 = .ok (.iload 4, 2) := by decide +kernel
theorem dF12_keep4_33 : decode cX12_keep 33 = .ok (.iadd, 1) := by decide +kernel
theorem dF12_keep4_34 : decode cX12_keep 34 = .ok (.aload_n 0, 1) := by decide +kernel
theorem dF12_keep4_35 : decode cX12_keep 35 = .ok (.getfield 41, 3) := by decide +kernel
theorem dF12_keep4_38 : decode cX12_keep 38 = .ok (.iload 4, 2) := by decide +kernel
theorem dF12_keep4_40 : decode cX12_keep 40 = .ok (.iaload, 1) := by decide +kernel
theorem dF12_keep4_41 : decode cX12_keep 41 = .ok (.iastore, 1) := by decide +kernel
theorem dF12_keep4_42 : decode cX12_keep 42 = .ok (.iinc 4 1, 3) := by decide +kernel
theorem dF12_keep4_45 : decode cX12_keep 45 = .ok (.goto (-29), 3) := by decide +kernel
theorem dF12_keep4_48 : decode cX12_keep 48 = .ok (.aload_n 0, 1) := by decide +kernel
theorem dF12_keep4_49 : decode cX12_keep 49 = .ok (.getfield 38, 3) := by decide +kernel
theorem dF12_keep4_52 : decode cX12_keep 52 = .ok (.iconst 0, 1) := by decide +kernel
theorem dF12_keep4_53 : decode cX12_keep 53 = .ok (.dup2, 1) := by decide +kernel
theorem dF12_keep4_54 : decode cX12_keep 54 = .ok (.iaload, 1) := by decide +kernel
theorem dF12_keep4_55 : decode cX12_keep 55 = .ok (.iconst 1, 1) := by decide +kernel
theorem dF12_keep4_56 : decode cX12_keep 56 = .ok (.iadd, 1) := by decide +kernel
theorem dF12_keep4_57 : decode cX12_keep 57 = .ok (.iastore, 1) := by decide +kernel
theorem dF12_keep4_58 : decode cX12_keep 58 = .ok (.return_, 1) := by decide +kernel
def is_F12_keep4 : Nat → List Nat := fun d => if d = 16 then [0, 1, 3, 4] else []
set_option maxRecDepth 100000 in
def b_F12_keep4_55 (J : Nat → List qV → List qV → qW → Prop) (Q : qR) : qK := x_int 1 (x_iadd (x_iast (x_nw (x_vret Q))))
set_option maxRecDepth 100000 in
theorem s_F12_keep4_55 {p : Program} {l : Launch} {e : Env} {R : Room} {s : State} {m : MethodId} {args : Array Value} {below : List Frame} {meth : Method} {c : Code} {nW : Nat} {dC : Nat → ClassId} {dI : Nat → Nat → Nat} {k : Nat → ClassId} {g : Nat → Nat} {A : Nat → Prop} {J : Nat → List qV → List qV → qW → Prop} {Q : qR} (X : q_X p R s m args meth c cX12_keep 5 nW 0 0 RX12 none dC dI k g A) (hJ : ∀ d : Nat, q_Sd p l e R s m args below meth c 5 nW dC dI k g A (MQ below (q_post (dC, dI) k g nW Q A) args s 0 0 A) d (x_cut (is_F12_keep4 d) (J d))) : q_Sd p l e R s m args below meth c 5 nW dC dI k g A (MQ below (q_post (dC, dI) k g nW Q A) args s 0 0 A) 55 (b_F12_keep4_55 J Q) := by
  unfold b_F12_keep4_55
  refine s_iconst X ⟨by decide, by decide⟩ dF12_keep4_55 ?_
  refine s_iadd X dF12_keep4_56 ?_
  refine s_iast X dF12_keep4_57 ?_
  refine s_nw ?_
  exact s_vret X dF12_keep4_58
set_option maxRecDepth 100000 in
def b_F12_keep4_16 (J : Nat → List qV → List qV → qW → Prop) (Q : qR) : qK := x_iload 4 (x_iload 1 (x_icmp_ge (x_aload 0 (x_get 12 19 (x_int 0 (x_dup2 (x_iald (b_F12_keep4_55 J Q)))))) (x_aload 0 (x_get 12 19 (x_int 1 (x_iload 1 (x_iload 3 (x_imul (x_iadd (x_iload 4 (x_iadd (x_aload 0 (x_get 12 20 (x_iload 4 (x_iald (x_iast (x_nw (x_iinc 4 1 (x_cut [0, 1, 3, 4] (J 16))))))))))))))))))))
set_option maxRecDepth 100000 in
theorem s_F12_keep4_16 {p : Program} {l : Launch} {e : Env} {R : Room} {s : State} {m : MethodId} {args : Array Value} {below : List Frame} {meth : Method} {c : Code} {nW : Nat} {dC : Nat → ClassId} {dI : Nat → Nat → Nat} {k : Nat → ClassId} {g : Nat → Nat} {A : Nat → Prop} {J : Nat → List qV → List qV → qW → Prop} {Q : qR} (X : q_X p R s m args meth c cX12_keep 5 nW 0 0 RX12 none dC dI k g A) (hJ : ∀ d : Nat, q_Sd p l e R s m args below meth c 5 nW dC dI k g A (MQ below (q_post (dC, dI) k g nW Q A) args s 0 0 A) d (x_cut (is_F12_keep4 d) (J d))) : q_Sd p l e R s m args below meth c 5 nW dC dI k g A (MQ below (q_post (dC, dI) k g nW Q A) args s 0 0 A) 16 (b_F12_keep4_16 J Q) := by
  unfold b_F12_keep4_16
  refine s_iload X dF12_keep4_16 ?_
  refine s_iload_n X rfl dF12_keep4_18 ?_
  refine s_icmp_ge X (tgt := 48) dF12_keep4_19 (by decide) ?_ ?_
  · refine s_aload_n X rfl dF12_keep4_48 ?_
    refine s_get X (T := TX12) (C := RX12) (N := 45) tu_X12 rfl (by decide) tw_1016 dF12_keep4_49 ?_
    refine s_iconst X ⟨by decide, by decide⟩ dF12_keep4_52 ?_
    refine s_dup2 X dF12_keep4_53 ?_
    refine s_iald X dF12_keep4_54 ?_
    exact s_F12_keep4_55 X hJ
  · refine s_aload_n X rfl dF12_keep4_22 ?_
    refine s_get X (T := TX12) (C := RX12) (N := 45) tu_X12 rfl (by decide) tw_1016 dF12_keep4_23 ?_
    refine s_iconst X ⟨by decide, by decide⟩ dF12_keep4_26 ?_
    refine s_iload_n X rfl dF12_keep4_27 ?_
    refine s_iload_n X rfl dF12_keep4_28 ?_
    refine s_imul X dF12_keep4_29 ?_
    refine s_iadd X dF12_keep4_30 ?_
    refine s_iload X dF12_keep4_31 ?_
    refine s_iadd X dF12_keep4_33 ?_
    refine s_aload_n X rfl dF12_keep4_34 ?_
    refine s_get X (T := TX12) (C := RX12) (N := 45) tu_X12 rfl (by decide) tw_1017 dF12_keep4_35 ?_
    refine s_iload X dF12_keep4_38 ?_
    refine s_iald X dF12_keep4_40 ?_
    refine s_iast X dF12_keep4_41 ?_
    refine s_nw ?_
    refine s_iinc X (by decide) dF12_keep4_42 ?_
    refine s_goto X (tgt := 16) dF12_keep4_45 (by decide) ?_
    exact hJ 16
set_option maxRecDepth 100000 in
def b_F12_keep4_0 (J : Nat → List qV → List qV → qW → Prop) (Q : qR) : qK := x_aload 0 (x_get 12 19 (x_int 0 (x_iald (x_istore 3 (x_iload 3 (x_iload 2 (x_icmp_ne (x_int 0 (x_istore 4 (x_cut [0, 1, 3, 4] (J 16)))) (x_vret Q))))))))
set_option maxRecDepth 100000 in
theorem s_F12_keep4_0 {p : Program} {l : Launch} {e : Env} {R : Room} {s : State} {m : MethodId} {args : Array Value} {below : List Frame} {meth : Method} {c : Code} {nW : Nat} {dC : Nat → ClassId} {dI : Nat → Nat → Nat} {k : Nat → ClassId} {g : Nat → Nat} {A : Nat → Prop} {J : Nat → List qV → List qV → qW → Prop} {Q : qR} (X : q_X p R s m args meth c cX12_keep 5 nW 0 0 RX12 none dC dI k g A) (hJ : ∀ d : Nat, q_Sd p l e R s m args below meth c 5 nW dC dI k g A (MQ below (q_post (dC, dI) k g nW Q A) args s 0 0 A) d (x_cut (is_F12_keep4 d) (J d))) : q_Sd p l e R s m args below meth c 5 nW dC dI k g A (MQ below (q_post (dC, dI) k g nW Q A) args s 0 0 A) 0 (b_F12_keep4_0 J Q) := by
  unfold b_F12_keep4_0
  refine s_aload_n X rfl dF12_keep4_0 ?_
  refine s_get X (T := TX12) (C := RX12) (N := 45) tu_X12 rfl (by decide) tw_1016 dF12_keep4_1 ?_
  refine s_iconst X ⟨by decide, by decide⟩ dF12_keep4_4 ?_
  refine s_iald X dF12_keep4_5 ?_
  refine s_istore_n X rfl (by decide) dF12_keep4_6 ?_
  refine s_iload_n X rfl dF12_keep4_7 ?_
  refine s_iload_n X rfl dF12_keep4_8 ?_
  refine s_icmp_ne X (tgt := 13) dF12_keep4_9 (by decide) ?_ ?_
  · refine s_iconst X ⟨by decide, by decide⟩ dF12_keep4_13 ?_
    refine s_istore X (by decide) dF12_keep4_14 ?_
    exact hJ 16
  · exact s_vret X dF12_keep4_12

def sp_F12_keep4 : qS := fun av w Q => ∃ (mco : Int) (mre : Int) (mle : Int) (mbe : Int) (mso : Int) (mva : Int) (mwo : Int) (mwr : Int) (mlf : Int) (mlp : Int) (mfp : Int) (mfd : Int) (mgo : Int) (mbo : Int) (mpe : Int) (mye : Int) (mpr : Int) (mld : Int) (msi : Int) (mse : Int) (re : Nat → Int) (td : Nat → Int), av = [q2 0, q1 4, q1 40] ∧ w = [.inr (12, [q1 mco, q2 3, q2 4, q2 5, q2 6, q2 7, q2 8, q2 9, q2 10, q2 11, q1 mre, q1 mle, q1 mbe, q1 mso, q1 mva, q3 mwo, q1 mwr, q1 mlf, q1 mlp, q2 2, q2 1, q1 mfp, q1 mfd, q1 mgo, q1 mbo, q1 mpe, q1 mye, q2 12, q1 mpr, q2 13, q2 14, q2 15, q2 16, q1 mld, q2 17, q1 msi, q2 18, q2 19, q2 20, q2 21, q2 22, q1 mse, q2 23, q2 24, q2 25]), .inl (0, 4, .inl re), .inl (0, 161, .inl td)] ∧ (YT td 0) ∧ ((re 0 = 0 ∨ re 0 = 1) → 0 ≤ re 2 ∧ re 2 ≤ 3) ∧ (∀ (x_td : Nat → Int), (KpR 4 40 td re x_td ∧ YT x_td 0) → Q none ([.inr (12, [q1 mco, q2 3, q2 4, q2 5, q2 6, q2 7, q2 8, q2 9, q2 10, q2 11, q1 mre, q1 mle, q1 mbe, q1 mso, q1 mva, q3 mwo, q1 mwr, q1 mlf, q1 mlp, q2 2, q2 1, q1 mfp, q1 mfd, q1 mgo, q1 mbo, q1 mpe, q1 mye, q2 12, q1 mpr, q2 13, q2 14, q2 15, q2 16, q1 mld, q2 17, q1 msi, q2 18, q2 19, q2 20, q2 21, q2 22, q1 mse, q2 23, q2 24, q2 25]), .inl (0, 4, .inl re), .inl (0, 161, .inl x_td)]))
def I_F12_keep4 (mco : Int) (mre : Int) (mle : Int) (mbe : Int) (mso : Int) (mva : Int) (mwo : Int) (mwr : Int) (mlf : Int) (mlp : Int) (mfp : Int) (mfd : Int) (mgo : Int) (mbo : Int) (mpe : Int) (mye : Int) (mpr : Int) (mld : Int) (msi : Int) (mse : Int) (re : Nat → Int) (td : Nat → Int) : Nat → Nat → List qV → List qV → qW → Prop := fun dz mz vz sz wz => if dz = 16 then (∃ (y_td : Nat → Int) (v3 : Int) (v4 : Int), vz = [q2 0, q1 4, q1 v3, q1 v4] ∧ sz = [] ∧ wz = [.inr (12, [q1 mco, q2 3, q2 4, q2 5, q2 6, q2 7, q2 8, q2 9, q2 10, q2 11, q1 mre, q1 mle, q1 mbe, q1 mso, q1 mva, q3 mwo, q1 mwr, q1 mlf, q1 mlp, q2 2, q2 1, q1 mfp, q1 mfd, q1 mgo, q1 mbo, q1 mpe, q1 mye, q2 12, q1 mpr, q2 13, q2 14, q2 15, q2 16, q1 mld, q2 17, q1 msi, q2 18, q2 19, q2 20, q2 21, q2 22, q1 mse, q2 23, q2 24, q2 25]), .inl (0, 4, .inl re), .inl (0, 161, .inl y_td)] ∧ mz = (4 - v4).toNat ∧ (0 ≤ v4 ∧ v4 ≤ 4 ∧ v3 = td 0 ∧ 0 ≤ v3 ∧ v3 ≤ 39) ∧ (KpS 4 td re y_td (1 + 4 * (td 0).toNat) v4)) else False
set_option maxHeartbeats 4000000 in
set_option maxRecDepth 100000 in
theorem m_F12_keep4 (l : Launch) : q_M l yX12_keep cX12_keep 5 none 0 0 sp_F12_keep4 := by
  refine q_meth (by decide) (fun av w Q h => by obtain ⟨mco, mre, mle, mbe, mso, mva, mwo, mwr, mlf, mlp, mfp, mfd, mgo, mbo, mpe, mye, mpr, mld, msi, mse, re, td, rfl, rfl, hyt, hr, hQ⟩ := h; exact Nat.le_of_ble_eq_true rfl) ?_
  intro p e R s m args below meth c dC dI k g A av w Q hsp oka okw X
  obtain ⟨mco, mre, mle, mbe, mso, mva, mwo, mwr, mlf, mlp, mfp, mfd, mgo, mbo, mpe, mye, mpr, mld, msi, mse, re, td, rfl, rfl, hyt, hr, hQ⟩ := hsp
  refine s_mono (s_F12_keep4_0 X (J := fun dz vz sz wz => ∃ mz, I_F12_keep4 mco mre mle mbe mso mva mwo mwr mlf mlp mfp mfd mgo mbo mpe mye mpr mld msi mse re td dz mz vz sz wz) (q_loopn (I_F12_keep4 mco mre mle mbe mso mva mwo mwr mlf mlp mfp mfd mgo mbo mpe mye mpr mld msi mse re td) (fun dz J => if dz = 16 then b_F12_keep4_16 J Q else q_F) ?hs ?hv)) ?_
  case hs =>
    intro d J hJ
    by_cases hq_16 : d = 16
    · subst hq_16; exact s_F12_keep4_16 X hJ
    simp only [hq_16, if_false]
    exact s_F
  case hv =>
    intro dz mz vz sz wz hI okv oks okw hlen
    by_cases hq_16 : dz = 16
    · subst hq_16
      obtain ⟨y_td, v3, v4, rfl, rfl, rfl, hn, hp, hj9⟩ := hI
      have hb9 : 0 ≤ td 0 ∧ td 0 ≤ 40 := hyt.1
      apply And.intro
      · intro hq_19
        apply And.intro
        · exact ⟨by omega, by omega⟩
        intro zq_54 hq_54
        have b54 : zq_54 = td 0 := by rw [hq_54]; exact KpS_0 hj9
        intro zq_56 hq_56
        first | replace hq_56 := e_add hq_56 (by omega) | replace hq_56 := e_rng hq_56
        apply And.intro
        · exact ⟨by omega, by omega⟩
        exact hQ _ (by first | exact ⟨KpR_f (by omega), hyt⟩ | exact ⟨KpR_e hj9 (by omega) (by omega) (by omega), YT_fin hyt (by omega) (fun i hi => KpS_1 hj9 (by omega) i (by omega)) (KpS_2 hj9) hr (by omega)⟩)
      · intro hq_19
        intro zq_29 hq_29
        first | replace hq_29 := e_mul hq_29 (by omega) | replace hq_29 := e_rng hq_29
        intro zq_30 hq_30
        first | replace hq_30 := e_add hq_30 (by omega) | replace hq_30 := e_rng hq_30
        intro zq_33 hq_33
        first | replace hq_33 := e_add hq_33 (by omega) | replace hq_33 := e_rng hq_33
        apply And.intro
        · exact ⟨by omega, by omega⟩
        intro zq_40 hq_40
        apply And.intro
        · exact ⟨by omega, by omega⟩
        intro zq_42 hq_42
        first | replace hq_42 := e_add hq_42 (by omega) | replace hq_42 := e_rng hq_42
        exact ⟨_, ⟨_, _, _, rfl, rfl, rfl, rfl, (by first | omega | assumption | exact q_rg_up (by assumption) (by omega) | exact q_rg_up (q_rg_up (by assumption) (by omega)) (by omega) | exact q_rg_cpy (by assumption) (by assumption)), (by first | exact KpS_s hj9 (by omega) hq_40 (by omega) (by omega) | exact KpS_i)⟩, by omega⟩
    simp only [I_F12_keep4, hq_16, if_false] at hI
  rintro lv st w' ⟨rfl, rfl, rfl⟩
  have hb9 : 0 ≤ td 0 ∧ td 0 ≤ 40 := hyt.1
  apply And.intro
  · exact ⟨by omega, by omega⟩
  intro zq_5 hq_5
  have b5 : zq_5 = td 0 := hq_5
  have c5 := hb9
  apply And.intro
  · intro hq_9
    exact ⟨_, _, _, _, rfl, rfl, rfl, rfl, (by first | omega | assumption | exact q_rg_up (by assumption) (by omega) | exact q_rg_up (q_rg_up (by assumption) (by omega)) (by omega) | exact q_rg_cpy (by assumption) (by assumption)), (by first | exact KpS_s hj9 (by omega) hq_40 (by omega) (by omega) | exact KpS_i)⟩
  · intro hq_9
    exact hQ _ (by first | exact ⟨KpR_f (by omega), hyt⟩ | exact ⟨KpR_e hj9 (by omega) (by omega) (by omega), YT_fin hyt (by omega) (fun i hi => KpS_1 hj9 (by omega) i (by omega)) (KpS_2 hj9) hr (by omega)⟩)

theorem dF12_keep2_0 : decode cX12_keep 0 = .ok (.aload_n 0, 1) := by decide +kernel
theorem dF12_keep2_1 : decode cX12_keep 1 = .ok (.getfield 38, 3) := by decide +kernel
theorem dF12_keep2_4 : decode cX12_keep 4 = .ok (.iconst 0, 1) := by decide +kernel
theorem dF12_keep2_5 : decode cX12_keep 5 = .ok (.iaload, 1) := by decide +kernel
theorem dF12_keep2_6 : decode cX12_keep 6 = .ok (.istore_n 3, 1) := by decide +kernel
theorem dF12_keep2_7 : decode cX12_keep 7 = .ok (.iload_n 3, 1) := by decide +kernel
theorem dF12_keep2_8 : decode cX12_keep 8 = .ok (.iload_n 2, 1) := by decide +kernel
theorem dF12_keep2_9 : decode cX12_keep 9 = .ok (.if_icmp .ne 4, 3) := by decide +kernel
theorem dF12_keep2_12 : decode cX12_keep 12 = .ok (.return_, 1) := by decide +kernel
theorem dF12_keep2_13 : decode cX12_keep 13 = .ok (.iconst 0, 1) := by decide +kernel
theorem dF12_keep2_14 : decode cX12_keep 14 = .ok (.istore 4, 2) := by decide +kernel
theorem dF12_keep2_16 : decode cX12_keep 16 = .ok (.iload 4, 2) := by decide +kernel
theorem dF12_keep2_18 : decode cX12_keep 18 = .ok (.iload_n 1, 1) := by decide +kernel
theorem dF12_keep2_19 : decode cX12_keep 19 = .ok (.if_icmp .ge 29, 3) := by decide +kernel
theorem dF12_keep2_22 : decode cX12_keep 22 = .ok (.aload_n 0, 1) := by decide +kernel
theorem dF12_keep2_23 : decode cX12_keep 23 = .ok (.getfield 38, 3) := by decide +kernel
theorem dF12_keep2_26 : decode cX12_keep 26 = .ok (.iconst 1, 1) := by decide +kernel
theorem dF12_keep2_27 : decode cX12_keep 27 = .ok (.iload_n 1, 1) := by decide +kernel
theorem dF12_keep2_28 : decode cX12_keep 28 = .ok (.iload_n 3, 1) := by decide +kernel
theorem dF12_keep2_29 : decode cX12_keep 29 = .ok (.imul, 1) := by decide +kernel
theorem dF12_keep2_30 : decode cX12_keep 30 = .ok (.iadd, 1) := by decide +kernel
theorem dF12_keep2_31 : decode cX12_keep 31 = .ok (.iload 4, 2) := by decide +kernel
theorem dF12_keep2_33 : decode cX12_keep 33 = .ok (.iadd, 1) := by decide +kernel
theorem dF12_keep2_34 : decode cX12_keep 34 = .ok (.aload_n 0, 1) := by decide +kernel
theorem dF12_keep2_35 : decode cX12_keep 35 = .ok (.getfield 41, 3) := by decide +kernel
theorem dF12_keep2_38 : decode cX12_keep 38 = .ok (.iload 4, 2) := by decide +kernel
theorem dF12_keep2_40 : decode cX12_keep 40 = .ok (.iaload, 1) := by decide +kernel
theorem dF12_keep2_41 : decode cX12_keep 41 = .ok (.iastore, 1) := by decide +kernel
theorem dF12_keep2_42 : decode cX12_keep 42 = .ok (.iinc 4 1, 3) := by decide +kernel
theorem dF12_keep2_45 : decode cX12_keep 45 = .ok (.goto (-29), 3) := by decide +kernel
theorem dF12_keep2_48 : decode cX12_keep 48 = .ok (.aload_n 0, 1) := by decide +kernel
theorem dF12_keep2_49 : decode cX12_keep 49 = .ok (.getfield 38, 3) := by decide +kernel
theorem dF12_keep2_52 : decode cX12_keep 52 = .ok (.iconst 0, 1) := by decide +kernel
theorem dF12_keep2_53 : decode cX12_keep 53 = .ok (.dup2, 1) := by decide +kernel
theorem dF12_keep2_54 : decode cX12_keep 54 = .ok (.iaload, 1) := by decide +kernel
theorem dF12_keep2_55 : decode cX12_keep 55 = .ok (.iconst 1, 1) := by decide +kernel
theorem dF12_keep2_56 : decode cX12_keep 56 = .ok (.iadd, 1) := by decide +kernel
theorem dF12_keep2_57 : decode cX12_keep 57 = .ok (.iastore, 1) := by decide +kernel
theorem dF12_keep2_58 : decode cX12_keep 58 = .ok (.return_, 1) := by decide +kernel
def is_F12_keep2 : Nat → List Nat := fun d => if d = 16 then [0, 1, 3, 4] else []
set_option maxRecDepth 100000 in
def b_F12_keep2_55 (J : Nat → List qV → List qV → qW → Prop) (Q : qR) : qK := x_int 1 (x_iadd (x_iast (x_nw (x_vret Q))))
set_option maxRecDepth 100000 in
theorem s_F12_keep2_55 {p : Program} {l : Launch} {e : Env} {R : Room} {s : State} {m : MethodId} {args : Array Value} {below : List Frame} {meth : Method} {c : Code} {nW : Nat} {dC : Nat → ClassId} {dI : Nat → Nat → Nat} {k : Nat → ClassId} {g : Nat → Nat} {A : Nat → Prop} {J : Nat → List qV → List qV → qW → Prop} {Q : qR} (X : q_X p R s m args meth c cX12_keep 5 nW 0 0 RX12 none dC dI k g A) (hJ : ∀ d : Nat, q_Sd p l e R s m args below meth c 5 nW dC dI k g A (MQ below (q_post (dC, dI) k g nW Q A) args s 0 0 A) d (x_cut (is_F12_keep2 d) (J d))) : q_Sd p l e R s m args below meth c 5 nW dC dI k g A (MQ below (q_post (dC, dI) k g nW Q A) args s 0 0 A) 55 (b_F12_keep2_55 J Q) := by
  unfold b_F12_keep2_55
  refine s_iconst X ⟨by decide, by decide⟩ dF12_keep2_55 ?_
  refine s_iadd X dF12_keep2_56 ?_
  refine s_iast X dF12_keep2_57 ?_
  refine s_nw ?_
  exact s_vret X dF12_keep2_58
set_option maxRecDepth 100000 in
def b_F12_keep2_16 (J : Nat → List qV → List qV → qW → Prop) (Q : qR) : qK := x_iload 4 (x_iload 1 (x_icmp_ge (x_aload 0 (x_get 12 19 (x_int 0 (x_dup2 (x_iald (b_F12_keep2_55 J Q)))))) (x_aload 0 (x_get 12 19 (x_int 1 (x_iload 1 (x_iload 3 (x_imul (x_iadd (x_iload 4 (x_iadd (x_aload 0 (x_get 12 20 (x_iload 4 (x_iald (x_iast (x_nw (x_iinc 4 1 (x_cut [0, 1, 3, 4] (J 16))))))))))))))))))))
set_option maxRecDepth 100000 in
theorem s_F12_keep2_16 {p : Program} {l : Launch} {e : Env} {R : Room} {s : State} {m : MethodId} {args : Array Value} {below : List Frame} {meth : Method} {c : Code} {nW : Nat} {dC : Nat → ClassId} {dI : Nat → Nat → Nat} {k : Nat → ClassId} {g : Nat → Nat} {A : Nat → Prop} {J : Nat → List qV → List qV → qW → Prop} {Q : qR} (X : q_X p R s m args meth c cX12_keep 5 nW 0 0 RX12 none dC dI k g A) (hJ : ∀ d : Nat, q_Sd p l e R s m args below meth c 5 nW dC dI k g A (MQ below (q_post (dC, dI) k g nW Q A) args s 0 0 A) d (x_cut (is_F12_keep2 d) (J d))) : q_Sd p l e R s m args below meth c 5 nW dC dI k g A (MQ below (q_post (dC, dI) k g nW Q A) args s 0 0 A) 16 (b_F12_keep2_16 J Q) := by
  unfold b_F12_keep2_16
  refine s_iload X dF12_keep2_16 ?_
  refine s_iload_n X rfl dF12_keep2_18 ?_
  refine s_icmp_ge X (tgt := 48) dF12_keep2_19 (by decide) ?_ ?_
  · refine s_aload_n X rfl dF12_keep2_48 ?_
    refine s_get X (T := TX12) (C := RX12) (N := 45) tu_X12 rfl (by decide) tw_1016 dF12_keep2_49 ?_
    refine s_iconst X ⟨by decide, by decide⟩ dF12_keep2_52 ?_
    refine s_dup2 X dF12_keep2_53 ?_
    refine s_iald X dF12_keep2_54 ?_
    exact s_F12_keep2_55 X hJ
  · refine s_aload_n X rfl dF12_keep2_22 ?_
    refine s_get X (T := TX12) (C := RX12) (N := 45) tu_X12 rfl (by decide) tw_1016 dF12_keep2_23 ?_
    refine s_iconst X ⟨by decide, by decide⟩ dF12_keep2_26 ?_
    refine s_iload_n X rfl dF12_keep2_27 ?_
    refine s_iload_n X rfl dF12_keep2_28 ?_
    refine s_imul X dF12_keep2_29 ?_
    refine s_iadd X dF12_keep2_30 ?_
    refine s_iload X dF12_keep2_31 ?_
    refine s_iadd X dF12_keep2_33 ?_
    refine s_aload_n X rfl dF12_keep2_34 ?_
    refine s_get X (T := TX12) (C := RX12) (N := 45) tu_X12 rfl (by decide) tw_1017 dF12_keep2_35 ?_
    refine s_iload X dF12_keep2_38 ?_
    refine s_iald X dF12_keep2_40 ?_
    refine s_iast X dF12_keep2_41 ?_
    refine s_nw ?_
    refine s_iinc X (by decide) dF12_keep2_42 ?_
    refine s_goto X (tgt := 16) dF12_keep2_45 (by decide) ?_
    exact hJ 16
set_option maxRecDepth 100000 in
def b_F12_keep2_0 (J : Nat → List qV → List qV → qW → Prop) (Q : qR) : qK := x_aload 0 (x_get 12 19 (x_int 0 (x_iald (x_istore 3 (x_iload 3 (x_iload 2 (x_icmp_ne (x_int 0 (x_istore 4 (x_cut [0, 1, 3, 4] (J 16)))) (x_vret Q))))))))
set_option maxRecDepth 100000 in
theorem s_F12_keep2_0 {p : Program} {l : Launch} {e : Env} {R : Room} {s : State} {m : MethodId} {args : Array Value} {below : List Frame} {meth : Method} {c : Code} {nW : Nat} {dC : Nat → ClassId} {dI : Nat → Nat → Nat} {k : Nat → ClassId} {g : Nat → Nat} {A : Nat → Prop} {J : Nat → List qV → List qV → qW → Prop} {Q : qR} (X : q_X p R s m args meth c cX12_keep 5 nW 0 0 RX12 none dC dI k g A) (hJ : ∀ d : Nat, q_Sd p l e R s m args below meth c 5 nW dC dI k g A (MQ below (q_post (dC, dI) k g nW Q A) args s 0 0 A) d (x_cut (is_F12_keep2 d) (J d))) : q_Sd p l e R s m args below meth c 5 nW dC dI k g A (MQ below (q_post (dC, dI) k g nW Q A) args s 0 0 A) 0 (b_F12_keep2_0 J Q) := by
  unfold b_F12_keep2_0
  refine s_aload_n X rfl dF12_keep2_0 ?_
  refine s_get X (T := TX12) (C := RX12) (N := 45) tu_X12 rfl (by decide) tw_1016 dF12_keep2_1 ?_
  refine s_iconst X ⟨by decide, by decide⟩ dF12_keep2_4 ?_
  refine s_iald X dF12_keep2_5 ?_
  refine s_istore_n X rfl (by decide) dF12_keep2_6 ?_
  refine s_iload_n X rfl dF12_keep2_7 ?_
  refine s_iload_n X rfl dF12_keep2_8 ?_
  refine s_icmp_ne X (tgt := 13) dF12_keep2_9 (by decide) ?_ ?_
  · refine s_iconst X ⟨by decide, by decide⟩ dF12_keep2_13 ?_
    refine s_istore X (by decide) dF12_keep2_14 ?_
    exact hJ 16
  · exact s_vret X dF12_keep2_12

def sp_F12_keep2 : qS := fun av w Q => ∃ (mco : Int) (mre : Int) (mle : Int) (mbe : Int) (mso : Int) (mva : Int) (mwo : Int) (mwr : Int) (mlf : Int) (mlp : Int) (mfp : Int) (mfd : Int) (mgo : Int) (mbo : Int) (mpe : Int) (mye : Int) (mpr : Int) (mld : Int) (msi : Int) (mse : Int) (re : Nat → Int) (td : Nat → Int), av = [q2 0, q1 2, q1 10] ∧ w = [.inr (12, [q1 mco, q2 3, q2 4, q2 5, q2 6, q2 7, q2 8, q2 9, q2 10, q2 11, q1 mre, q1 mle, q1 mbe, q1 mso, q1 mva, q3 mwo, q1 mwr, q1 mlf, q1 mlp, q2 2, q2 1, q1 mfp, q1 mfd, q1 mgo, q1 mbo, q1 mpe, q1 mye, q2 12, q1 mpr, q2 13, q2 14, q2 15, q2 16, q1 mld, q2 17, q1 msi, q2 18, q2 19, q2 20, q2 21, q2 22, q1 mse, q2 23, q2 24, q2 25]), .inl (0, 4, .inl re), .inl (0, 161, .inl td)] ∧ (0 ≤ td 0 ∧ td 0 ≤ 10) ∧ (∀ (x_td : Nat → Int), (KpR 2 10 td re x_td ∧ (0 ≤ x_td 0 ∧ x_td 0 ≤ 10)) → Q none ([.inr (12, [q1 mco, q2 3, q2 4, q2 5, q2 6, q2 7, q2 8, q2 9, q2 10, q2 11, q1 mre, q1 mle, q1 mbe, q1 mso, q1 mva, q3 mwo, q1 mwr, q1 mlf, q1 mlp, q2 2, q2 1, q1 mfp, q1 mfd, q1 mgo, q1 mbo, q1 mpe, q1 mye, q2 12, q1 mpr, q2 13, q2 14, q2 15, q2 16, q1 mld, q2 17, q1 msi, q2 18, q2 19, q2 20, q2 21, q2 22, q1 mse, q2 23, q2 24, q2 25]), .inl (0, 4, .inl re), .inl (0, 161, .inl x_td)]))
def I_F12_keep2 (mco : Int) (mre : Int) (mle : Int) (mbe : Int) (mso : Int) (mva : Int) (mwo : Int) (mwr : Int) (mlf : Int) (mlp : Int) (mfp : Int) (mfd : Int) (mgo : Int) (mbo : Int) (mpe : Int) (mye : Int) (mpr : Int) (mld : Int) (msi : Int) (mse : Int) (re : Nat → Int) (td : Nat → Int) : Nat → Nat → List qV → List qV → qW → Prop := fun dz mz vz sz wz => if dz = 16 then (∃ (y_td : Nat → Int) (v3 : Int) (v4 : Int), vz = [q2 0, q1 2, q1 v3, q1 v4] ∧ sz = [] ∧ wz = [.inr (12, [q1 mco, q2 3, q2 4, q2 5, q2 6, q2 7, q2 8, q2 9, q2 10, q2 11, q1 mre, q1 mle, q1 mbe, q1 mso, q1 mva, q3 mwo, q1 mwr, q1 mlf, q1 mlp, q2 2, q2 1, q1 mfp, q1 mfd, q1 mgo, q1 mbo, q1 mpe, q1 mye, q2 12, q1 mpr, q2 13, q2 14, q2 15, q2 16, q1 mld, q2 17, q1 msi, q2 18, q2 19, q2 20, q2 21, q2 22, q1 mse, q2 23, q2 24, q2 25]), .inl (0, 4, .inl re), .inl (0, 161, .inl y_td)] ∧ mz = (2 - v4).toNat ∧ (0 ≤ v4 ∧ v4 ≤ 2 ∧ v3 = td 0 ∧ 0 ≤ v3 ∧ v3 ≤ 9) ∧ (KpS 2 td re y_td (1 + 2 * (td 0).toNat) v4)) else False
set_option maxHeartbeats 4000000 in
set_option maxRecDepth 100000 in
theorem m_F12_keep2 (l : Launch) : q_M l yX12_keep cX12_keep 5 none 0 0 sp_F12_keep2 := by
  refine q_meth (by decide) (fun av w Q h => by obtain ⟨mco, mre, mle, mbe, mso, mva, mwo, mwr, mlf, mlp, mfp, mfd, mgo, mbo, mpe, mye, mpr, mld, msi, mse, re, td, rfl, rfl, hst, hQ⟩ := h; exact Nat.le_of_ble_eq_true rfl) ?_
  intro p e R s m args below meth c dC dI k g A av w Q hsp oka okw X
  obtain ⟨mco, mre, mle, mbe, mso, mva, mwo, mwr, mlf, mlp, mfp, mfd, mgo, mbo, mpe, mye, mpr, mld, msi, mse, re, td, rfl, rfl, hst, hQ⟩ := hsp
  refine s_mono (s_F12_keep2_0 X (J := fun dz vz sz wz => ∃ mz, I_F12_keep2 mco mre mle mbe mso mva mwo mwr mlf mlp mfp mfd mgo mbo mpe mye mpr mld msi mse re td dz mz vz sz wz) (q_loopn (I_F12_keep2 mco mre mle mbe mso mva mwo mwr mlf mlp mfp mfd mgo mbo mpe mye mpr mld msi mse re td) (fun dz J => if dz = 16 then b_F12_keep2_16 J Q else q_F) ?hs ?hv)) ?_
  case hs =>
    intro d J hJ
    by_cases hq_16 : d = 16
    · subst hq_16; exact s_F12_keep2_16 X hJ
    simp only [hq_16, if_false]
    exact s_F
  case hv =>
    intro dz mz vz sz wz hI okv oks okw hlen
    by_cases hq_16 : dz = 16
    · subst hq_16
      obtain ⟨y_td, v3, v4, rfl, rfl, rfl, hn, hp, hj9⟩ := hI
      have hb9 : 0 ≤ td 0 ∧ td 0 ≤ 10 := hst
      apply And.intro
      · intro hq_19
        apply And.intro
        · exact ⟨by omega, by omega⟩
        intro zq_54 hq_54
        have b54 : zq_54 = td 0 := by rw [hq_54]; exact KpS_0 hj9
        intro zq_56 hq_56
        first | replace hq_56 := e_add hq_56 (by omega) | replace hq_56 := e_rng hq_56
        apply And.intro
        · exact ⟨by omega, by omega⟩
        exact hQ _ (by first | exact ⟨KpR_f (by omega), hst⟩ | exact ⟨KpR_e hj9 (by omega) (by omega) (by omega), (by rw [show ∀ (f : Nat → Int) (v : Int), q_up f (0 : Int).toNat v 0 = v from fun f v => q_up_s]; omega)⟩)
      · intro hq_19
        intro zq_29 hq_29
        first | replace hq_29 := e_mul hq_29 (by omega) | replace hq_29 := e_rng hq_29
        intro zq_30 hq_30
        first | replace hq_30 := e_add hq_30 (by omega) | replace hq_30 := e_rng hq_30
        intro zq_33 hq_33
        first | replace hq_33 := e_add hq_33 (by omega) | replace hq_33 := e_rng hq_33
        apply And.intro
        · exact ⟨by omega, by omega⟩
        intro zq_40 hq_40
        apply And.intro
        · exact ⟨by omega, by omega⟩
        intro zq_42 hq_42
        first | replace hq_42 := e_add hq_42 (by omega) | replace hq_42 := e_rng hq_42
        exact ⟨_, ⟨_, _, _, rfl, rfl, rfl, rfl, (by first | omega | assumption | exact q_rg_up (by assumption) (by omega) | exact q_rg_up (q_rg_up (by assumption) (by omega)) (by omega) | exact q_rg_cpy (by assumption) (by assumption)), (by first | exact KpS_s hj9 (by omega) hq_40 (by omega) (by omega) | exact KpS_i)⟩, by omega⟩
    simp only [I_F12_keep2, hq_16, if_false] at hI
  rintro lv st w' ⟨rfl, rfl, rfl⟩
  have hb9 : 0 ≤ td 0 ∧ td 0 ≤ 10 := hst
  apply And.intro
  · exact ⟨by omega, by omega⟩
  intro zq_5 hq_5
  have b5 : zq_5 = td 0 := hq_5
  have c5 := hb9
  apply And.intro
  · intro hq_9
    exact ⟨_, _, _, _, rfl, rfl, rfl, rfl, (by first | omega | assumption | exact q_rg_up (by assumption) (by omega) | exact q_rg_up (q_rg_up (by assumption) (by omega)) (by omega) | exact q_rg_cpy (by assumption) (by assumption)), (by first | exact KpS_s hj9 (by omega) hq_40 (by omega) (by omega) | exact KpS_i)⟩
  · intro hq_9
    exact hQ _ (by first | exact ⟨KpR_f (by omega), hst⟩ | exact ⟨KpR_e hj9 (by omega) (by omega) (by omega), (by rw [show ∀ (f : Nat → Int) (v : Int), q_up f (0 : Int).toNat v 0 = v from fun f v => q_up_s]; omega)⟩)

theorem dF12_deedBy_0 : decode cX12_deedBy 0 = .ok (.lload_n 0, 1) := by decide +kernel
theorem dF12_deedBy_1 : decode cX12_deedBy 1 = .ok (.ldc2_w 230, 3) := by decide +kernel
theorem dF12_deedBy_4 : decode cX12_deedBy 4 = .ok (.lcmp, 1) := by decide +kernel
theorem dF12_deedBy_5 : decode cX12_deedBy 5 = .ok (.ifCond .ne 7, 3) := by decide +kernel
theorem dF12_deedBy_8 : decode cX12_deedBy 8 = .ok (.iconst 0, 1) := by decide +kernel
theorem dF12_deedBy_9 : decode cX12_deedBy 9 = .ok (.goto 52, 3) := by decide +kernel
theorem dF12_deedBy_12 : decode cX12_deedBy 12 = .ok (.lload_n 0, 1) := by decide +kernel
theorem dF12_deedBy_13 : decode cX12_deedBy 13 = .ok (.ldc2_w 232, 3) := by decide +kernel
theorem dF12_deedBy_16 : decode cX12_deedBy 16 = .ok (.lcmp, 1) := by decide +kernel
theorem dF12_deedBy_17 : decode cX12_deedBy 17 = .ok (.ifCond .ne 7, 3) := by decide +kernel
theorem dF12_deedBy_20 : decode cX12_deedBy 20 = .ok (.iconst 1, 1) := by decide +kernel
theorem dF12_deedBy_21 : decode cX12_deedBy 21 = .ok (.goto 40, 3) := by decide +kernel
theorem dF12_deedBy_24 : decode cX12_deedBy 24 = .ok (.lload_n 0, 1) := by decide +kernel
theorem dF12_deedBy_25 : decode cX12_deedBy 25 = .ok (.ldc2_w 234, 3) := by decide +kernel
theorem dF12_deedBy_28 : decode cX12_deedBy 28 = .ok (.lcmp, 1) := by decide +kernel
theorem dF12_deedBy_29 : decode cX12_deedBy 29 = .ok (.ifCond .ne 7, 3) := by decide +kernel
theorem dF12_deedBy_32 : decode cX12_deedBy 32 = .ok (.iconst 2, 1) := by decide +kernel
theorem dF12_deedBy_33 : decode cX12_deedBy 33 = .ok (.goto 28, 3) := by decide +kernel
theorem dF12_deedBy_36 : decode cX12_deedBy 36 = .ok (.lload_n 0, 1) := by decide +kernel
theorem dF12_deedBy_37 : decode cX12_deedBy 37 = .ok (.ldc2_w 236, 3) := by decide +kernel
theorem dF12_deedBy_40 : decode cX12_deedBy 40 = .ok (.lcmp, 1) := by decide +kernel
theorem dF12_deedBy_41 : decode cX12_deedBy 41 = .ok (.ifCond .ne 7, 3) := by decide +kernel
theorem dF12_deedBy_44 : decode cX12_deedBy 44 = .ok (.iconst 3, 1) := by decide +kernel
theorem dF12_deedBy_45 : decode cX12_deedBy 45 = .ok (.goto 16, 3) := by decide +kernel
theorem dF12_deedBy_48 : decode cX12_deedBy 48 = .ok (.lload_n 0, 1) := by decide +kernel
theorem dF12_deedBy_49 : decode cX12_deedBy 49 = .ok (.ldc2_w 238, 3) := by decide +kernel
theorem dF12_deedBy_52 : decode cX12_deedBy 52 = .ok (.lcmp, 1) := by decide +kernel
theorem dF12_deedBy_53 : decode cX12_deedBy 53 = .ok (.ifCond .ne 7, 3) := by decide +kernel
theorem dF12_deedBy_56 : decode cX12_deedBy 56 = .ok (.iconst 4, 1) := by decide +kernel
theorem dF12_deedBy_57 : decode cX12_deedBy 57 = .ok (.goto 4, 3) := by decide +kernel
theorem dF12_deedBy_60 : decode cX12_deedBy 60 = .ok (.iconst (-1), 1) := by decide +kernel
theorem dF12_deedBy_61 : decode cX12_deedBy 61 = .ok (.ireturn, 1) := by decide +kernel
def is_F12_deedBy : Nat → List Nat := fun d => []
set_option maxRecDepth 100000 in
def b_F12_deedBy_61 (J : Nat → List qV → List qV → qW → Prop) (Q : qR) : qK := x_iret Q
set_option maxRecDepth 100000 in
theorem s_F12_deedBy_61 {p : Program} {l : Launch} {e : Env} {R : Room} {s : State} {m : MethodId} {args : Array Value} {below : List Frame} {meth : Method} {c : Code} {nW : Nat} {dC : Nat → ClassId} {dI : Nat → Nat → Nat} {k : Nat → ClassId} {g : Nat → Nat} {A : Nat → Prop} {J : Nat → List qV → List qV → qW → Prop} {Q : qR} (X : q_X p R s m args meth c cX12_deedBy 2 nW 0 0 RX12 (some .int) dC dI k g A) (hJ : ∀ d : Nat, q_Sd p l e R s m args below meth c 2 nW dC dI k g A (MQ below (q_post (dC, dI) k g nW Q A) args s 0 0 A) d (x_cut (is_F12_deedBy d) (J d))) : q_Sd p l e R s m args below meth c 2 nW dC dI k g A (MQ below (q_post (dC, dI) k g nW Q A) args s 0 0 A) 61 (b_F12_deedBy_61 J Q) := by
  unfold b_F12_deedBy_61
  exact s_iret X dF12_deedBy_61
set_option maxRecDepth 100000 in
def b_F12_deedBy_48 (J : Nat → List qV → List qV → qW → Prop) (Q : qR) : qK := x_lload 0 (x_lng 1734960756 (x_lcmp (x_if_ne (x_int (-1) (b_F12_deedBy_61 J Q)) (x_int 4 (b_F12_deedBy_61 J Q)))))
set_option maxRecDepth 100000 in
theorem s_F12_deedBy_48 {p : Program} {l : Launch} {e : Env} {R : Room} {s : State} {m : MethodId} {args : Array Value} {below : List Frame} {meth : Method} {c : Code} {nW : Nat} {dC : Nat → ClassId} {dI : Nat → Nat → Nat} {k : Nat → ClassId} {g : Nat → Nat} {A : Nat → Prop} {J : Nat → List qV → List qV → qW → Prop} {Q : qR} (X : q_X p R s m args meth c cX12_deedBy 2 nW 0 0 RX12 (some .int) dC dI k g A) (hJ : ∀ d : Nat, q_Sd p l e R s m args below meth c 2 nW dC dI k g A (MQ below (q_post (dC, dI) k g nW Q A) args s 0 0 A) d (x_cut (is_F12_deedBy d) (J d))) : q_Sd p l e R s m args below meth c 2 nW dC dI k g A (MQ below (q_post (dC, dI) k g nW Q A) args s 0 0 A) 48 (b_F12_deedBy_48 J Q) := by
  unfold b_F12_deedBy_48
  refine s_lload_n X rfl dF12_deedBy_48 ?_
  refine s_ldc2 X ⟨by decide, by decide⟩ tw_1153 dF12_deedBy_49 ?_
  refine s_lcmp X dF12_deedBy_52 ?_
  refine s_if_ne X (tgt := 60) dF12_deedBy_53 (by decide) ?_ ?_
  · refine s_iconst X ⟨by decide, by decide⟩ dF12_deedBy_60 ?_
    exact s_F12_deedBy_61 X hJ
  · refine s_iconst X ⟨by decide, by decide⟩ dF12_deedBy_56 ?_
    refine s_goto X (tgt := 61) dF12_deedBy_57 (by decide) ?_
    exact s_F12_deedBy_61 X hJ
set_option maxRecDepth 100000 in
def b_F12_deedBy_0 (J : Nat → List qV → List qV → qW → Prop) (Q : qR) : qK := x_lload 0 (x_lng 1718185573 (x_lcmp (x_if_ne (x_lload 0 (x_lng 1650551148 (x_lcmp (x_if_ne (x_lload 0 (x_lng 1734964837 (x_lcmp (x_if_ne (x_lload 0 (x_lng 32497656998945640 (x_lcmp (x_if_ne (b_F12_deedBy_48 J Q) (x_int 3 (b_F12_deedBy_61 J Q)))))) (x_int 2 (b_F12_deedBy_61 J Q)))))) (x_int 1 (b_F12_deedBy_61 J Q)))))) (x_int 0 (b_F12_deedBy_61 J Q)))))
set_option maxRecDepth 100000 in
theorem s_F12_deedBy_0 {p : Program} {l : Launch} {e : Env} {R : Room} {s : State} {m : MethodId} {args : Array Value} {below : List Frame} {meth : Method} {c : Code} {nW : Nat} {dC : Nat → ClassId} {dI : Nat → Nat → Nat} {k : Nat → ClassId} {g : Nat → Nat} {A : Nat → Prop} {J : Nat → List qV → List qV → qW → Prop} {Q : qR} (X : q_X p R s m args meth c cX12_deedBy 2 nW 0 0 RX12 (some .int) dC dI k g A) (hJ : ∀ d : Nat, q_Sd p l e R s m args below meth c 2 nW dC dI k g A (MQ below (q_post (dC, dI) k g nW Q A) args s 0 0 A) d (x_cut (is_F12_deedBy d) (J d))) : q_Sd p l e R s m args below meth c 2 nW dC dI k g A (MQ below (q_post (dC, dI) k g nW Q A) args s 0 0 A) 0 (b_F12_deedBy_0 J Q) := by
  unfold b_F12_deedBy_0
  refine s_lload_n X rfl dF12_deedBy_0 ?_
  refine s_ldc2 X ⟨by decide, by decide⟩ tw_1149 dF12_deedBy_1 ?_
  refine s_lcmp X dF12_deedBy_4 ?_
  refine s_if_ne X (tgt := 12) dF12_deedBy_5 (by decide) ?_ ?_
  · refine s_lload_n X rfl dF12_deedBy_12 ?_
    refine s_ldc2 X ⟨by decide, by decide⟩ tw_1150 dF12_deedBy_13 ?_
    refine s_lcmp X dF12_deedBy_16 ?_
    refine s_if_ne X (tgt := 24) dF12_deedBy_17 (by decide) ?_ ?_
    · refine s_lload_n X rfl dF12_deedBy_24 ?_
      refine s_ldc2 X ⟨by decide, by decide⟩ tw_1151 dF12_deedBy_25 ?_
      refine s_lcmp X dF12_deedBy_28 ?_
      refine s_if_ne X (tgt := 36) dF12_deedBy_29 (by decide) ?_ ?_
      · refine s_lload_n X rfl dF12_deedBy_36 ?_
        refine s_ldc2 X ⟨by decide, by decide⟩ tw_1152 dF12_deedBy_37 ?_
        refine s_lcmp X dF12_deedBy_40 ?_
        refine s_if_ne X (tgt := 48) dF12_deedBy_41 (by decide) ?_ ?_
        · exact s_F12_deedBy_48 X hJ
        · refine s_iconst X ⟨by decide, by decide⟩ dF12_deedBy_44 ?_
          refine s_goto X (tgt := 61) dF12_deedBy_45 (by decide) ?_
          exact s_F12_deedBy_61 X hJ
      · refine s_iconst X ⟨by decide, by decide⟩ dF12_deedBy_32 ?_
        refine s_goto X (tgt := 61) dF12_deedBy_33 (by decide) ?_
        exact s_F12_deedBy_61 X hJ
    · refine s_iconst X ⟨by decide, by decide⟩ dF12_deedBy_20 ?_
      refine s_goto X (tgt := 61) dF12_deedBy_21 (by decide) ?_
      exact s_F12_deedBy_61 X hJ
  · refine s_iconst X ⟨by decide, by decide⟩ dF12_deedBy_8 ?_
    refine s_goto X (tgt := 61) dF12_deedBy_9 (by decide) ?_
    exact s_F12_deedBy_61 X hJ

def spr_F12_deedBy : List qV → qW → (Option qV → Prop) → Prop := fun av w Q => ∃ (ww : Int) (gt : Nat → Int) (gn : Int) (gp : Int) (gw : Int), av = [q3 ww] ∧ w = [] ∧ (ww = woT gt gn gp) ∧ (gp ≤ gn) ∧ (gw = liW gt gn gp 1) ∧ (∀ (r : Int) , (gw = -1 ∧ r = -1 ∨ (9 ≤ gw ∧ gw ≤ 13) ∧ r = gw - 9) → Q (some (q1 r)))
def sp_F12_deedBy : qS := fun av w Q => spr_F12_deedBy av w (fun r => Q r w)
set_option maxHeartbeats 4000000 in
set_option maxRecDepth 100000 in
theorem m_F12_deedBy (l : Launch) : q_M l yX12_deedBy cX12_deedBy 2 (some .int) 0 0 sp_F12_deedBy := by
  refine q_meth (by decide) (fun av w Q h => by obtain ⟨ww, gt, gn, gp, gw, rfl, rfl, hww, hgp2, hgw, hQ⟩ := h; exact Nat.le_of_ble_eq_true rfl) ?_
  intro p e R s m args below meth c dC dI k g A av w Q hsp oka okw X
  obtain ⟨ww, gt, gn, gp, gw, rfl, rfl, hww, hgp2, hgw, hQ⟩ := hsp
  refine s_mono (s_F12_deedBy_0 X (J := fun _ _ _ _ => False) (fun d => s_cutF)) ?_
  rintro lv st w' ⟨rfl, rfl, rfl⟩
  have rw9 := li_r1 hgw
  intro zq_4 hq_4
  replace hq_4 := wb_1 (i := 9) hww hgp2 hgw (by decide) (by decide) hq_4
  apply And.intro
  · intro hq_5
    replace hq_4 := wb0 hq_4 hq_5
    intro zq_16 hq_16
    replace hq_16 := wb_1 (i := 10) hww hgp2 hgw (by decide) (by decide) hq_16
    apply And.intro
    · intro hq_17
      replace hq_16 := wb0 hq_16 hq_17
      intro zq_28 hq_28
      replace hq_28 := wb_1 (i := 11) hww hgp2 hgw (by decide) (by decide) hq_28
      apply And.intro
      · intro hq_29
        replace hq_28 := wb0 hq_28 hq_29
        intro zq_40 hq_40
        replace hq_40 := wb_1 (i := 12) hww hgp2 hgw (by decide) (by decide) hq_40
        apply And.intro
        · intro hq_41
          replace hq_40 := wb0 hq_40 hq_41
          intro zq_52 hq_52
          replace hq_52 := wb_1 (i := 13) hww hgp2 hgw (by decide) (by decide) hq_52
          apply And.intro
          · intro hq_53
            replace hq_52 := wb0 hq_52 hq_53
            exact hQ _ (by omega)
          · intro hq_53
            replace hq_52 := wb1 hq_52 hq_53
            exact hQ _ (by omega)
        · intro hq_41
          replace hq_40 := wb1 hq_40 hq_41
          exact hQ _ (by omega)
      · intro hq_29
        replace hq_28 := wb1 hq_28 hq_29
        exact hQ _ (by omega)
    · intro hq_17
      replace hq_16 := wb1 hq_16 hq_17
      exact hQ _ (by omega)
  · intro hq_5
    replace hq_4 := wb1 hq_4 hq_5
    exact hQ _ (by omega)

theorem dF12_yearLine_0 : decode cX12_yearLine 0 = .ok (.lload_n 1, 1) := by decide +kernel
theorem dF12_yearLine_1 : decode cX12_yearLine 1 = .ok (.invokestatic 240, 3) := by decide +kernel
theorem dF12_yearLine_4 : decode cX12_yearLine 4 = .ok (.istore 4, 2) := by decide +kernel
theorem dF12_yearLine_6 : decode cX12_yearLine 6 = .ok (.iload 4, 2) := by decide +kernel
theorem dF12_yearLine_8 : decode cX12_yearLine 8 = .ok (.iconst (-1), 1) := by decide +kernel
theorem dF12_yearLine_9 : decode cX12_yearLine 9 = .ok (.if_icmp .ne 8, 3) := by decide +kernel
theorem dF12_yearLine_12 : decode cX12_yearLine 12 = .ok (.aload_n 0, 1) := by decide +kernel
theorem dF12_yearLine_13 : decode cX12_yearLine 13 = .ok (.invokevirtual 140, 3) := by decide +kernel
theorem dF12_yearLine_16 : decode cX12_yearLine 16 = .ok (.ireturn, 1) := by decide +kernel
theorem dF12_yearLine_17 : decode cX12_yearLine 17 = .ok (.aload_n 0, 1) := by decide +kernel
theorem dF12_yearLine_18 : decode cX12_yearLine 18 = .ok (.iconst 0, 1) := by decide +kernel
theorem dF12_yearLine_19 : decode cX12_yearLine 19 = .ok (.bipush 40, 2) := by decide +kernel
theorem dF12_yearLine_21 : decode cX12_yearLine 21 = .ok (.iload_n 3, 1) := by decide +kernel
theorem dF12_yearLine_22 : decode cX12_yearLine 22 = .ok (.invokevirtual 193, 3) := by decide +kernel
theorem dF12_yearLine_25 : decode cX12_yearLine 25 = .ok (.aload_n 0, 1) := by decide +kernel
theorem dF12_yearLine_26 : decode cX12_yearLine 26 = .ok (.invokevirtual 152, 3) := by decide +kernel
theorem dF12_yearLine_29 : decode cX12_yearLine 29 = .ok (.aload_n 0, 1) := by decide +kernel
theorem dF12_yearLine_30 : decode cX12_yearLine 30 = .ok (.getfield 41, 3) := by decide +kernel
theorem dF12_yearLine_33 : decode cX12_yearLine 33 = .ok (.iconst 3, 1) := by decide +kernel
theorem dF12_yearLine_34 : decode cX12_yearLine 34 = .ok (.iconst (-1), 1) := by decide +kernel
theorem dF12_yearLine_35 : decode cX12_yearLine 35 = .ok (.iastore, 1) := by decide +kernel
theorem dF12_yearLine_36 : decode cX12_yearLine 36 = .ok (.aload_n 0, 1) := by decide +kernel
theorem dF12_yearLine_37 : decode cX12_yearLine 37 = .ok (.iconst 1, 1) := by decide +kernel
theorem dF12_yearLine_38 : decode cX12_yearLine 38 = .ok (.iconst 0, 1) := by decide +kernel
theorem dF12_yearLine_39 : decode cX12_yearLine 39 = .ok (.bipush 7, 2) := by decide +kernel
theorem dF12_yearLine_41 : decode cX12_yearLine 41 = .ok (.invokevirtual 174, 3) := by decide +kernel
theorem dF12_yearLine_44 : decode cX12_yearLine 44 = .ok (.ifCond .ne 5, 3) := by decide +kernel
theorem dF12_yearLine_47 : decode cX12_yearLine 47 = .ok (.iconst 0, 1) := by decide +kernel
theorem dF12_yearLine_48 : decode cX12_yearLine 48 = .ok (.ireturn, 1) := by decide +kernel
theorem dF12_yearLine_49 : decode cX12_yearLine 49 = .ok (.iload 4, 2) := by decide +kernel
theorem dF12_yearLine_51 : decode cX12_yearLine 51 = .ok (.iconst 2, 1) := by decide +kernel
theorem dF12_yearLine_52 : decode cX12_yearLine 52 = .ok (.if_icmp .ge 11, 3) := by decide +kernel
theorem dF12_yearLine_55 : decode cX12_yearLine 55 = .ok (.aload_n 0, 1) := by decide +kernel
theorem dF12_yearLine_56 : decode cX12_yearLine 56 = .ok (.iconst 2, 1) := by decide +kernel
theorem dF12_yearLine_57 : decode cX12_yearLine 57 = .ok (.invokevirtual 183, 3) := by decide +kernel
theorem dF12_yearLine_60 : decode cX12_yearLine 60 = .ok (.goto 53, 3) := by decide +kernel
theorem dF12_yearLine_63 : decode cX12_yearLine 63 = .ok (.iload 4, 2) := by decide +kernel
theorem dF12_yearLine_65 : decode cX12_yearLine 65 = .ok (.iconst 4, 1) := by decide +kernel
theorem dF12_yearLine_66 : decode cX12_yearLine 66 = .ok (.if_icmp .ge 14, 3) := by decide +kernel
theorem dF12_yearLine_69 : decode cX12_yearLine 69 = .ok (.aload_n 0, 1) := by decide +kernel
theorem dF12_yearLine_70 : decode cX12_yearLine 70 = .ok (.iconst 2, 1) := by decide +kernel
theorem dF12_yearLine_71 : decode cX12_yearLine 71 = .ok (.iconst 1, 1) := by decide +kernel
theorem dF12_yearLine_72 : decode cX12_yearLine 72 = .ok (.bipush 99, 2) := by decide +kernel
theorem dF12_yearLine_74 : decode cX12_yearLine 74 = .ok (.invokevirtual 174, 3) := by decide +kernel
theorem dF12_yearLine_77 : decode cX12_yearLine 77 = .ok (.goto 36, 3) := by decide +kernel
theorem dF12_yearLine_80 : decode cX12_yearLine 80 = .ok (.aload_n 0, 1) := by decide +kernel
theorem dF12_yearLine_81 : decode cX12_yearLine 81 = .ok (.iconst 2, 1) := by decide +kernel
theorem dF12_yearLine_82 : decode cX12_yearLine 82 = .ok (.iconst 0, 1) := by decide +kernel
theorem dF12_yearLine_83 : decode cX12_yearLine 83 = .ok (.bipush 7, 2) := by decide +kernel
theorem dF12_yearLine_85 : decode cX12_yearLine 85 = .ok (.aload_n 0, 1) := by decide +kernel
theorem dF12_yearLine_86 : decode cX12_yearLine 86 = .ok (.getfield 41, 3) := by decide +kernel
theorem dF12_yearLine_89 : decode cX12_yearLine 89 = .ok (.iconst 1, 1) := by decide +kernel
theorem dF12_yearLine_90 : decode cX12_yearLine 90 = .ok (.iaload, 1) := by decide +kernel
theorem dF12_yearLine_91 : decode cX12_yearLine 91 = .ok (.invokevirtual 155, 3) := by decide +kernel
theorem dF12_yearLine_94 : decode cX12_yearLine 94 = .ok (.ifCond .eq 18, 3) := by decide +kernel
theorem dF12_yearLine_97 : decode cX12_yearLine 97 = .ok (.aload_n 0, 1) := by decide +kernel
theorem dF12_yearLine_98 : decode cX12_yearLine 98 = .ok (.iconst 3, 1) := by decide +kernel
theorem dF12_yearLine_99 : decode cX12_yearLine 99 = .ok (.iconst 1, 1) := by decide +kernel
theorem dF12_yearLine_100 : decode cX12_yearLine 100 = .ok (.bipush 99, 2) := by decide +kernel
theorem dF12_yearLine_102 : decode cX12_yearLine 102 = .ok (.invokevirtual 174, 3) := by decide +kernel
theorem dF12_yearLine_105 : decode cX12_yearLine 105 = .ok (.ifCond .eq 7, 3) := by decide +kernel
theorem dF12_yearLine_108 : decode cX12_yearLine 108 = .ok (.iconst 1, 1) := by decide +kernel
theorem dF12_yearLine_109 : decode cX12_yearLine 109 = .ok (.goto 4, 3) := by decide +kernel
theorem dF12_yearLine_112 : decode cX12_yearLine 112 = .ok (.iconst 0, 1) := by decide +kernel
theorem dF12_yearLine_113 : decode cX12_yearLine 113 = .ok (.istore 5, 2) := by decide +kernel
theorem dF12_yearLine_115 : decode cX12_yearLine 115 = .ok (.iload 5, 2) := by decide +kernel
theorem dF12_yearLine_117 : decode cX12_yearLine 117 = .ok (.ifCond .eq 18, 3) := by decide +kernel
theorem dF12_yearLine_120 : decode cX12_yearLine 120 = .ok (.aload_n 0, 1) := by decide +kernel
theorem dF12_yearLine_121 : decode cX12_yearLine 121 = .ok (.getfield 41, 3) := by decide +kernel
theorem dF12_yearLine_124 : decode cX12_yearLine 124 = .ok (.iconst 0, 1) := by decide +kernel
theorem dF12_yearLine_125 : decode cX12_yearLine 125 = .ok (.iload 4, 2) := by decide +kernel
theorem dF12_yearLine_127 : decode cX12_yearLine 127 = .ok (.iastore, 1) := by decide +kernel
theorem dF12_yearLine_128 : decode cX12_yearLine 128 = .ok (.aload_n 0, 1) := by decide +kernel
theorem dF12_yearLine_129 : decode cX12_yearLine 129 = .ok (.iconst 4, 1) := by decide +kernel
theorem dF12_yearLine_130 : decode cX12_yearLine 130 = .ok (.bipush 40, 2) := by decide +kernel
theorem dF12_yearLine_132 : decode cX12_yearLine 132 = .ok (.invokevirtual 244, 3) := by decide +kernel
theorem dF12_yearLine_135 : decode cX12_yearLine 135 = .ok (.iload 5, 2) := by decide +kernel
theorem dF12_yearLine_137 : decode cX12_yearLine 137 = .ok (.ireturn, 1) := by decide +kernel
def is_F12_yearLine : Nat → List Nat := fun d => if d = 113 then [0, 4] else []
set_option maxRecDepth 100000 in
def b_F12_yearLine_135 (J : Nat → List qV → List qV → qW → Prop) (Q : qR) : qK := x_iload 5 (x_zret Q)
set_option maxRecDepth 100000 in
theorem s_F12_yearLine_135 {p : Program} {l : Launch} {e : Env} {R : Room} {s : State} {m : MethodId} {args : Array Value} {below : List Frame} {meth : Method} {c : Code} {nW : Nat} {dC : Nat → ClassId} {dI : Nat → Nat → Nat} {k : Nat → ClassId} {g : Nat → Nat} {A : Nat → Prop} {J : Nat → List qV → List qV → qW → Prop} {Q : qR} (X : q_X p R s m args meth c cX12_yearLine 6 nW 4 91 RX12 (some .boolean) dC dI k g A) (hJ : ∀ d : Nat, q_Sd p l e R s m args below meth c 6 nW dC dI k g A (MQ below (q_post (dC, dI) k g nW Q A) args s 0 0 A) d (x_cut (is_F12_yearLine d) (J d))) : q_Sd p l e R s m args below meth c 6 nW dC dI k g A (MQ below (q_post (dC, dI) k g nW Q A) args s 0 0 A) 135 (b_F12_yearLine_135 J Q) := by
  unfold b_F12_yearLine_135
  refine s_iload X dF12_yearLine_135 ?_
  exact s_zret X dF12_yearLine_137
set_option maxRecDepth 100000 in
def b_F12_yearLine_113 (J : Nat → List qV → List qV → qW → Prop) (Q : qR) : qK := x_istore 5 (x_iload 5 (x_if_eq (b_F12_yearLine_135 J Q) (x_aload 0 (x_get 12 20 (x_int 0 (x_iload 4 (x_iast (x_nw (x_aload 0 (x_int 4 (x_int 40 (x_call (some 12) 3 sp_F12_keep4 (x_nw (b_F12_yearLine_135 J Q))))))))))))))
set_option maxRecDepth 100000 in
theorem s_F12_yearLine_113 {p : Program} {l : Launch} {e : Env} {R : Room} {s : State} {m : MethodId} {args : Array Value} {below : List Frame} {meth : Method} {c : Code} {nW : Nat} {dC : Nat → ClassId} {dI : Nat → Nat → Nat} {k : Nat → ClassId} {g : Nat → Nat} {A : Nat → Prop} {J : Nat → List qV → List qV → qW → Prop} {Q : qR} (X : q_X p R s m args meth c cX12_yearLine 6 nW 4 91 RX12 (some .boolean) dC dI k g A) (hJ : ∀ d : Nat, q_Sd p l e R s m args below meth c 6 nW dC dI k g A (MQ below (q_post (dC, dI) k g nW Q A) args s 0 0 A) d (x_cut (is_F12_yearLine d) (J d))) : q_Sd p l e R s m args below meth c 6 nW dC dI k g A (MQ below (q_post (dC, dI) k g nW Q A) args s 0 0 A) 113 (b_F12_yearLine_113 J Q) := by
  unfold b_F12_yearLine_113
  refine s_istore X (by decide) dF12_yearLine_113 ?_
  refine s_iload X dF12_yearLine_115 ?_
  refine s_if_eq X (tgt := 135) dF12_yearLine_117 (by decide) ?_ ?_
  · exact s_F12_yearLine_135 X hJ
  · refine s_aload_n X rfl dF12_yearLine_120 ?_
    refine s_get X (T := TX12) (C := RX12) (N := 45) tu_X12 rfl (by decide) tw_1017 dF12_yearLine_121 ?_
    refine s_iconst X ⟨by decide, by decide⟩ dF12_yearLine_124 ?_
    refine s_iload X dF12_yearLine_125 ?_
    refine s_iast X dF12_yearLine_127 ?_
    refine s_nw ?_
    refine s_aload_n X rfl dF12_yearLine_128 ?_
    refine s_iconst X ⟨by decide, by decide⟩ dF12_yearLine_129 ?_
    refine s_bipush X ⟨by decide, by decide⟩ (by decide) dF12_yearLine_130 ?_
    refine s_callV X (m_F12_keep4 l) tw_1154 tw_1155 tw_1592 tw_134 tw_1156 rfl (by decide +kernel) ⟨by decide, by decide⟩ dF12_yearLine_132 ?_
    refine s_nw ?_
    exact s_F12_yearLine_135 X hJ
set_option maxRecDepth 100000 in
def b_F12_yearLine_112 (J : Nat → List qV → List qV → qW → Prop) (Q : qR) : qK := x_int 0 (x_cut [0, 4] (J 113))
set_option maxRecDepth 100000 in
theorem s_F12_yearLine_112 {p : Program} {l : Launch} {e : Env} {R : Room} {s : State} {m : MethodId} {args : Array Value} {below : List Frame} {meth : Method} {c : Code} {nW : Nat} {dC : Nat → ClassId} {dI : Nat → Nat → Nat} {k : Nat → ClassId} {g : Nat → Nat} {A : Nat → Prop} {J : Nat → List qV → List qV → qW → Prop} {Q : qR} (X : q_X p R s m args meth c cX12_yearLine 6 nW 4 91 RX12 (some .boolean) dC dI k g A) (hJ : ∀ d : Nat, q_Sd p l e R s m args below meth c 6 nW dC dI k g A (MQ below (q_post (dC, dI) k g nW Q A) args s 0 0 A) d (x_cut (is_F12_yearLine d) (J d))) : q_Sd p l e R s m args below meth c 6 nW dC dI k g A (MQ below (q_post (dC, dI) k g nW Q A) args s 0 0 A) 112 (b_F12_yearLine_112 J Q) := by
  unfold b_F12_yearLine_112
  refine s_iconst X ⟨by decide, by decide⟩ dF12_yearLine_112 ?_
  exact hJ 113
set_option maxRecDepth 100000 in
def b_F12_yearLine_83 (J : Nat → List qV → List qV → qW → Prop) (Q : qR) : qK := x_int 7 (x_aload 0 (x_get 12 20 (x_int 1 (x_iald (x_call (some 12) 5 sp_F12_takeBut (x_nw (x_if_eq (b_F12_yearLine_112 J Q) (x_aload 0 (x_int 3 (x_int 1 (x_int 99 (x_call (some 12) 4 sp_F12_take (x_nw (x_if_eq (b_F12_yearLine_112 J Q) (x_int 1 (x_cut [0, 4] (J 113)))))))))))))))))
set_option maxRecDepth 100000 in
theorem s_F12_yearLine_83 {p : Program} {l : Launch} {e : Env} {R : Room} {s : State} {m : MethodId} {args : Array Value} {below : List Frame} {meth : Method} {c : Code} {nW : Nat} {dC : Nat → ClassId} {dI : Nat → Nat → Nat} {k : Nat → ClassId} {g : Nat → Nat} {A : Nat → Prop} {J : Nat → List qV → List qV → qW → Prop} {Q : qR} (X : q_X p R s m args meth c cX12_yearLine 6 nW 4 91 RX12 (some .boolean) dC dI k g A) (hJ : ∀ d : Nat, q_Sd p l e R s m args below meth c 6 nW dC dI k g A (MQ below (q_post (dC, dI) k g nW Q A) args s 0 0 A) d (x_cut (is_F12_yearLine d) (J d))) : q_Sd p l e R s m args below meth c 6 nW dC dI k g A (MQ below (q_post (dC, dI) k g nW Q A) args s 0 0 A) 83 (b_F12_yearLine_83 J Q) := by
  unfold b_F12_yearLine_83
  refine s_bipush X ⟨by decide, by decide⟩ (by decide) dF12_yearLine_83 ?_
  refine s_aload_n X rfl dF12_yearLine_85 ?_
  refine s_get X (T := TX12) (C := RX12) (N := 45) tu_X12 rfl (by decide) tw_1017 dF12_yearLine_86 ?_
  refine s_iconst X ⟨by decide, by decide⟩ dF12_yearLine_89 ?_
  refine s_iald X dF12_yearLine_90 ?_
  refine s_callV X (m_F12_takeBut l) tw_1100 tw_1101 tw_1622 tw_134 tw_1102 rfl (by decide +kernel) ⟨by decide, by decide⟩ dF12_yearLine_91 ?_
  refine s_nw ?_
  refine s_if_eq X (tgt := 112) dF12_yearLine_94 (by decide) ?_ ?_
  · exact s_F12_yearLine_112 X hJ
  · refine s_aload_n X rfl dF12_yearLine_97 ?_
    refine s_iconst X ⟨by decide, by decide⟩ dF12_yearLine_98 ?_
    refine s_iconst X ⟨by decide, by decide⟩ dF12_yearLine_99 ?_
    refine s_bipush X ⟨by decide, by decide⟩ (by decide) dF12_yearLine_100 ?_
    refine s_callV X (m_F12_take l) tw_1097 tw_1098 tw_1621 tw_134 tw_1099 rfl (by decide +kernel) ⟨by decide, by decide⟩ dF12_yearLine_102 ?_
    refine s_nw ?_
    refine s_if_eq X (tgt := 112) dF12_yearLine_105 (by decide) ?_ ?_
    · exact s_F12_yearLine_112 X hJ
    · refine s_iconst X ⟨by decide, by decide⟩ dF12_yearLine_108 ?_
      refine s_goto X (tgt := 113) dF12_yearLine_109 (by decide) ?_
      exact hJ 113
set_option maxRecDepth 100000 in
def b_F12_yearLine_39 (J : Nat → List qV → List qV → qW → Prop) (Q : qR) : qK := x_int 7 (x_call (some 12) 4 sp_F12_take (x_nw (x_if_ne (x_iload 4 (x_int 2 (x_icmp_ge (x_iload 4 (x_int 4 (x_icmp_ge (x_aload 0 (x_int 2 (x_int 0 (b_F12_yearLine_83 J Q)))) (x_aload 0 (x_int 2 (x_int 1 (x_int 99 (x_call (some 12) 4 sp_F12_take (x_nw (x_cut [0, 4] (J 113))))))))))) (x_aload 0 (x_int 2 (x_call (some 12) 2 sp_F12_takeOffence (x_nw (x_cut [0, 4] (J 113))))))))) (x_int 0 (x_zret Q)))))
set_option maxRecDepth 100000 in
theorem s_F12_yearLine_39 {p : Program} {l : Launch} {e : Env} {R : Room} {s : State} {m : MethodId} {args : Array Value} {below : List Frame} {meth : Method} {c : Code} {nW : Nat} {dC : Nat → ClassId} {dI : Nat → Nat → Nat} {k : Nat → ClassId} {g : Nat → Nat} {A : Nat → Prop} {J : Nat → List qV → List qV → qW → Prop} {Q : qR} (X : q_X p R s m args meth c cX12_yearLine 6 nW 4 91 RX12 (some .boolean) dC dI k g A) (hJ : ∀ d : Nat, q_Sd p l e R s m args below meth c 6 nW dC dI k g A (MQ below (q_post (dC, dI) k g nW Q A) args s 0 0 A) d (x_cut (is_F12_yearLine d) (J d))) : q_Sd p l e R s m args below meth c 6 nW dC dI k g A (MQ below (q_post (dC, dI) k g nW Q A) args s 0 0 A) 39 (b_F12_yearLine_39 J Q) := by
  unfold b_F12_yearLine_39
  refine s_bipush X ⟨by decide, by decide⟩ (by decide) dF12_yearLine_39 ?_
  refine s_callV X (m_F12_take l) tw_1097 tw_1098 tw_1621 tw_134 tw_1099 rfl (by decide +kernel) ⟨by decide, by decide⟩ dF12_yearLine_41 ?_
  refine s_nw ?_
  refine s_if_ne X (tgt := 49) dF12_yearLine_44 (by decide) ?_ ?_
  · refine s_iload X dF12_yearLine_49 ?_
    refine s_iconst X ⟨by decide, by decide⟩ dF12_yearLine_51 ?_
    refine s_icmp_ge X (tgt := 63) dF12_yearLine_52 (by decide) ?_ ?_
    · refine s_iload X dF12_yearLine_63 ?_
      refine s_iconst X ⟨by decide, by decide⟩ dF12_yearLine_65 ?_
      refine s_icmp_ge X (tgt := 80) dF12_yearLine_66 (by decide) ?_ ?_
      · refine s_aload_n X rfl dF12_yearLine_80 ?_
        refine s_iconst X ⟨by decide, by decide⟩ dF12_yearLine_81 ?_
        refine s_iconst X ⟨by decide, by decide⟩ dF12_yearLine_82 ?_
        exact s_F12_yearLine_83 X hJ
      · refine s_aload_n X rfl dF12_yearLine_69 ?_
        refine s_iconst X ⟨by decide, by decide⟩ dF12_yearLine_70 ?_
        refine s_iconst X ⟨by decide, by decide⟩ dF12_yearLine_71 ?_
        refine s_bipush X ⟨by decide, by decide⟩ (by decide) dF12_yearLine_72 ?_
        refine s_callV X (m_F12_take l) tw_1097 tw_1098 tw_1621 tw_134 tw_1099 rfl (by decide +kernel) ⟨by decide, by decide⟩ dF12_yearLine_74 ?_
        refine s_nw ?_
        refine s_goto X (tgt := 113) dF12_yearLine_77 (by decide) ?_
        exact hJ 113
    · refine s_aload_n X rfl dF12_yearLine_55 ?_
      refine s_iconst X ⟨by decide, by decide⟩ dF12_yearLine_56 ?_
      refine s_callV X (m_F12_takeOffence l) tw_1133 tw_1134 tw_1623 tw_134 tw_1135 rfl (by decide +kernel) ⟨by decide, by decide⟩ dF12_yearLine_57 ?_
      refine s_nw ?_
      refine s_goto X (tgt := 113) dF12_yearLine_60 (by decide) ?_
      exact hJ 113
  · refine s_iconst X ⟨by decide, by decide⟩ dF12_yearLine_47 ?_
    exact s_zret X dF12_yearLine_48
set_option maxRecDepth 100000 in
def b_F12_yearLine_0 (J : Nat → List qV → List qV → qW → Prop) (Q : qR) : qK := x_lload 1 (x_callr none 1 spr_F12_deedBy (x_istore 4 (x_iload 4 (x_int (-1) (x_icmp_ne (x_aload 0 (x_int 0 (x_int 40 (x_iload 3 (x_call (some 12) 4 sp_F12_full (x_nw (x_aload 0 (x_call (some 12) 1 sp_F12_token (x_nw (x_aload 0 (x_get 12 20 (x_int 3 (x_int (-1) (x_iast (x_nw (x_aload 0 (x_int 1 (x_int 0 (b_F12_yearLine_39 J Q))))))))))))))))))) (x_aload 0 (x_call (some 12) 1 sp_F12_fails (x_nw (x_zret Q)))))))))
set_option maxRecDepth 100000 in
theorem s_F12_yearLine_0 {p : Program} {l : Launch} {e : Env} {R : Room} {s : State} {m : MethodId} {args : Array Value} {below : List Frame} {meth : Method} {c : Code} {nW : Nat} {dC : Nat → ClassId} {dI : Nat → Nat → Nat} {k : Nat → ClassId} {g : Nat → Nat} {A : Nat → Prop} {J : Nat → List qV → List qV → qW → Prop} {Q : qR} (X : q_X p R s m args meth c cX12_yearLine 6 nW 4 91 RX12 (some .boolean) dC dI k g A) (hJ : ∀ d : Nat, q_Sd p l e R s m args below meth c 6 nW dC dI k g A (MQ below (q_post (dC, dI) k g nW Q A) args s 0 0 A) d (x_cut (is_F12_yearLine d) (J d))) : q_Sd p l e R s m args below meth c 6 nW dC dI k g A (MQ below (q_post (dC, dI) k g nW Q A) args s 0 0 A) 0 (b_F12_yearLine_0 J Q) := by
  unfold b_F12_yearLine_0
  refine s_lload_n X rfl dF12_yearLine_0 ?_
  refine s_callSr X (m_F12_deedBy l) tw_1146 tw_1147 tw_134 tw_1148 (by decide +kernel) ⟨by decide, by decide⟩ dF12_yearLine_1 ?_
  refine s_istore X (by decide) dF12_yearLine_4 ?_
  refine s_iload X dF12_yearLine_6 ?_
  refine s_iconst X ⟨by decide, by decide⟩ dF12_yearLine_8 ?_
  refine s_icmp_ne X (tgt := 17) dF12_yearLine_9 (by decide) ?_ ?_
  · refine s_aload_n X rfl dF12_yearLine_17 ?_
    refine s_iconst X ⟨by decide, by decide⟩ dF12_yearLine_18 ?_
    refine s_bipush X ⟨by decide, by decide⟩ (by decide) dF12_yearLine_19 ?_
    refine s_iload_n X rfl dF12_yearLine_21 ?_
    refine s_callV X (m_F12_full l) tw_1088 tw_1089 tw_1578 tw_134 tw_1090 rfl (by decide +kernel) ⟨by decide, by decide⟩ dF12_yearLine_22 ?_
    refine s_nw ?_
    refine s_aload_n X rfl dF12_yearLine_25 ?_
    refine s_callV X (m_F12_token l) tw_1070 tw_1071 tw_1627 tw_134 tw_1072 rfl (by decide +kernel) ⟨by decide, by decide⟩ dF12_yearLine_26 ?_
    refine s_nw ?_
    refine s_aload_n X rfl dF12_yearLine_29 ?_
    refine s_get X (T := TX12) (C := RX12) (N := 45) tu_X12 rfl (by decide) tw_1017 dF12_yearLine_30 ?_
    refine s_iconst X ⟨by decide, by decide⟩ dF12_yearLine_33 ?_
    refine s_iconst X ⟨by decide, by decide⟩ dF12_yearLine_34 ?_
    refine s_iast X dF12_yearLine_35 ?_
    refine s_nw ?_
    refine s_aload_n X rfl dF12_yearLine_36 ?_
    refine s_iconst X ⟨by decide, by decide⟩ dF12_yearLine_37 ?_
    refine s_iconst X ⟨by decide, by decide⟩ dF12_yearLine_38 ?_
    exact s_F12_yearLine_39 X hJ
  · refine s_aload_n X rfl dF12_yearLine_12 ?_
    refine s_callV X (m_F12_fails l) tw_1103 tw_1104 tw_1568 tw_134 tw_1105 rfl (by decide +kernel) ⟨by decide, by decide⟩ dF12_yearLine_13 ?_
    refine s_nw ?_
    exact s_zret X dF12_yearLine_16

def sp_F12_yearLine : qS := fun av w Q => ∃ (mco : Int) (mre : Int) (mle : Int) (mbe : Int) (mso : Int) (mva : Int) (mwo : Int) (mwr : Int) (mlf : Int) (mlp : Int) (mfp : Int) (mfd : Int) (mgo : Int) (mbo : Int) (mpe : Int) (mye : Int) (mpr : Int) (mld : Int) (msi : Int) (mse : Int) (tp : Nat → Int) (re : Nat → Int) (td : Nat → Int) (ww : Int) (gw : Int) (gp : Int) (gf : Int) (gq : Int) (gD : Nat → Int) (gfp : Int) (gfd : Int) (b : Int), av = [q2 0, q3 ww, q1 b] ∧ w = [.inr (12, [q1 mco, q2 1, q2 4, q2 5, q2 6, q2 7, q2 8, q2 9, q2 10, q2 11, q1 mre, q1 mle, q1 mbe, q1 mso, q1 mva, q3 mwo, q1 mwr, q1 mlf, q1 mlp, q2 3, q2 2, q1 mfp, q1 mfd, q1 mgo, q1 mbo, q1 mpe, q1 mye, q2 12, q1 mpr, q2 13, q2 14, q2 15, q2 16, q1 mld, q2 17, q1 msi, q2 18, q2 19, q2 20, q2 21, q2 22, q1 mse, q2 23, q2 24, q2 25]), .inl (1, 2400, .inl tp), .inl (0, 4, .inl re), .inl (0, 161, .inl td)] ∧ (0 ≤ mre ∧ mre ≤ mle ∧ mle ≤ 600) ∧ (LnS (tc tp) mle gp gf gq gD gfp gfd mre mbe mso mva mwo mlf mlp td mfp mfd) ∧ (¬ mgo = 0) ∧ (ww = woT (tc tp) mle gp) ∧ (gp ≤ mle) ∧ (gw = liW (tc tp) mle gp 1) ∧ (b = tB (tc tp) mle gp) ∧ (YT td 0) ∧ (∀ (r : Int) (x_mre : Int) (x_mbe : Int) (x_mso : Int) (x_mva : Int) (x_mwo : Int) (x_mwr : Int) (x_mlf : Int) (x_mlp : Int) (x_mgo : Int) (x_re : Nat → Int) (x_td : Nat → Int), ((r = 0 ∨ r = 1 ∧ (x_mso = 0 ∨ mre < x_mre)) ∧ mre ≤ x_mre ∧ x_mre ≤ mle ∧ YT x_td 0 ∧ LnO (tc tp) mle 1 gp gf gq gD gfp gfd r x_mre x_mbe x_mso x_mva x_mwo x_mwr x_mlf x_mlp x_mgo x_td mfp mfd) → Q (some (q1 r)) ([.inr (12, [q1 mco, q2 1, q2 4, q2 5, q2 6, q2 7, q2 8, q2 9, q2 10, q2 11, q1 x_mre, q1 mle, q1 x_mbe, q1 x_mso, q1 x_mva, q3 x_mwo, q1 x_mwr, q1 x_mlf, q1 x_mlp, q2 3, q2 2, q1 mfp, q1 mfd, q1 x_mgo, q1 mbo, q1 mpe, q1 mye, q2 12, q1 mpr, q2 13, q2 14, q2 15, q2 16, q1 mld, q2 17, q1 msi, q2 18, q2 19, q2 20, q2 21, q2 22, q1 mse, q2 23, q2 24, q2 25]), .inl (1, 2400, .inl tp), .inl (0, 4, .inl x_re), .inl (0, 161, .inl x_td)]))
def I_F12_yearLine (mco : Int) (mre : Int) (mle : Int) (mbe : Int) (mso : Int) (mva : Int) (mwo : Int) (mwr : Int) (mlf : Int) (mlp : Int) (mfp : Int) (mfd : Int) (mgo : Int) (mbo : Int) (mpe : Int) (mye : Int) (mpr : Int) (mld : Int) (msi : Int) (mse : Int) (tp : Nat → Int) (re : Nat → Int) (td : Nat → Int) (ww : Int) (gw : Int) (gp : Int) (gf : Int) (gq : Int) (gD : Nat → Int) (gfp : Int) (gfd : Int) (b : Int) : Nat → Nat → List qV → List qV → qW → Prop := fun dz mz vz sz wz => if dz = 113 then (∃ (y_mre : Int) (y_mbe : Int) (y_mso : Int) (y_mva : Int) (y_mwo : Int) (y_mwr : Int) (y_mlf : Int) (y_mlp : Int) (y_mgo : Int) (y_re : Nat → Int) (s0 : Int) (v4 : Int), vz = [q2 0, q1 v4] ∧ sz = [q1 s0] ∧ wz = [.inr (12, [q1 mco, q2 1, q2 4, q2 5, q2 6, q2 7, q2 8, q2 9, q2 10, q2 11, q1 y_mre, q1 mle, q1 y_mbe, q1 y_mso, q1 y_mva, q3 y_mwo, q1 y_mwr, q1 y_mlf, q1 y_mlp, q2 3, q2 2, q1 mfp, q1 mfd, q1 y_mgo, q1 mbo, q1 mpe, q1 mye, q2 12, q1 mpr, q2 13, q2 14, q2 15, q2 16, q1 mld, q2 17, q1 msi, q2 18, q2 19, q2 20, q2 21, q2 22, q1 mse, q2 23, q2 24, q2 25]), .inl (1, 2400, .inl tp), .inl (0, 4, .inl y_re), .inl (0, 161, .inl td)] ∧ mz = 0 ∧ ((s0 = 0 ∨ s0 = 1 ∧ (y_mso = 0 ∨ mre < y_mre)) ∧ mre ≤ y_mre ∧ y_mre ≤ mle) ∧ (9 ≤ gw ∧ gw ≤ 13) ∧ (v4 = gw - 9) ∧ (YrC (tc tp) mle gw gp (ntF (fulP gw gD) 3 gf) (ntP (fulP gw gD) (tB (tc tp) mle gp) gf gq) s0 y_mre y_mbe y_mso y_mva y_mwo y_mwr y_mlf y_mlp y_mgo y_re) ∧ (s0 = 1 → v4 < 2 → 0 ≤ y_re 2 ∧ y_re 2 ≤ 3)) else False
set_option maxHeartbeats 4000000 in
set_option maxRecDepth 100000 in
theorem m_F12_yearLine (l : Launch) : q_M l yX12_yearLine cX12_yearLine 6 (some .boolean) 4 91 sp_F12_yearLine := by
  refine q_meth (by decide) (fun av w Q h => by obtain ⟨mco, mre, mle, mbe, mso, mva, mwo, mwr, mlf, mlp, mfp, mfd, mgo, mbo, mpe, mye, mpr, mld, msi, mse, tp, re, td, ww, gw, gp, gf, gq, gD, gfp, gfd, b, rfl, rfl, htp, hLS, hgo, hww, hgp2, hgw, hat, hyt, hQ⟩ := h; exact Nat.le_of_ble_eq_true rfl) ?_
  intro p e R s m args below meth c dC dI k g A av w Q hsp oka okw X
  obtain ⟨mco, mre, mle, mbe, mso, mva, mwo, mwr, mlf, mlp, mfp, mfd, mgo, mbo, mpe, mye, mpr, mld, msi, mse, tp, re, td, ww, gw, gp, gf, gq, gD, gfp, gfd, b, rfl, rfl, htp, hLS, hgo, hww, hgp2, hgw, hat, hyt, hQ⟩ := hsp
  have o_b : -2147483648 ≤ b ∧ b ≤ 2147483647 := oka _ (List.mem_of_getElem? (i := 2) rfl)
  refine s_mono (s_F12_yearLine_0 X (J := fun dz vz sz wz => ∃ mz, I_F12_yearLine mco mre mle mbe mso mva mwo mwr mlf mlp mfp mfd mgo mbo mpe mye mpr mld msi mse tp re td ww gw gp gf gq gD gfp gfd b dz mz vz sz wz) (q_loopn (I_F12_yearLine mco mre mle mbe mso mva mwo mwr mlf mlp mfp mfd mgo mbo mpe mye mpr mld msi mse tp re td ww gw gp gf gq gD gfp gfd b) (fun dz J => if dz = 113 then b_F12_yearLine_113 J Q else q_F) ?hs ?hv)) ?_
  case hs =>
    intro d J hJ
    by_cases hq_113 : d = 113
    · subst hq_113; exact s_F12_yearLine_113 X hJ
    simp only [hq_113, if_false]
    exact s_F
  case hv =>
    intro dz mz vz sz wz hI okv oks okw hlen
    by_cases hq_113 : dz = 113
    · subst hq_113
      obtain ⟨y_mre, y_mbe, y_mso, y_mva, y_mwo, y_mwr, y_mlf, y_mlp, y_mgo, y_re, s0, v4, rfl, rfl, rfl, hn, hp, hw9, hd9, hY9, hx9⟩ := hI
      apply And.intro
      · intro hq_117
        apply And.intro
        · first | exact Or.inl rfl | exact Or.inr rfl | omega
        exact hQ _ _ _ _ _ _ _ _ _ _ _ _ ⟨by omega, by omega, by omega, (by first | assumption | exact hq_132.2), (by first | (rw [hq_13.1]; exact LnO_n hgw (by omega) (hq_13.2.trans hLS.1.1)) | exact LnO_m hgw (LnM_0 S9 n9 (by decide) (dj0 hq_41.2.2.2 hq_44)) n9 | exact LnO_m hgw (Yr_y hY9 hq_117 hw9 rfl (by rw [← hd9]; exact hq_132.1) hLS.2.2.2.1 hyt.1.1) (by omega) | (rw [hq_117]; exact LnO_m hgw (Yr_n hY9 hq_117) (by omega)))⟩
      · intro hq_117
        apply And.intro
        · exact ⟨by omega, by omega⟩
        refine Exists.intro [0, 2, 3, 1, 4, 5, 6, 7, 8, 9, 10, 11, 12, 13, 14, 15, 16, 17, 18, 19, 20, 21, 22, 23, 24, 25] (Exists.intro [q2 0, q1 4, q1 40] (Exists.intro ([.inr (12, [q1 _, q2 3, q2 4, q2 5, q2 6, q2 7, q2 8, q2 9, q2 10, q2 11, q1 _, q1 _, q1 _, q1 _, q1 _, q3 _, q1 _, q1 _, q1 _, q2 2, q2 1, q1 _, q1 _, q1 _, q1 _, q1 _, q1 _, q2 12, q1 _, q2 13, q2 14, q2 15, q2 16, q1 _, q2 17, q1 _, q2 18, q2 19, q2 20, q2 21, q2 22, q1 _, q2 23, q2 24, q2 25]), .inl (0, 4, .inl _), .inl (0, 161, .inl _)]) (And.intro rfl (And.intro rfl (And.intro rfl (And.intro ⟨⟨_, rfl⟩, rfl⟩ ?_))))))
        refine Exists.intro _ (Exists.intro _ (Exists.intro _ (Exists.intro _ (Exists.intro _ (Exists.intro _ (Exists.intro _ (Exists.intro _ (Exists.intro _ (Exists.intro _ (Exists.intro _ (Exists.intro _ (Exists.intro _ (Exists.intro _ (Exists.intro _ (Exists.intro _ (Exists.intro _ (Exists.intro _ (Exists.intro _ (Exists.intro _ (Exists.intro _ (Exists.intro _ (And.intro rfl (And.intro rfl (And.intro (by first | omega | assumption | exact q_rg_up (by assumption) (by omega) | exact q_rg_up (q_rg_up (by assumption) (by omega)) (by omega) | exact q_rg_cpy (by assumption) (by assumption)) (And.intro (by intro hq; have q0 : q_up y_re (0 : Int).toNat v4 0 = v4 := q_up_s; have q2 : q_up y_re (0 : Int).toNat v4 2 = y_re 2 := q_up_n (by decide); rw [q2]; rw [q0] at hq; exact hx9 (by omega) (by omega)) (?_))))))))))))))))))))))))))
        intro x_td_132 hq_132
        apply And.intro
        · first | exact Or.inl rfl | exact Or.inr rfl | omega
        exact hQ _ _ _ _ _ _ _ _ _ _ _ _ ⟨by omega, by omega, by omega, (by first | assumption | exact hq_132.2), (by first | (rw [hq_13.1]; exact LnO_n hgw (by omega) (hq_13.2.trans hLS.1.1)) | exact LnO_m hgw (LnM_0 S9 n9 (by decide) (dj0 hq_41.2.2.2 hq_44)) n9 | exact LnO_m hgw (Yr_y hY9 hq_117 hw9 rfl (by rw [← hd9]; exact hq_132.1) hLS.2.2.2.1 hyt.1.1) (by omega) | (rw [hq_117]; exact LnO_m hgw (Yr_n hY9 hq_117) (by omega)))⟩
    simp only [I_F12_yearLine, hq_113, if_false] at hI
  rintro lv st w' ⟨rfl, rfl, rfl⟩
  refine Exists.intro [] (Exists.intro [q3 _] (Exists.intro [] (And.intro rfl (And.intro rfl (And.intro rfl (And.intro trivial ?_))))))
  refine Exists.intro _ (Exists.intro (tc tp) (Exists.intro mle (Exists.intro gp (Exists.intro gw (And.intro rfl (And.intro rfl (And.intro hww (And.intro hgp2 (And.intro hgw (?_))))))))))
  intro zq_1 hq_1
  skip
  apply And.intro
  · intro hq_9
    have hw9 : 9 ≤ gw ∧ gw ≤ 13 := by omega
    have y9 := ye_0 hw9
    have n9 : ¬ gw = -1 := by omega
    refine Exists.intro [0, 3, 1, 4, 5, 6, 7, 8, 9, 10, 11, 2, 12, 13, 14, 15, 16, 17, 18, 19, 20, 21, 22, 23, 24, 25] (Exists.intro [q2 0, q1 _, q1 _, q1 _] (Exists.intro ([.inr (12, [q1 _, q2 2, q2 3, q2 4, q2 5, q2 6, q2 7, q2 8, q2 9, q2 10, q1 _, q1 _, q1 _, q1 _, q1 _, q3 _, q1 _, q1 _, q1 _, q2 1, q2 11, q1 _, q1 _, q1 _, q1 _, q1 _, q1 _, q2 12, q1 _, q2 13, q2 14, q2 15, q2 16, q1 _, q2 17, q1 _, q2 18, q2 19, q2 20, q2 21, q2 22, q1 _, q2 23, q2 24, q2 25]), .inl (0, 161, .inl _)]) (And.intro rfl (And.intro rfl (And.intro rfl (And.intro ⟨⟨_, rfl⟩, rfl⟩ ?_))))))
    refine Exists.intro _ (Exists.intro _ (Exists.intro _ (Exists.intro _ (Exists.intro _ (Exists.intro _ (Exists.intro _ (Exists.intro _ (Exists.intro _ (Exists.intro _ (Exists.intro _ (Exists.intro _ (Exists.intro _ (Exists.intro _ (Exists.intro _ (Exists.intro _ (Exists.intro _ (Exists.intro _ (Exists.intro _ (Exists.intro _ (Exists.intro _ (Exists.intro _ (Exists.intro _ (Exists.intro _ (And.intro rfl (And.intro rfl (And.intro (by first | omega | assumption | exact q_rg_up (by assumption) (by omega) | exact q_rg_up (q_rg_up (by assumption) (by omega)) (by omega) | exact q_rg_cpy (by assumption) (by assumption)) (And.intro (by rw [hat]; exact Lt_lt hLS.2.1 hLS.2.2.1) (?_))))))))))))))))))))))))))))
    intro x_mlf_22 x_mlp_22 hq_22
    refine Exists.intro [0, 1, 4, 5, 6, 7, 8, 9, 10, 11, 3, 2, 12, 13, 14, 15, 16, 17, 18, 19, 20, 21, 22, 23, 24, 25] (Exists.intro [q2 0] (Exists.intro ([.inr (12, [q1 _, q2 1, q2 2, q2 3, q2 4, q2 5, q2 6, q2 7, q2 8, q2 9, q1 _, q1 _, q1 _, q1 _, q1 _, q3 _, q1 _, q1 _, q1 _, q2 10, q2 11, q1 _, q1 _, q1 _, q1 _, q1 _, q1 _, q2 12, q1 _, q2 13, q2 14, q2 15, q2 16, q1 _, q2 17, q1 _, q2 18, q2 19, q2 20, q2 21, q2 22, q1 _, q2 23, q2 24, q2 25]), .inl (1, 2400, .inl _)]) (And.intro rfl (And.intro rfl (And.intro rfl (And.intro ⟨⟨_, rfl⟩, rfl⟩ ?_))))))
    refine Exists.intro _ (Exists.intro _ (Exists.intro _ (Exists.intro _ (Exists.intro _ (Exists.intro _ (Exists.intro _ (Exists.intro _ (Exists.intro _ (Exists.intro _ (Exists.intro _ (Exists.intro _ (Exists.intro _ (Exists.intro _ (Exists.intro _ (Exists.intro _ (Exists.intro _ (Exists.intro _ (Exists.intro _ (Exists.intro _ (Exists.intro _ (And.intro rfl (And.intro rfl (And.intro (by first | omega | assumption | exact q_rg_up (by assumption) (by omega) | exact q_rg_up (q_rg_up (by assumption) (by omega)) (by omega) | exact q_rg_cpy (by assumption) (by assumption)) (?_))))))))))))))))))))))))
    intro x_mre_26 x_mbe_26 x_mso_26 x_mva_26 x_mwo_26 hq_26
    apply And.intro
    · exact ⟨by omega, by omega⟩
    refine Exists.intro [0, 1, 2, 4, 5, 6, 7, 8, 9, 10, 11, 3, 12, 13, 14, 15, 16, 17, 18, 19, 20, 21, 22, 23, 24, 25] (Exists.intro [q2 0, q1 _, q1 _, q1 _] (Exists.intro ([.inr (12, [q1 _, q2 1, q2 3, q2 4, q2 5, q2 6, q2 7, q2 8, q2 9, q2 10, q1 _, q1 _, q1 _, q1 _, q1 _, q3 _, q1 _, q1 _, q1 _, q2 11, q2 2, q1 _, q1 _, q1 _, q1 _, q1 _, q1 _, q2 12, q1 _, q2 13, q2 14, q2 15, q2 16, q1 _, q2 17, q1 _, q2 18, q2 19, q2 20, q2 21, q2 22, q1 _, q2 23, q2 24, q2 25]), .inl (1, 2400, .inl _), .inl (0, 4, .inl _)]) (And.intro rfl (And.intro rfl (And.intro rfl (And.intro ⟨⟨_, rfl⟩, rfl⟩ ?_))))))
    refine Exists.intro _ (Exists.intro _ (Exists.intro _ (Exists.intro _ (Exists.intro _ (Exists.intro _ (Exists.intro _ (Exists.intro _ (Exists.intro _ (Exists.intro _ (Exists.intro _ (Exists.intro _ (Exists.intro _ (Exists.intro _ (Exists.intro _ (Exists.intro _ (Exists.intro _ (Exists.intro _ (Exists.intro _ (Exists.intro _ (Exists.intro _ (Exists.intro _ (Exists.intro _ (Exists.intro _ (Exists.intro _ (Exists.intro _ (Exists.intro _ (Exists.intro _ (Exists.intro _ (Exists.intro _ (And.intro rfl (And.intro rfl (And.intro (by first | omega | assumption | exact q_rg_up (by assumption) (by omega) | exact q_rg_up (q_rg_up (by assumption) (by omega)) (by omega) | exact q_rg_cpy (by assumption) (by assumption)) (And.intro (by decide) (And.intro (LnS_f (w := gw) hLS hat hq_26.1 (fun q9 => fu_y hw9 hyt.1 (hLS.2.2.2.1 q9).1) hq_22 hgo) (And.intro y9.1 (And.intro ⟨y9.2.1.symm, y9.2.2.symm⟩ (And.intro (by omega) (?_))))))))))))))))))))))))))))))))))))))
    intro zq_41 x_mre_41 x_mbe_41 x_mso_41 x_mva_41 x_mwo_41 x_mwr_41 x_mlf_41 x_mlp_41 x_mgo_41 x_re_41 hq_41
    have S9 := LnS_f (go := mgo) (w := gw) hLS hat hq_26.1 (fun q9 => fu_y hw9 hyt.1 (hLS.2.2.2.1 q9).1) hq_22 hgo
    apply And.intro
    · intro hq_44
      apply And.intro
      · intro hq_52
        apply And.intro
        · intro hq_66
          have yo := ye_f (w := gw) (by omega)
          apply And.intro
          · exact ⟨by omega, by omega⟩
          intro zq_90 hq_90
          have e90 : zq_90 = lvs (tc tp) mle gw gp ((0 : Nat) : Int).toNat := by rw [hq_90, (dj1 hq_41.2.2.2 hq_44).2]; exact q_up_s
          refine Exists.intro [0, 1, 2, 4, 5, 6, 7, 8, 9, 10, 11, 3, 12, 13, 14, 15, 16, 17, 18, 19, 20, 21, 22, 23, 24, 25] (Exists.intro [q2 0, q1 _, q1 _, q1 _, q1 _] (Exists.intro ([.inr (12, [q1 _, q2 1, q2 3, q2 4, q2 5, q2 6, q2 7, q2 8, q2 9, q2 10, q1 _, q1 _, q1 _, q1 _, q1 _, q3 _, q1 _, q1 _, q1 _, q2 11, q2 2, q1 _, q1 _, q1 _, q1 _, q1 _, q1 _, q2 12, q1 _, q2 13, q2 14, q2 15, q2 16, q1 _, q2 17, q1 _, q2 18, q2 19, q2 20, q2 21, q2 22, q1 _, q2 23, q2 24, q2 25]), .inl (1, 2400, .inl _), .inl (0, 4, .inl _)]) (And.intro rfl (And.intro rfl (And.intro rfl (And.intro ⟨⟨_, rfl⟩, rfl⟩ ?_))))))
          refine Exists.intro _ (Exists.intro _ (Exists.intro _ (Exists.intro _ (Exists.intro _ (Exists.intro _ (Exists.intro _ (Exists.intro _ (Exists.intro _ (Exists.intro _ (Exists.intro _ (Exists.intro _ (Exists.intro _ (Exists.intro _ (Exists.intro _ (Exists.intro _ (Exists.intro _ (Exists.intro _ (Exists.intro _ (Exists.intro _ (Exists.intro _ (Exists.intro _ (Exists.intro _ (Exists.intro _ (Exists.intro _ (Exists.intro _ (Exists.intro _ (Exists.intro _ (Exists.intro _ (Exists.intro _ (Exists.intro _ (And.intro rfl (And.intro rfl (And.intro (by first | omega | assumption | exact q_rg_up (by assumption) (by omega) | exact q_rg_up (q_rg_up (by assumption) (by omega)) (by omega) | exact q_rg_cpy (by assumption) (by assumption)) (And.intro (by decide) (And.intro (dj1 hq_41.2.2.2 hq_44).1 (And.intro yo.1 (And.intro ⟨yo.2.1.symm, yo.2.2.1.symm⟩ (And.intro (Or.inl ⟨⟨Or.inr (by omega), rfl⟩, e90⟩) (?_)))))))))))))))))))))))))))))))))))))))
          intro zq_91 x_mre_91 x_mbe_91 x_mso_91 x_mva_91 x_mwo_91 x_mwr_91 x_mlf_91 x_mlp_91 x_mgo_91 x_re_91 hq_91
          apply And.intro
          · intro hq_94
            exact ⟨_, _, _, _, _, _, _, _, _, _, _, _, _, rfl, rfl, rfl, rfl, (by first | omega | assumption | exact q_rg_up (by assumption) (by omega) | exact q_rg_up (q_rg_up (by assumption) (by omega)) (by omega) | exact q_rg_cpy (by assumption) (by assumption)), (by first | omega | assumption | exact q_rg_up (by assumption) (by omega) | exact q_rg_up (q_rg_up (by assumption) (by omega)) (by omega) | exact q_rg_cpy (by assumption) (by assumption)), (by first | omega | assumption | exact q_rg_up (by assumption) (by omega) | exact q_rg_up (q_rg_up (by assumption) (by omega)) (by omega) | exact q_rg_cpy (by assumption) (by assumption)), (by first | exact Yr_2 (dj1 hq_41.2.2.2 hq_44).1 n9 (by have q9 := hq_57.2.2.2; rw [(dj1 hq_41.2.2.2 hq_44).2] at q9; exact q9) q_up_s yo.2 | exact Yr_2 (dj1 hq_41.2.2.2 hq_44).1 n9 (by have q9 := hq_74.2.2.2; rw [(dj1 hq_41.2.2.2 hq_44).2] at q9; exact q9) q_up_s yo.2.2.2 | exact Yr_3 (dj1 hq_91.2.2.2 hq_94).1 n9 (by rw [(dj1 hq_91.2.2.2 hq_94).2, (dj1 hq_41.2.2.2 hq_44).2]; rfl) (TkP_1 hq_102.2.2.2 hq_105) | exact Yr_0 (dj1 hq_41.2.2.2 hq_44).1 n9 (by decide) (dj0 hq_91.2.2.2 hq_94) | exact Yr_0 (dj1 hq_91.2.2.2 hq_94).1 n9 (by decide) (dj0 hq_102.2.2.2 hq_105)), (by first | (intro q9 q8; exfalso; omega) | exact fun q9 q8 => Yr_o (by have q7 := Yr_2 (dj1 hq_41.2.2.2 hq_44).1 n9 (by have q9 := hq_57.2.2.2; rw [(dj1 hq_41.2.2.2 hq_44).2] at q9; exact q9) q_up_s yo.2; rw [q9] at q7; exact q7) (by omega))⟩
          · intro hq_94
            refine Exists.intro [0, 1, 2, 4, 5, 6, 7, 8, 9, 10, 11, 3, 12, 13, 14, 15, 16, 17, 18, 19, 20, 21, 22, 23, 24, 25] (Exists.intro [q2 0, q1 _, q1 _, q1 _] (Exists.intro ([.inr (12, [q1 _, q2 1, q2 3, q2 4, q2 5, q2 6, q2 7, q2 8, q2 9, q2 10, q1 _, q1 _, q1 _, q1 _, q1 _, q3 _, q1 _, q1 _, q1 _, q2 11, q2 2, q1 _, q1 _, q1 _, q1 _, q1 _, q1 _, q2 12, q1 _, q2 13, q2 14, q2 15, q2 16, q1 _, q2 17, q1 _, q2 18, q2 19, q2 20, q2 21, q2 22, q1 _, q2 23, q2 24, q2 25]), .inl (1, 2400, .inl _), .inl (0, 4, .inl _)]) (And.intro rfl (And.intro rfl (And.intro rfl (And.intro ⟨⟨_, rfl⟩, rfl⟩ ?_))))))
            refine Exists.intro _ (Exists.intro _ (Exists.intro _ (Exists.intro _ (Exists.intro _ (Exists.intro _ (Exists.intro _ (Exists.intro _ (Exists.intro _ (Exists.intro _ (Exists.intro _ (Exists.intro _ (Exists.intro _ (Exists.intro _ (Exists.intro _ (Exists.intro _ (Exists.intro _ (Exists.intro _ (Exists.intro _ (Exists.intro _ (Exists.intro _ (Exists.intro _ (Exists.intro _ (Exists.intro _ (Exists.intro _ (Exists.intro _ (Exists.intro _ (Exists.intro _ (Exists.intro _ (Exists.intro _ (And.intro rfl (And.intro rfl (And.intro (by first | omega | assumption | exact q_rg_up (by assumption) (by omega) | exact q_rg_up (q_rg_up (by assumption) (by omega)) (by omega) | exact q_rg_cpy (by assumption) (by assumption)) (And.intro (by decide) (And.intro (dj1 hq_91.2.2.2 hq_94).1 (And.intro yo.2.2.2.1 (And.intro ⟨yo.2.2.2.2.1.symm, yo.2.2.2.2.2.symm⟩ (And.intro (by omega) (?_))))))))))))))))))))))))))))))))))))))
            intro zq_102 x_mre_102 x_mbe_102 x_mso_102 x_mva_102 x_mwo_102 x_mwr_102 x_mlf_102 x_mlp_102 x_mgo_102 x_re_102 hq_102
            apply And.intro
            · intro hq_105
              exact ⟨_, _, _, _, _, _, _, _, _, _, _, _, _, rfl, rfl, rfl, rfl, (by first | omega | assumption | exact q_rg_up (by assumption) (by omega) | exact q_rg_up (q_rg_up (by assumption) (by omega)) (by omega) | exact q_rg_cpy (by assumption) (by assumption)), (by first | omega | assumption | exact q_rg_up (by assumption) (by omega) | exact q_rg_up (q_rg_up (by assumption) (by omega)) (by omega) | exact q_rg_cpy (by assumption) (by assumption)), (by first | omega | assumption | exact q_rg_up (by assumption) (by omega) | exact q_rg_up (q_rg_up (by assumption) (by omega)) (by omega) | exact q_rg_cpy (by assumption) (by assumption)), (by first | exact Yr_2 (dj1 hq_41.2.2.2 hq_44).1 n9 (by have q9 := hq_57.2.2.2; rw [(dj1 hq_41.2.2.2 hq_44).2] at q9; exact q9) q_up_s yo.2 | exact Yr_2 (dj1 hq_41.2.2.2 hq_44).1 n9 (by have q9 := hq_74.2.2.2; rw [(dj1 hq_41.2.2.2 hq_44).2] at q9; exact q9) q_up_s yo.2.2.2 | exact Yr_3 (dj1 hq_91.2.2.2 hq_94).1 n9 (by rw [(dj1 hq_91.2.2.2 hq_94).2, (dj1 hq_41.2.2.2 hq_44).2]; rfl) (TkP_1 hq_102.2.2.2 hq_105) | exact Yr_0 (dj1 hq_41.2.2.2 hq_44).1 n9 (by decide) (dj0 hq_91.2.2.2 hq_94) | exact Yr_0 (dj1 hq_91.2.2.2 hq_94).1 n9 (by decide) (dj0 hq_102.2.2.2 hq_105)), (by first | (intro q9 q8; exfalso; omega) | exact fun q9 q8 => Yr_o (by have q7 := Yr_2 (dj1 hq_41.2.2.2 hq_44).1 n9 (by have q9 := hq_57.2.2.2; rw [(dj1 hq_41.2.2.2 hq_44).2] at q9; exact q9) q_up_s yo.2; rw [q9] at q7; exact q7) (by omega))⟩
            · intro hq_105
              exact ⟨_, _, _, _, _, _, _, _, _, _, _, _, _, rfl, rfl, rfl, rfl, (by first | omega | assumption | exact q_rg_up (by assumption) (by omega) | exact q_rg_up (q_rg_up (by assumption) (by omega)) (by omega) | exact q_rg_cpy (by assumption) (by assumption)), (by first | omega | assumption | exact q_rg_up (by assumption) (by omega) | exact q_rg_up (q_rg_up (by assumption) (by omega)) (by omega) | exact q_rg_cpy (by assumption) (by assumption)), (by first | omega | assumption | exact q_rg_up (by assumption) (by omega) | exact q_rg_up (q_rg_up (by assumption) (by omega)) (by omega) | exact q_rg_cpy (by assumption) (by assumption)), (by first | exact Yr_2 (dj1 hq_41.2.2.2 hq_44).1 n9 (by have q9 := hq_57.2.2.2; rw [(dj1 hq_41.2.2.2 hq_44).2] at q9; exact q9) q_up_s yo.2 | exact Yr_2 (dj1 hq_41.2.2.2 hq_44).1 n9 (by have q9 := hq_74.2.2.2; rw [(dj1 hq_41.2.2.2 hq_44).2] at q9; exact q9) q_up_s yo.2.2.2 | exact Yr_3 (dj1 hq_91.2.2.2 hq_94).1 n9 (by rw [(dj1 hq_91.2.2.2 hq_94).2, (dj1 hq_41.2.2.2 hq_44).2]; rfl) (TkP_1 hq_102.2.2.2 hq_105) | exact Yr_0 (dj1 hq_41.2.2.2 hq_44).1 n9 (by decide) (dj0 hq_91.2.2.2 hq_94) | exact Yr_0 (dj1 hq_91.2.2.2 hq_94).1 n9 (by decide) (dj0 hq_102.2.2.2 hq_105)), (by first | (intro q9 q8; exfalso; omega) | exact fun q9 q8 => Yr_o (by have q7 := Yr_2 (dj1 hq_41.2.2.2 hq_44).1 n9 (by have q9 := hq_57.2.2.2; rw [(dj1 hq_41.2.2.2 hq_44).2] at q9; exact q9) q_up_s yo.2; rw [q9] at q7; exact q7) (by omega))⟩
        · intro hq_66
          have yo := ye_g (w := gw) (by omega)
          refine Exists.intro [0, 1, 2, 4, 5, 6, 7, 8, 9, 10, 11, 3, 12, 13, 14, 15, 16, 17, 18, 19, 20, 21, 22, 23, 24, 25] (Exists.intro [q2 0, q1 _, q1 _, q1 _] (Exists.intro ([.inr (12, [q1 _, q2 1, q2 3, q2 4, q2 5, q2 6, q2 7, q2 8, q2 9, q2 10, q1 _, q1 _, q1 _, q1 _, q1 _, q3 _, q1 _, q1 _, q1 _, q2 11, q2 2, q1 _, q1 _, q1 _, q1 _, q1 _, q1 _, q2 12, q1 _, q2 13, q2 14, q2 15, q2 16, q1 _, q2 17, q1 _, q2 18, q2 19, q2 20, q2 21, q2 22, q1 _, q2 23, q2 24, q2 25]), .inl (1, 2400, .inl _), .inl (0, 4, .inl _)]) (And.intro rfl (And.intro rfl (And.intro rfl (And.intro ⟨⟨_, rfl⟩, rfl⟩ ?_))))))
          refine Exists.intro _ (Exists.intro _ (Exists.intro _ (Exists.intro _ (Exists.intro _ (Exists.intro _ (Exists.intro _ (Exists.intro _ (Exists.intro _ (Exists.intro _ (Exists.intro _ (Exists.intro _ (Exists.intro _ (Exists.intro _ (Exists.intro _ (Exists.intro _ (Exists.intro _ (Exists.intro _ (Exists.intro _ (Exists.intro _ (Exists.intro _ (Exists.intro _ (Exists.intro _ (Exists.intro _ (Exists.intro _ (Exists.intro _ (Exists.intro _ (Exists.intro _ (Exists.intro _ (Exists.intro _ (And.intro rfl (And.intro rfl (And.intro (by first | omega | assumption | exact q_rg_up (by assumption) (by omega) | exact q_rg_up (q_rg_up (by assumption) (by omega)) (by omega) | exact q_rg_cpy (by assumption) (by assumption)) (And.intro (by decide) (And.intro (dj1 hq_41.2.2.2 hq_44).1 (And.intro yo.1 (And.intro ⟨yo.2.1.symm, yo.2.2.1.symm⟩ (And.intro (by omega) (?_))))))))))))))))))))))))))))))))))))))
          intro zq_74 x_mre_74 x_mbe_74 x_mso_74 x_mva_74 x_mwo_74 x_mwr_74 x_mlf_74 x_mlp_74 x_mgo_74 x_re_74 hq_74
          exact ⟨_, _, _, _, _, _, _, _, _, _, _, _, _, rfl, rfl, rfl, rfl, (by first | omega | assumption | exact q_rg_up (by assumption) (by omega) | exact q_rg_up (q_rg_up (by assumption) (by omega)) (by omega) | exact q_rg_cpy (by assumption) (by assumption)), (by first | omega | assumption | exact q_rg_up (by assumption) (by omega) | exact q_rg_up (q_rg_up (by assumption) (by omega)) (by omega) | exact q_rg_cpy (by assumption) (by assumption)), (by first | omega | assumption | exact q_rg_up (by assumption) (by omega) | exact q_rg_up (q_rg_up (by assumption) (by omega)) (by omega) | exact q_rg_cpy (by assumption) (by assumption)), (by first | exact Yr_2 (dj1 hq_41.2.2.2 hq_44).1 n9 (by have q9 := hq_57.2.2.2; rw [(dj1 hq_41.2.2.2 hq_44).2] at q9; exact q9) q_up_s yo.2 | exact Yr_2 (dj1 hq_41.2.2.2 hq_44).1 n9 (by have q9 := hq_74.2.2.2; rw [(dj1 hq_41.2.2.2 hq_44).2] at q9; exact q9) q_up_s yo.2.2.2 | exact Yr_3 (dj1 hq_91.2.2.2 hq_94).1 n9 (by rw [(dj1 hq_91.2.2.2 hq_94).2, (dj1 hq_41.2.2.2 hq_44).2]; rfl) (TkP_1 hq_102.2.2.2 hq_105) | exact Yr_0 (dj1 hq_41.2.2.2 hq_44).1 n9 (by decide) (dj0 hq_91.2.2.2 hq_94) | exact Yr_0 (dj1 hq_91.2.2.2 hq_94).1 n9 (by decide) (dj0 hq_102.2.2.2 hq_105)), (by first | (intro q9 q8; exfalso; omega) | exact fun q9 q8 => Yr_o (by have q7 := Yr_2 (dj1 hq_41.2.2.2 hq_44).1 n9 (by have q9 := hq_57.2.2.2; rw [(dj1 hq_41.2.2.2 hq_44).2] at q9; exact q9) q_up_s yo.2; rw [q9] at q7; exact q7) (by omega))⟩
      · intro hq_52
        have yo := ye_o (w := gw) (by omega)
        refine Exists.intro [0, 1, 2, 4, 5, 6, 7, 8, 9, 10, 11, 3, 12, 13, 14, 15, 16, 17, 18, 19, 20, 21, 22, 23, 24, 25] (Exists.intro [q2 0, q1 _] (Exists.intro ([.inr (12, [q1 _, q2 1, q2 3, q2 4, q2 5, q2 6, q2 7, q2 8, q2 9, q2 10, q1 _, q1 _, q1 _, q1 _, q1 _, q3 _, q1 _, q1 _, q1 _, q2 11, q2 2, q1 _, q1 _, q1 _, q1 _, q1 _, q1 _, q2 12, q1 _, q2 13, q2 14, q2 15, q2 16, q1 _, q2 17, q1 _, q2 18, q2 19, q2 20, q2 21, q2 22, q1 _, q2 23, q2 24, q2 25]), .inl (1, 2400, .inl _), .inl (0, 4, .inl _)]) (And.intro rfl (And.intro rfl (And.intro rfl (And.intro ⟨⟨_, rfl⟩, rfl⟩ ?_))))))
        refine Exists.intro _ (Exists.intro _ (Exists.intro _ (Exists.intro _ (Exists.intro _ (Exists.intro _ (Exists.intro _ (Exists.intro _ (Exists.intro _ (Exists.intro _ (Exists.intro _ (Exists.intro _ (Exists.intro _ (Exists.intro _ (Exists.intro _ (Exists.intro _ (Exists.intro _ (Exists.intro _ (Exists.intro _ (Exists.intro _ (Exists.intro _ (Exists.intro _ (Exists.intro _ (Exists.intro _ (Exists.intro _ (Exists.intro _ (Exists.intro _ (Exists.intro _ (And.intro rfl (And.intro rfl (And.intro (by first | omega | assumption | exact q_rg_up (by assumption) (by omega) | exact q_rg_up (q_rg_up (by assumption) (by omega)) (by omega) | exact q_rg_cpy (by assumption) (by assumption)) (And.intro (by decide) (And.intro (dj1 hq_41.2.2.2 hq_44).1 (And.intro yo.1 (?_))))))))))))))))))))))))))))))))))
        intro zq_57 x_mre_57 x_mbe_57 x_mso_57 x_mva_57 x_mwo_57 x_mwr_57 x_re_57 hq_57
        exact ⟨_, _, _, _, _, _, _, _, _, _, _, _, _, rfl, rfl, rfl, rfl, (by first | omega | assumption | exact q_rg_up (by assumption) (by omega) | exact q_rg_up (q_rg_up (by assumption) (by omega)) (by omega) | exact q_rg_cpy (by assumption) (by assumption)), (by first | omega | assumption | exact q_rg_up (by assumption) (by omega) | exact q_rg_up (q_rg_up (by assumption) (by omega)) (by omega) | exact q_rg_cpy (by assumption) (by assumption)), (by first | omega | assumption | exact q_rg_up (by assumption) (by omega) | exact q_rg_up (q_rg_up (by assumption) (by omega)) (by omega) | exact q_rg_cpy (by assumption) (by assumption)), (by first | exact Yr_2 (dj1 hq_41.2.2.2 hq_44).1 n9 (by have q9 := hq_57.2.2.2; rw [(dj1 hq_41.2.2.2 hq_44).2] at q9; exact q9) q_up_s yo.2 | exact Yr_2 (dj1 hq_41.2.2.2 hq_44).1 n9 (by have q9 := hq_74.2.2.2; rw [(dj1 hq_41.2.2.2 hq_44).2] at q9; exact q9) q_up_s yo.2.2.2 | exact Yr_3 (dj1 hq_91.2.2.2 hq_94).1 n9 (by rw [(dj1 hq_91.2.2.2 hq_94).2, (dj1 hq_41.2.2.2 hq_44).2]; rfl) (TkP_1 hq_102.2.2.2 hq_105) | exact Yr_0 (dj1 hq_41.2.2.2 hq_44).1 n9 (by decide) (dj0 hq_91.2.2.2 hq_94) | exact Yr_0 (dj1 hq_91.2.2.2 hq_94).1 n9 (by decide) (dj0 hq_102.2.2.2 hq_105)), (by first | (intro q9 q8; exfalso; omega) | exact fun q9 q8 => Yr_o (by have q7 := Yr_2 (dj1 hq_41.2.2.2 hq_44).1 n9 (by have q9 := hq_57.2.2.2; rw [(dj1 hq_41.2.2.2 hq_44).2] at q9; exact q9) q_up_s yo.2; rw [q9] at q7; exact q7) (by omega))⟩
    · intro hq_44
      apply And.intro
      · first | exact Or.inl rfl | exact Or.inr rfl | omega
      exact hQ _ _ _ _ _ _ _ _ _ _ _ _ ⟨by omega, by omega, by omega, (by first | assumption | exact hq_132.2), (by first | (rw [hq_13.1]; exact LnO_n hgw (by omega) (hq_13.2.trans hLS.1.1)) | exact LnO_m hgw (LnM_0 S9 n9 (by decide) (dj0 hq_41.2.2.2 hq_44)) n9 | exact LnO_m hgw (Yr_y hY9 hq_117 hw9 rfl (by rw [← hd9]; exact hq_132.1) hLS.2.2.2.1 hyt.1.1) (by omega) | (rw [hq_117]; exact LnO_m hgw (Yr_n hY9 hq_117) (by omega)))⟩
  · intro hq_9
    refine Exists.intro [0, 1, 4, 5, 6, 7, 8, 9, 10, 11, 3, 2, 12, 13, 14, 15, 16, 17, 18, 19, 20, 21, 22, 23, 24, 25] (Exists.intro [q2 0] (Exists.intro ([.inr (12, [q1 _, q2 1, q2 2, q2 3, q2 4, q2 5, q2 6, q2 7, q2 8, q2 9, q1 _, q1 _, q1 _, q1 _, q1 _, q3 _, q1 _, q1 _, q1 _, q2 10, q2 11, q1 _, q1 _, q1 _, q1 _, q1 _, q1 _, q2 12, q1 _, q2 13, q2 14, q2 15, q2 16, q1 _, q2 17, q1 _, q2 18, q2 19, q2 20, q2 21, q2 22, q1 _, q2 23, q2 24, q2 25])]) (And.intro rfl (And.intro rfl (And.intro rfl (And.intro ⟨⟨_, rfl⟩, rfl⟩ ?_))))))
    refine Exists.intro _ (Exists.intro _ (Exists.intro _ (Exists.intro _ (Exists.intro _ (Exists.intro _ (Exists.intro _ (Exists.intro _ (Exists.intro _ (Exists.intro _ (Exists.intro _ (Exists.intro _ (Exists.intro _ (Exists.intro _ (Exists.intro _ (Exists.intro _ (Exists.intro _ (Exists.intro _ (Exists.intro _ (Exists.intro _ (And.intro rfl (And.intro rfl (?_))))))))))))))))))))))
    intro zq_13 x_mwr_13 hq_13
    apply And.intro
    · first | exact Or.inl rfl | exact Or.inr rfl | omega
    exact hQ _ _ _ _ _ _ _ _ _ _ _ _ ⟨by omega, by omega, by omega, (by first | assumption | exact hq_132.2), (by first | (rw [hq_13.1]; exact LnO_n hgw (by omega) (hq_13.2.trans hLS.1.1)) | exact LnO_m hgw (LnM_0 S9 n9 (by decide) (dj0 hq_41.2.2.2 hq_44)) n9 | exact LnO_m hgw (Yr_y hY9 hq_117 hw9 rfl (by rw [← hd9]; exact hq_132.1) hLS.2.2.2.1 hyt.1.1) (by omega) | (rw [hq_117]; exact LnO_m hgw (Yr_n hY9 hq_117) (by omega)))⟩

theorem dF12_ledgerLine_0 : decode cX12_ledgerLine 0 = .ok (.lload_n 1, 1) := by decide +kernel
theorem dF12_ledgerLine_1 : decode cX12_ledgerLine 1 = .ok (.ldc2_w 247, 3) := by decide +kernel
theorem dF12_ledgerLine_4 : decode cX12_ledgerLine 4 = .ok (.lcmp, 1) := by decide +kernel
theorem dF12_ledgerLine_5 : decode cX12_ledgerLine 5 = .ok (.ifCond .eq 16, 3) := by decide +kernel
theorem dF12_ledgerLine_8 : decode cX12_ledgerLine 8 = .ok (.lload_n 1, 1) := by decide +kernel
theorem dF12_ledgerLine_9 : decode cX12_ledgerLine 9 = .ok (.ldc2_w 249, 3) := by decide +kernel
theorem dF12_ledgerLine_12 : decode cX12_ledgerLine 12 = .ok (.lcmp, 1) := by decide +kernel
theorem dF12_ledgerLine_13 : decode cX12_ledgerLine 13 = .ok (.ifCond .eq 8, 3) := by decide +kernel
theorem dF12_ledgerLine_16 : decode cX12_ledgerLine 16 = .ok (.aload_n 0, 1) := by decide +kernel
theorem dF12_ledgerLine_17 : decode cX12_ledgerLine 17 = .ok (.invokevirtual 140, 3) := by decide +kernel
theorem dF12_ledgerLine_20 : decode cX12_ledgerLine 20 = .ok (.ireturn, 1) := by decide +kernel
theorem dF12_ledgerLine_21 : decode cX12_ledgerLine 21 = .ok (.aload_n 0, 1) := by decide +kernel
theorem dF12_ledgerLine_22 : decode cX12_ledgerLine 22 = .ok (.invokevirtual 152, 3) := by decide +kernel
theorem dF12_ledgerLine_25 : decode cX12_ledgerLine 25 = .ok (.lload_n 1, 1) := by decide +kernel
theorem dF12_ledgerLine_26 : decode cX12_ledgerLine 26 = .ok (.ldc2_w 249, 3) := by decide +kernel
theorem dF12_ledgerLine_29 : decode cX12_ledgerLine 29 = .ok (.lcmp, 1) := by decide +kernel
theorem dF12_ledgerLine_30 : decode cX12_ledgerLine 30 = .ok (.ifCond .ne 31, 3) := by decide +kernel
theorem dF12_ledgerLine_33 : decode cX12_ledgerLine 33 = .ok (.aload_n 0, 1) := by decide +kernel
theorem dF12_ledgerLine_34 : decode cX12_ledgerLine 34 = .ok (.iconst 0, 1) := by decide +kernel
theorem dF12_ledgerLine_35 : decode cX12_ledgerLine 35 = .ok (.iconst 0, 1) := by decide +kernel
theorem dF12_ledgerLine_36 : decode cX12_ledgerLine 36 = .ok (.bipush 99, 2) := by decide +kernel
theorem dF12_ledgerLine_38 : decode cX12_ledgerLine 38 = .ok (.invokevirtual 174, 3) := by decide +kernel
theorem dF12_ledgerLine_41 : decode cX12_ledgerLine 41 = .ok (.ifCond .ne 5, 3) := by decide +kernel
theorem dF12_ledgerLine_44 : decode cX12_ledgerLine 44 = .ok (.iconst 0, 1) := by decide +kernel
theorem dF12_ledgerLine_45 : decode cX12_ledgerLine 45 = .ok (.ireturn, 1) := by decide +kernel
theorem dF12_ledgerLine_46 : decode cX12_ledgerLine 46 = .ok (.aload_n 0, 1) := by decide +kernel
theorem dF12_ledgerLine_47 : decode cX12_ledgerLine 47 = .ok (.getfield 38, 3) := by decide +kernel
theorem dF12_ledgerLine_50 : decode cX12_ledgerLine 50 = .ok (.bipush 8, 2) := by decide +kernel
theorem dF12_ledgerLine_52 : decode cX12_ledgerLine 52 = .ok (.aload_n 0, 1) := by decide +kernel
theorem dF12_ledgerLine_53 : decode cX12_ledgerLine 53 = .ok (.getfield 41, 3) := by decide +kernel
theorem dF12_ledgerLine_56 : decode cX12_ledgerLine 56 = .ok (.iconst 0, 1) := by decide +kernel
theorem dF12_ledgerLine_57 : decode cX12_ledgerLine 57 = .ok (.iaload, 1) := by decide +kernel
theorem dF12_ledgerLine_58 : decode cX12_ledgerLine 58 = .ok (.iastore, 1) := by decide +kernel
theorem dF12_ledgerLine_59 : decode cX12_ledgerLine 59 = .ok (.iconst 1, 1) := by decide +kernel
theorem dF12_ledgerLine_60 : decode cX12_ledgerLine 60 = .ok (.ireturn, 1) := by decide +kernel
theorem dF12_ledgerLine_61 : decode cX12_ledgerLine 61 = .ok (.aload_n 0, 1) := by decide +kernel
theorem dF12_ledgerLine_62 : decode cX12_ledgerLine 62 = .ok (.iconst 0, 1) := by decide +kernel
theorem dF12_ledgerLine_63 : decode cX12_ledgerLine 63 = .ok (.iconst 0, 1) := by decide +kernel
theorem dF12_ledgerLine_64 : decode cX12_ledgerLine 64 = .ok (.bipush 7, 2) := by decide +kernel
theorem dF12_ledgerLine_66 : decode cX12_ledgerLine 66 = .ok (.invokevirtual 174, 3) := by decide +kernel
theorem dF12_ledgerLine_69 : decode cX12_ledgerLine 69 = .ok (.ifCond .eq 14, 3) := by decide +kernel
theorem dF12_ledgerLine_72 : decode cX12_ledgerLine 72 = .ok (.aload_n 0, 1) := by decide +kernel
theorem dF12_ledgerLine_73 : decode cX12_ledgerLine 73 = .ok (.iconst 1, 1) := by decide +kernel
theorem dF12_ledgerLine_74 : decode cX12_ledgerLine 74 = .ok (.iconst 0, 1) := by decide +kernel
theorem dF12_ledgerLine_75 : decode cX12_ledgerLine 75 = .ok (.bipush 99, 2) := by decide +kernel
theorem dF12_ledgerLine_77 : decode cX12_ledgerLine 77 = .ok (.invokevirtual 174, 3) := by decide +kernel
theorem dF12_ledgerLine_80 : decode cX12_ledgerLine 80 = .ok (.ifCond .ne 5, 3) := by decide +kernel
theorem dF12_ledgerLine_83 : decode cX12_ledgerLine 83 = .ok (.iconst 0, 1) := by decide +kernel
theorem dF12_ledgerLine_84 : decode cX12_ledgerLine 84 = .ok (.ireturn, 1) := by decide +kernel
theorem dF12_ledgerLine_85 : decode cX12_ledgerLine 85 = .ok (.aload_n 0, 1) := by decide +kernel
theorem dF12_ledgerLine_86 : decode cX12_ledgerLine 86 = .ok (.getfield 148, 3) := by decide +kernel
theorem dF12_ledgerLine_89 : decode cX12_ledgerLine 89 = .ok (.ifCond .eq 20, 3) := by decide +kernel
theorem dF12_ledgerLine_92 : decode cX12_ledgerLine 92 = .ok (.aload_n 0, 1) := by decide +kernel
theorem dF12_ledgerLine_93 : decode cX12_ledgerLine 93 = .ok (.getfield 38, 3) := by decide +kernel
theorem dF12_ledgerLine_96 : decode cX12_ledgerLine 96 = .ok (.aload_n 0, 1) := by decide +kernel
theorem dF12_ledgerLine_97 : decode cX12_ledgerLine 97 = .ok (.getfield 41, 3) := by decide +kernel
theorem dF12_ledgerLine_100 : decode cX12_ledgerLine 100 = .ok (.iconst 0, 1) := by decide +kernel
theorem dF12_ledgerLine_101 : decode cX12_ledgerLine 101 = .ok (.iaload, 1) := by decide +kernel
theorem dF12_ledgerLine_102 : decode cX12_ledgerLine 102 = .ok (.aload_n 0, 1) := by decide +kernel
theorem dF12_ledgerLine_103 : decode cX12_ledgerLine 103 = .ok (.getfield 41, 3) := by decide +kernel
theorem dF12_ledgerLine_106 : decode cX12_ledgerLine 106 = .ok (.iconst 1, 1) := by decide +kernel
theorem dF12_ledgerLine_107 : decode cX12_ledgerLine 107 = .ok (.iaload, 1) := by decide +kernel
theorem dF12_ledgerLine_108 : decode cX12_ledgerLine 108 = .ok (.iastore, 1) := by decide +kernel
theorem dF12_ledgerLine_109 : decode cX12_ledgerLine 109 = .ok (.iconst 1, 1) := by decide +kernel
theorem dF12_ledgerLine_110 : decode cX12_ledgerLine 110 = .ok (.ireturn, 1) := by decide +kernel
def is_F12_ledgerLine : Nat → List Nat := fun d => if d = 21 then [0, 1] else []
set_option maxRecDepth 100000 in
def b_F12_ledgerLine_109 (J : Nat → List qV → List qV → qW → Prop) (Q : qR) : qK := x_int 1 (x_zret Q)
set_option maxRecDepth 100000 in
theorem s_F12_ledgerLine_109 {p : Program} {l : Launch} {e : Env} {R : Room} {s : State} {m : MethodId} {args : Array Value} {below : List Frame} {meth : Method} {c : Code} {nW : Nat} {dC : Nat → ClassId} {dI : Nat → Nat → Nat} {k : Nat → ClassId} {g : Nat → Nat} {A : Nat → Prop} {J : Nat → List qV → List qV → qW → Prop} {Q : qR} (X : q_X p R s m args meth c cX12_ledgerLine 3 nW 4 91 RX12 (some .boolean) dC dI k g A) (hJ : ∀ d : Nat, q_Sd p l e R s m args below meth c 3 nW dC dI k g A (MQ below (q_post (dC, dI) k g nW Q A) args s 0 0 A) d (x_cut (is_F12_ledgerLine d) (J d))) : q_Sd p l e R s m args below meth c 3 nW dC dI k g A (MQ below (q_post (dC, dI) k g nW Q A) args s 0 0 A) 109 (b_F12_ledgerLine_109 J Q) := by
  unfold b_F12_ledgerLine_109
  refine s_iconst X ⟨by decide, by decide⟩ dF12_ledgerLine_109 ?_
  exact s_zret X dF12_ledgerLine_110
set_option maxRecDepth 100000 in
def b_F12_ledgerLine_83 (J : Nat → List qV → List qV → qW → Prop) (Q : qR) : qK := x_int 0 (x_zret Q)
set_option maxRecDepth 100000 in
theorem s_F12_ledgerLine_83 {p : Program} {l : Launch} {e : Env} {R : Room} {s : State} {m : MethodId} {args : Array Value} {below : List Frame} {meth : Method} {c : Code} {nW : Nat} {dC : Nat → ClassId} {dI : Nat → Nat → Nat} {k : Nat → ClassId} {g : Nat → Nat} {A : Nat → Prop} {J : Nat → List qV → List qV → qW → Prop} {Q : qR} (X : q_X p R s m args meth c cX12_ledgerLine 3 nW 4 91 RX12 (some .boolean) dC dI k g A) (hJ : ∀ d : Nat, q_Sd p l e R s m args below meth c 3 nW dC dI k g A (MQ below (q_post (dC, dI) k g nW Q A) args s 0 0 A) d (x_cut (is_F12_ledgerLine d) (J d))) : q_Sd p l e R s m args below meth c 3 nW dC dI k g A (MQ below (q_post (dC, dI) k g nW Q A) args s 0 0 A) 83 (b_F12_ledgerLine_83 J Q) := by
  unfold b_F12_ledgerLine_83
  refine s_iconst X ⟨by decide, by decide⟩ dF12_ledgerLine_83 ?_
  exact s_zret X dF12_ledgerLine_84
set_option maxRecDepth 100000 in
def b_F12_ledgerLine_61 (J : Nat → List qV → List qV → qW → Prop) (Q : qR) : qK := x_aload 0 (x_int 0 (x_int 0 (x_int 7 (x_call (some 12) 4 sp_F12_take (x_nw (x_if_eq (b_F12_ledgerLine_83 J Q) (x_aload 0 (x_int 1 (x_int 0 (x_int 99 (x_call (some 12) 4 sp_F12_take (x_nw (x_if_ne (x_aload 0 (x_get 12 23 (x_if_eq (b_F12_ledgerLine_109 J Q) (x_aload 0 (x_get 12 19 (x_aload 0 (x_get 12 20 (x_int 0 (x_iald (x_aload 0 (x_get 12 20 (x_int 1 (x_iald (x_iast (x_nw (b_F12_ledgerLine_109 J Q)))))))))))))))) (b_F12_ledgerLine_83 J Q))))))))))))))
set_option maxRecDepth 100000 in
theorem s_F12_ledgerLine_61 {p : Program} {l : Launch} {e : Env} {R : Room} {s : State} {m : MethodId} {args : Array Value} {below : List Frame} {meth : Method} {c : Code} {nW : Nat} {dC : Nat → ClassId} {dI : Nat → Nat → Nat} {k : Nat → ClassId} {g : Nat → Nat} {A : Nat → Prop} {J : Nat → List qV → List qV → qW → Prop} {Q : qR} (X : q_X p R s m args meth c cX12_ledgerLine 3 nW 4 91 RX12 (some .boolean) dC dI k g A) (hJ : ∀ d : Nat, q_Sd p l e R s m args below meth c 3 nW dC dI k g A (MQ below (q_post (dC, dI) k g nW Q A) args s 0 0 A) d (x_cut (is_F12_ledgerLine d) (J d))) : q_Sd p l e R s m args below meth c 3 nW dC dI k g A (MQ below (q_post (dC, dI) k g nW Q A) args s 0 0 A) 61 (b_F12_ledgerLine_61 J Q) := by
  unfold b_F12_ledgerLine_61
  refine s_aload_n X rfl dF12_ledgerLine_61 ?_
  refine s_iconst X ⟨by decide, by decide⟩ dF12_ledgerLine_62 ?_
  refine s_iconst X ⟨by decide, by decide⟩ dF12_ledgerLine_63 ?_
  refine s_bipush X ⟨by decide, by decide⟩ (by decide) dF12_ledgerLine_64 ?_
  refine s_callV X (m_F12_take l) tw_1097 tw_1098 tw_1621 tw_134 tw_1099 rfl (by decide +kernel) ⟨by decide, by decide⟩ dF12_ledgerLine_66 ?_
  refine s_nw ?_
  refine s_if_eq X (tgt := 83) dF12_ledgerLine_69 (by decide) ?_ ?_
  · exact s_F12_ledgerLine_83 X hJ
  · refine s_aload_n X rfl dF12_ledgerLine_72 ?_
    refine s_iconst X ⟨by decide, by decide⟩ dF12_ledgerLine_73 ?_
    refine s_iconst X ⟨by decide, by decide⟩ dF12_ledgerLine_74 ?_
    refine s_bipush X ⟨by decide, by decide⟩ (by decide) dF12_ledgerLine_75 ?_
    refine s_callV X (m_F12_take l) tw_1097 tw_1098 tw_1621 tw_134 tw_1099 rfl (by decide +kernel) ⟨by decide, by decide⟩ dF12_ledgerLine_77 ?_
    refine s_nw ?_
    refine s_if_ne X (tgt := 85) dF12_ledgerLine_80 (by decide) ?_ ?_
    · refine s_aload_n X rfl dF12_ledgerLine_85 ?_
      refine s_get X (T := TX12) (C := RX12) (N := 45) tu_X12 rfl (by decide) tw_1020 dF12_ledgerLine_86 ?_
      refine s_if_eq X (tgt := 109) dF12_ledgerLine_89 (by decide) ?_ ?_
      · exact s_F12_ledgerLine_109 X hJ
      · refine s_aload_n X rfl dF12_ledgerLine_92 ?_
        refine s_get X (T := TX12) (C := RX12) (N := 45) tu_X12 rfl (by decide) tw_1016 dF12_ledgerLine_93 ?_
        refine s_aload_n X rfl dF12_ledgerLine_96 ?_
        refine s_get X (T := TX12) (C := RX12) (N := 45) tu_X12 rfl (by decide) tw_1017 dF12_ledgerLine_97 ?_
        refine s_iconst X ⟨by decide, by decide⟩ dF12_ledgerLine_100 ?_
        refine s_iald X dF12_ledgerLine_101 ?_
        refine s_aload_n X rfl dF12_ledgerLine_102 ?_
        refine s_get X (T := TX12) (C := RX12) (N := 45) tu_X12 rfl (by decide) tw_1017 dF12_ledgerLine_103 ?_
        refine s_iconst X ⟨by decide, by decide⟩ dF12_ledgerLine_106 ?_
        refine s_iald X dF12_ledgerLine_107 ?_
        refine s_iast X dF12_ledgerLine_108 ?_
        refine s_nw ?_
        exact s_F12_ledgerLine_109 X hJ
    · exact s_F12_ledgerLine_83 X hJ
set_option maxRecDepth 100000 in
def b_F12_ledgerLine_21 (J : Nat → List qV → List qV → qW → Prop) (Q : qR) : qK := x_aload 0 (x_call (some 12) 1 sp_F12_token (x_nw (x_lload 1 (x_lng 1870095716 (x_lcmp (x_if_ne (b_F12_ledgerLine_61 J Q) (x_aload 0 (x_int 0 (x_int 0 (x_int 99 (x_call (some 12) 4 sp_F12_take (x_nw (x_if_ne (x_aload 0 (x_get 12 19 (x_int 8 (x_aload 0 (x_get 12 20 (x_int 0 (x_iald (x_iast (x_nw (x_int 1 (x_zret Q))))))))))) (x_int 0 (x_zret Q)))))))))))))))
set_option maxRecDepth 100000 in
theorem s_F12_ledgerLine_21 {p : Program} {l : Launch} {e : Env} {R : Room} {s : State} {m : MethodId} {args : Array Value} {below : List Frame} {meth : Method} {c : Code} {nW : Nat} {dC : Nat → ClassId} {dI : Nat → Nat → Nat} {k : Nat → ClassId} {g : Nat → Nat} {A : Nat → Prop} {J : Nat → List qV → List qV → qW → Prop} {Q : qR} (X : q_X p R s m args meth c cX12_ledgerLine 3 nW 4 91 RX12 (some .boolean) dC dI k g A) (hJ : ∀ d : Nat, q_Sd p l e R s m args below meth c 3 nW dC dI k g A (MQ below (q_post (dC, dI) k g nW Q A) args s 0 0 A) d (x_cut (is_F12_ledgerLine d) (J d))) : q_Sd p l e R s m args below meth c 3 nW dC dI k g A (MQ below (q_post (dC, dI) k g nW Q A) args s 0 0 A) 21 (b_F12_ledgerLine_21 J Q) := by
  unfold b_F12_ledgerLine_21
  refine s_aload_n X rfl dF12_ledgerLine_21 ?_
  refine s_callV X (m_F12_token l) tw_1070 tw_1071 tw_1627 tw_134 tw_1072 rfl (by decide +kernel) ⟨by decide, by decide⟩ dF12_ledgerLine_22 ?_
  refine s_nw ?_
  refine s_lload_n X rfl dF12_ledgerLine_25 ?_
  refine s_ldc2 X ⟨by decide, by decide⟩ tw_1161 dF12_ledgerLine_26 ?_
  refine s_lcmp X dF12_ledgerLine_29 ?_
  refine s_if_ne X (tgt := 61) dF12_ledgerLine_30 (by decide) ?_ ?_
  · exact s_F12_ledgerLine_61 X hJ
  · refine s_aload_n X rfl dF12_ledgerLine_33 ?_
    refine s_iconst X ⟨by decide, by decide⟩ dF12_ledgerLine_34 ?_
    refine s_iconst X ⟨by decide, by decide⟩ dF12_ledgerLine_35 ?_
    refine s_bipush X ⟨by decide, by decide⟩ (by decide) dF12_ledgerLine_36 ?_
    refine s_callV X (m_F12_take l) tw_1097 tw_1098 tw_1621 tw_134 tw_1099 rfl (by decide +kernel) ⟨by decide, by decide⟩ dF12_ledgerLine_38 ?_
    refine s_nw ?_
    refine s_if_ne X (tgt := 46) dF12_ledgerLine_41 (by decide) ?_ ?_
    · refine s_aload_n X rfl dF12_ledgerLine_46 ?_
      refine s_get X (T := TX12) (C := RX12) (N := 45) tu_X12 rfl (by decide) tw_1016 dF12_ledgerLine_47 ?_
      refine s_bipush X ⟨by decide, by decide⟩ (by decide) dF12_ledgerLine_50 ?_
      refine s_aload_n X rfl dF12_ledgerLine_52 ?_
      refine s_get X (T := TX12) (C := RX12) (N := 45) tu_X12 rfl (by decide) tw_1017 dF12_ledgerLine_53 ?_
      refine s_iconst X ⟨by decide, by decide⟩ dF12_ledgerLine_56 ?_
      refine s_iald X dF12_ledgerLine_57 ?_
      refine s_iast X dF12_ledgerLine_58 ?_
      refine s_nw ?_
      refine s_iconst X ⟨by decide, by decide⟩ dF12_ledgerLine_59 ?_
      exact s_zret X dF12_ledgerLine_60
    · refine s_iconst X ⟨by decide, by decide⟩ dF12_ledgerLine_44 ?_
      exact s_zret X dF12_ledgerLine_45
set_option maxRecDepth 100000 in
def b_F12_ledgerLine_0 (J : Nat → List qV → List qV → qW → Prop) (Q : qR) : qK := x_lload 1 (x_lng 6778740 (x_lcmp (x_if_eq (x_cut [0, 1] (J 21)) (x_lload 1 (x_lng 1870095716 (x_lcmp (x_if_eq (x_cut [0, 1] (J 21)) (x_aload 0 (x_call (some 12) 1 sp_F12_fails (x_nw (x_zret Q)))))))))))
set_option maxRecDepth 100000 in
theorem s_F12_ledgerLine_0 {p : Program} {l : Launch} {e : Env} {R : Room} {s : State} {m : MethodId} {args : Array Value} {below : List Frame} {meth : Method} {c : Code} {nW : Nat} {dC : Nat → ClassId} {dI : Nat → Nat → Nat} {k : Nat → ClassId} {g : Nat → Nat} {A : Nat → Prop} {J : Nat → List qV → List qV → qW → Prop} {Q : qR} (X : q_X p R s m args meth c cX12_ledgerLine 3 nW 4 91 RX12 (some .boolean) dC dI k g A) (hJ : ∀ d : Nat, q_Sd p l e R s m args below meth c 3 nW dC dI k g A (MQ below (q_post (dC, dI) k g nW Q A) args s 0 0 A) d (x_cut (is_F12_ledgerLine d) (J d))) : q_Sd p l e R s m args below meth c 3 nW dC dI k g A (MQ below (q_post (dC, dI) k g nW Q A) args s 0 0 A) 0 (b_F12_ledgerLine_0 J Q) := by
  unfold b_F12_ledgerLine_0
  refine s_lload_n X rfl dF12_ledgerLine_0 ?_
  refine s_ldc2 X ⟨by decide, by decide⟩ tw_1160 dF12_ledgerLine_1 ?_
  refine s_lcmp X dF12_ledgerLine_4 ?_
  refine s_if_eq X (tgt := 21) dF12_ledgerLine_5 (by decide) ?_ ?_
  · exact hJ 21
  · refine s_lload_n X rfl dF12_ledgerLine_8 ?_
    refine s_ldc2 X ⟨by decide, by decide⟩ tw_1161 dF12_ledgerLine_9 ?_
    refine s_lcmp X dF12_ledgerLine_12 ?_
    refine s_if_eq X (tgt := 21) dF12_ledgerLine_13 (by decide) ?_ ?_
    · exact hJ 21
    · refine s_aload_n X rfl dF12_ledgerLine_16 ?_
      refine s_callV X (m_F12_fails l) tw_1103 tw_1104 tw_1568 tw_134 tw_1105 rfl (by decide +kernel) ⟨by decide, by decide⟩ dF12_ledgerLine_17 ?_
      refine s_nw ?_
      exact s_zret X dF12_ledgerLine_20

def sp_F12_ledgerLine : qS := fun av w Q => ∃ (mco : Int) (mre : Int) (mle : Int) (mbe : Int) (mso : Int) (mva : Int) (mwo : Int) (mwr : Int) (mlf : Int) (mlp : Int) (mfp : Int) (mfd : Int) (mgo : Int) (mbo : Int) (mpe : Int) (mye : Int) (mpr : Int) (mld : Int) (msi : Int) (mse : Int) (tp : Nat → Int) (re : Nat → Int) (td : Nat → Int) (ww : Int) (gw : Int) (gp : Int) (gf : Int) (gq : Int) (gD : Nat → Int) (gfp : Int) (gfd : Int), av = [q2 0, q3 ww] ∧ w = [.inr (12, [q1 mco, q2 1, q2 4, q2 5, q2 6, q2 7, q2 8, q2 9, q2 10, q2 11, q1 mre, q1 mle, q1 mbe, q1 mso, q1 mva, q3 mwo, q1 mwr, q1 mlf, q1 mlp, q2 3, q2 2, q1 mfp, q1 mfd, q1 mgo, q1 mbo, q1 mpe, q1 mye, q2 12, q1 mpr, q2 13, q2 14, q2 15, q2 16, q1 mld, q2 17, q1 msi, q2 18, q2 19, q2 20, q2 21, q2 22, q1 mse, q2 23, q2 24, q2 25]), .inl (1, 2400, .inl tp), .inl (0, 4, .inl re), .inl (0, 161, .inl td)] ∧ (0 ≤ mre ∧ mre ≤ mle ∧ mle ≤ 600) ∧ (LnS (tc tp) mle gp gf gq gD gfp gfd mre mbe mso mva mwo mlf mlp td mfp mfd) ∧ (¬ mgo = 0) ∧ (ww = woT (tc tp) mle gp) ∧ (gp ≤ mle) ∧ (gw = liW (tc tp) mle gp 2) ∧ (∀ (r : Int) (x_mre : Int) (x_mbe : Int) (x_mso : Int) (x_mva : Int) (x_mwo : Int) (x_mwr : Int) (x_mlf : Int) (x_mlp : Int) (x_mgo : Int) (x_re : Nat → Int) (x_td : Nat → Int), ((r = 0 ∨ r = 1 ∧ (x_mso = 0 ∨ mre < x_mre)) ∧ mre ≤ x_mre ∧ x_mre ≤ mle ∧ LnO (tc tp) mle 2 gp gf gq gD gfp gfd r x_mre x_mbe x_mso x_mva x_mwo x_mwr x_mlf x_mlp x_mgo x_td mfp mfd) → Q (some (q1 r)) ([.inr (12, [q1 mco, q2 1, q2 4, q2 5, q2 6, q2 7, q2 8, q2 9, q2 10, q2 11, q1 x_mre, q1 mle, q1 x_mbe, q1 x_mso, q1 x_mva, q3 x_mwo, q1 x_mwr, q1 x_mlf, q1 x_mlp, q2 3, q2 2, q1 mfp, q1 mfd, q1 x_mgo, q1 mbo, q1 mpe, q1 mye, q2 12, q1 mpr, q2 13, q2 14, q2 15, q2 16, q1 mld, q2 17, q1 msi, q2 18, q2 19, q2 20, q2 21, q2 22, q1 mse, q2 23, q2 24, q2 25]), .inl (1, 2400, .inl tp), .inl (0, 4, .inl x_re), .inl (0, 161, .inl x_td)]))
def I_F12_ledgerLine (mco : Int) (mre : Int) (mle : Int) (mbe : Int) (mso : Int) (mva : Int) (mwo : Int) (mwr : Int) (mlf : Int) (mlp : Int) (mfp : Int) (mfd : Int) (mgo : Int) (mbo : Int) (mpe : Int) (mye : Int) (mpr : Int) (mld : Int) (msi : Int) (mse : Int) (tp : Nat → Int) (re : Nat → Int) (td : Nat → Int) (ww : Int) (gw : Int) (gp : Int) (gf : Int) (gq : Int) (gD : Nat → Int) (gfp : Int) (gfd : Int) : Nat → Nat → List qV → List qV → qW → Prop := fun dz mz vz sz wz => if dz = 21 then (∃ (u9 : Unit), vz = [q2 0, q3 ww] ∧ sz = [] ∧ wz = [.inr (12, [q1 mco, q2 1, q2 4, q2 5, q2 6, q2 7, q2 8, q2 9, q2 10, q2 11, q1 mre, q1 mle, q1 mbe, q1 mso, q1 mva, q3 mwo, q1 mwr, q1 mlf, q1 mlp, q2 3, q2 2, q1 mfp, q1 mfd, q1 mgo, q1 mbo, q1 mpe, q1 mye, q2 12, q1 mpr, q2 13, q2 14, q2 15, q2 16, q1 mld, q2 17, q1 msi, q2 18, q2 19, q2 20, q2 21, q2 22, q1 mse, q2 23, q2 24, q2 25]), .inl (1, 2400, .inl tp), .inl (0, 4, .inl re), .inl (0, 161, .inl td)] ∧ mz = 0 ∧ (gw = 14 ∨ gw = 15)) else False
set_option maxHeartbeats 4000000 in
set_option maxRecDepth 100000 in
theorem m_F12_ledgerLine (l : Launch) : q_M l yX12_ledgerLine cX12_ledgerLine 3 (some .boolean) 4 91 sp_F12_ledgerLine := by
  refine q_meth (by decide) (fun av w Q h => by obtain ⟨mco, mre, mle, mbe, mso, mva, mwo, mwr, mlf, mlp, mfp, mfd, mgo, mbo, mpe, mye, mpr, mld, msi, mse, tp, re, td, ww, gw, gp, gf, gq, gD, gfp, gfd, rfl, rfl, htp, hLS, hgo, hww, hgp2, hgw, hQ⟩ := h; exact Nat.le_of_ble_eq_true rfl) ?_
  intro p e R s m args below meth c dC dI k g A av w Q hsp oka okw X
  obtain ⟨mco, mre, mle, mbe, mso, mva, mwo, mwr, mlf, mlp, mfp, mfd, mgo, mbo, mpe, mye, mpr, mld, msi, mse, tp, re, td, ww, gw, gp, gf, gq, gD, gfp, gfd, rfl, rfl, htp, hLS, hgo, hww, hgp2, hgw, hQ⟩ := hsp
  refine s_mono (s_F12_ledgerLine_0 X (J := fun dz vz sz wz => ∃ mz, I_F12_ledgerLine mco mre mle mbe mso mva mwo mwr mlf mlp mfp mfd mgo mbo mpe mye mpr mld msi mse tp re td ww gw gp gf gq gD gfp gfd dz mz vz sz wz) (q_loopn (I_F12_ledgerLine mco mre mle mbe mso mva mwo mwr mlf mlp mfp mfd mgo mbo mpe mye mpr mld msi mse tp re td ww gw gp gf gq gD gfp gfd) (fun dz J => if dz = 21 then b_F12_ledgerLine_21 J Q else q_F) ?hs ?hv)) ?_
  case hs =>
    intro d J hJ
    by_cases hq_21 : d = 21
    · subst hq_21; exact s_F12_ledgerLine_21 X hJ
    simp only [hq_21, if_false]
    exact s_F
  case hv =>
    intro dz mz vz sz wz hI okv oks okw hlen
    by_cases hq_21 : dz = 21
    · subst hq_21
      obtain ⟨_, rfl, rfl, rfl, hn, hw9⟩ := hI
      refine Exists.intro [0, 1, 4, 5, 6, 7, 8, 9, 10, 11, 3, 2, 12, 13, 14, 15, 16, 17, 18, 19, 20, 21, 22, 23, 24, 25] (Exists.intro [q2 0] (Exists.intro ([.inr (12, [q1 _, q2 1, q2 2, q2 3, q2 4, q2 5, q2 6, q2 7, q2 8, q2 9, q1 _, q1 _, q1 _, q1 _, q1 _, q3 _, q1 _, q1 _, q1 _, q2 10, q2 11, q1 _, q1 _, q1 _, q1 _, q1 _, q1 _, q2 12, q1 _, q2 13, q2 14, q2 15, q2 16, q1 _, q2 17, q1 _, q2 18, q2 19, q2 20, q2 21, q2 22, q1 _, q2 23, q2 24, q2 25]), .inl (1, 2400, .inl _)]) (And.intro rfl (And.intro rfl (And.intro rfl (And.intro ⟨⟨_, rfl⟩, rfl⟩ ?_))))))
      refine Exists.intro _ (Exists.intro _ (Exists.intro _ (Exists.intro _ (Exists.intro _ (Exists.intro _ (Exists.intro _ (Exists.intro _ (Exists.intro _ (Exists.intro _ (Exists.intro _ (Exists.intro _ (Exists.intro _ (Exists.intro _ (Exists.intro _ (Exists.intro _ (Exists.intro _ (Exists.intro _ (Exists.intro _ (Exists.intro _ (Exists.intro _ (And.intro rfl (And.intro rfl (And.intro (by first | omega | assumption | exact q_rg_up (by assumption) (by omega) | exact q_rg_up (q_rg_up (by assumption) (by omega)) (by omega) | exact q_rg_cpy (by assumption) (by assumption)) (?_))))))))))))))))))))))))
      intro x_mre_22 x_mbe_22 x_mso_22 x_mva_22 x_mwo_22 hq_22
      intro zq_29 hq_29
      replace hq_29 := wb_2 (i := 15) hww hgp2 hgw (by decide) (by decide) hq_29
      apply And.intro
      · intro hq_30
        replace hq_29 := wb0 hq_29 hq_30
        refine Exists.intro [0, 1, 2, 4, 5, 6, 7, 8, 9, 10, 11, 3, 12, 13, 14, 15, 16, 17, 18, 19, 20, 21, 22, 23, 24, 25] (Exists.intro [q2 0, q1 _, q1 _, q1 _] (Exists.intro ([.inr (12, [q1 _, q2 1, q2 3, q2 4, q2 5, q2 6, q2 7, q2 8, q2 9, q2 10, q1 _, q1 _, q1 _, q1 _, q1 _, q3 _, q1 _, q1 _, q1 _, q2 11, q2 2, q1 _, q1 _, q1 _, q1 _, q1 _, q1 _, q2 12, q1 _, q2 13, q2 14, q2 15, q2 16, q1 _, q2 17, q1 _, q2 18, q2 19, q2 20, q2 21, q2 22, q1 _, q2 23, q2 24, q2 25]), .inl (1, 2400, .inl _), .inl (0, 4, .inl _)]) (And.intro rfl (And.intro rfl (And.intro rfl (And.intro ⟨⟨_, rfl⟩, rfl⟩ ?_))))))
        refine Exists.intro _ (Exists.intro _ (Exists.intro _ (Exists.intro _ (Exists.intro _ (Exists.intro _ (Exists.intro _ (Exists.intro _ (Exists.intro _ (Exists.intro _ (Exists.intro _ (Exists.intro _ (Exists.intro _ (Exists.intro _ (Exists.intro _ (Exists.intro _ (Exists.intro _ (Exists.intro _ (Exists.intro _ (Exists.intro _ (Exists.intro _ (Exists.intro _ (Exists.intro _ (Exists.intro _ (Exists.intro _ (Exists.intro _ (Exists.intro _ (Exists.intro _ (Exists.intro _ (Exists.intro _ (And.intro rfl (And.intro rfl (And.intro (by first | omega | assumption | exact q_rg_up (by assumption) (by omega) | exact q_rg_up (q_rg_up (by assumption) (by omega)) (by omega) | exact q_rg_cpy (by assumption) (by assumption)) (And.intro (by decide) (And.intro (LnS_n (w := 14) hLS hq_22.1 (ful_n (by omega)) hgo) (And.intro (by decide) (And.intro ⟨by decide, by decide⟩ (And.intro (by decide) (?_))))))))))))))))))))))))))))))))))))))
        intro zq_66 x_mre_66 x_mbe_66 x_mso_66 x_mva_66 x_mwo_66 x_mwr_66 x_mlf_66 x_mlp_66 x_mgo_66 x_re_66 hq_66
        have S9 := LnS_n (go := mgo) (w := 14) hLS hq_22.1 (ful_n (by omega)) hgo
        apply And.intro
        · intro hq_69
          apply And.intro
          · first | exact Or.inl rfl | exact Or.inr rfl | omega
          exact hQ _ _ _ _ _ _ _ _ _ _ _ _ ⟨by omega, by omega, by omega, (by first | (rw [hq_17.1]; exact LnO_n hgw (by omega) (hq_17.2.trans hLS.1.1)) | exact LnO_m (w := 15) (by omega) (LnM_0 S9 (by decide) (by decide) (dj0 hq_38.2.2.2 hq_41)) (by decide) | exact LnO_m (w := 14) (by omega) (LnM_0 S9 (by decide) (by decide) (dj0 hq_66.2.2.2 hq_69)) (by decide) | exact LnO_m (w := 14) (by omega) (LnM_0 (dj1 hq_66.2.2.2 hq_69).1 (by decide) (by decide) (dj0 hq_77.2.2.2 hq_80)) (by decide) | exact LnO_m (w := 15) (by omega) (LnM_1 (SlM_z (SlM_z (dj1 hq_38.2.2.2 hq_41).1 (by decide)) (by decide)) (fun q9 => ⟨tl_15 ((LnS_t (P := fulP 15 gD) hLS) (lfa_m q9)).1 (by rw [hq_57, (dj1 hq_38.2.2.2 hq_41).2]; exact q_up_s), (by rw [fpN_n (by decide)]; exact ((LnS_t (P := fulP 15 gD) hLS) (lfa_m q9)).2.1), (by rw [fdN_n (by decide)]; exact ((LnS_t (P := fulP 15 gD) hLS) (lfa_m q9)).2.2)⟩)) (by decide) | exact LnO_m (w := 14) (by omega) (LnM_1 (SlM_z (dj1 hq_77.2.2.2 hq_80).1 (by decide)) (fun q9 => (SlM_go (SlM_z (dj1 hq_77.2.2.2 hq_80).1 (by decide)) hq_89 q9).elim)) (by decide) | exact LnO_m (w := 14) (by omega) (LnM_1 (SlM_z (dj1 hq_77.2.2.2 hq_80).1 (by decide)) (fun q9 => ⟨tl_14 ((LnS_t (P := fulP 14 gD) hLS) (lfa_m q9)).1 (by omega) e107, (by rw [fpN_n (by decide)]; exact ((LnS_t (P := fulP 14 gD) hLS) (lfa_m q9)).2.1), (by rw [fdN_n (by decide)]; exact ((LnS_t (P := fulP 14 gD) hLS) (lfa_m q9)).2.2)⟩)) (by decide))⟩
        · intro hq_69
          refine Exists.intro [0, 1, 2, 4, 5, 6, 7, 8, 9, 10, 11, 3, 12, 13, 14, 15, 16, 17, 18, 19, 20, 21, 22, 23, 24, 25] (Exists.intro [q2 0, q1 _, q1 _, q1 _] (Exists.intro ([.inr (12, [q1 _, q2 1, q2 3, q2 4, q2 5, q2 6, q2 7, q2 8, q2 9, q2 10, q1 _, q1 _, q1 _, q1 _, q1 _, q3 _, q1 _, q1 _, q1 _, q2 11, q2 2, q1 _, q1 _, q1 _, q1 _, q1 _, q1 _, q2 12, q1 _, q2 13, q2 14, q2 15, q2 16, q1 _, q2 17, q1 _, q2 18, q2 19, q2 20, q2 21, q2 22, q1 _, q2 23, q2 24, q2 25]), .inl (1, 2400, .inl _), .inl (0, 4, .inl _)]) (And.intro rfl (And.intro rfl (And.intro rfl (And.intro ⟨⟨_, rfl⟩, rfl⟩ ?_))))))
          refine Exists.intro _ (Exists.intro _ (Exists.intro _ (Exists.intro _ (Exists.intro _ (Exists.intro _ (Exists.intro _ (Exists.intro _ (Exists.intro _ (Exists.intro _ (Exists.intro _ (Exists.intro _ (Exists.intro _ (Exists.intro _ (Exists.intro _ (Exists.intro _ (Exists.intro _ (Exists.intro _ (Exists.intro _ (Exists.intro _ (Exists.intro _ (Exists.intro _ (Exists.intro _ (Exists.intro _ (Exists.intro _ (Exists.intro _ (Exists.intro _ (Exists.intro _ (Exists.intro _ (Exists.intro _ (And.intro rfl (And.intro rfl (And.intro (by first | omega | assumption | exact q_rg_up (by assumption) (by omega) | exact q_rg_up (q_rg_up (by assumption) (by omega)) (by omega) | exact q_rg_cpy (by assumption) (by assumption)) (And.intro (by decide) (And.intro (dj1 hq_66.2.2.2 hq_69).1 (And.intro (by decide) (And.intro ⟨by decide, by decide⟩ (And.intro (by decide) (?_))))))))))))))))))))))))))))))))))))))
          intro zq_77 x_mre_77 x_mbe_77 x_mso_77 x_mva_77 x_mwo_77 x_mwr_77 x_mlf_77 x_mlp_77 x_mgo_77 x_re_77 hq_77
          apply And.intro
          · intro hq_80
            apply And.intro
            · intro hq_89
              apply And.intro
              · first | exact Or.inl rfl | exact Or.inr rfl | omega
              exact hQ _ _ _ _ _ _ _ _ _ _ _ _ ⟨by omega, by omega, by omega, (by first | (rw [hq_17.1]; exact LnO_n hgw (by omega) (hq_17.2.trans hLS.1.1)) | exact LnO_m (w := 15) (by omega) (LnM_0 S9 (by decide) (by decide) (dj0 hq_38.2.2.2 hq_41)) (by decide) | exact LnO_m (w := 14) (by omega) (LnM_0 S9 (by decide) (by decide) (dj0 hq_66.2.2.2 hq_69)) (by decide) | exact LnO_m (w := 14) (by omega) (LnM_0 (dj1 hq_66.2.2.2 hq_69).1 (by decide) (by decide) (dj0 hq_77.2.2.2 hq_80)) (by decide) | exact LnO_m (w := 15) (by omega) (LnM_1 (SlM_z (SlM_z (dj1 hq_38.2.2.2 hq_41).1 (by decide)) (by decide)) (fun q9 => ⟨tl_15 ((LnS_t (P := fulP 15 gD) hLS) (lfa_m q9)).1 (by rw [hq_57, (dj1 hq_38.2.2.2 hq_41).2]; exact q_up_s), (by rw [fpN_n (by decide)]; exact ((LnS_t (P := fulP 15 gD) hLS) (lfa_m q9)).2.1), (by rw [fdN_n (by decide)]; exact ((LnS_t (P := fulP 15 gD) hLS) (lfa_m q9)).2.2)⟩)) (by decide) | exact LnO_m (w := 14) (by omega) (LnM_1 (SlM_z (dj1 hq_77.2.2.2 hq_80).1 (by decide)) (fun q9 => (SlM_go (SlM_z (dj1 hq_77.2.2.2 hq_80).1 (by decide)) hq_89 q9).elim)) (by decide) | exact LnO_m (w := 14) (by omega) (LnM_1 (SlM_z (dj1 hq_77.2.2.2 hq_80).1 (by decide)) (fun q9 => ⟨tl_14 ((LnS_t (P := fulP 14 gD) hLS) (lfa_m q9)).1 (by omega) e107, (by rw [fpN_n (by decide)]; exact ((LnS_t (P := fulP 14 gD) hLS) (lfa_m q9)).2.1), (by rw [fdN_n (by decide)]; exact ((LnS_t (P := fulP 14 gD) hLS) (lfa_m q9)).2.2)⟩)) (by decide))⟩
            · intro hq_89
              have r9 := SlM_rg (dj1 hq_77.2.2.2 hq_80).1 hq_89 0 (by decide) (by decide) (a := 0) (b := 7) (by decide) (by decide)
              apply And.intro
              · exact ⟨by omega, by omega⟩
              intro zq_101 hq_101
              have e101 : zq_101 = lvs (tc tp) mle 14 gp 0 := by rw [hq_101, (dj1 hq_77.2.2.2 hq_80).2, q_up_n (by decide), (dj1 hq_66.2.2.2 hq_69).2]; exact q_up_s
              apply And.intro
              · exact ⟨by omega, by omega⟩
              intro zq_107 hq_107
              have e107 : zq_107 = lvs (tc tp) mle 14 gp 1 := by rw [hq_107, (dj1 hq_77.2.2.2 hq_80).2]; exact q_up_s
              apply And.intro
              · exact ⟨by omega, by omega⟩
              apply And.intro
              · first | exact Or.inl rfl | exact Or.inr rfl | omega
              exact hQ _ _ _ _ _ _ _ _ _ _ _ _ ⟨by omega, by omega, by omega, (by first | (rw [hq_17.1]; exact LnO_n hgw (by omega) (hq_17.2.trans hLS.1.1)) | exact LnO_m (w := 15) (by omega) (LnM_0 S9 (by decide) (by decide) (dj0 hq_38.2.2.2 hq_41)) (by decide) | exact LnO_m (w := 14) (by omega) (LnM_0 S9 (by decide) (by decide) (dj0 hq_66.2.2.2 hq_69)) (by decide) | exact LnO_m (w := 14) (by omega) (LnM_0 (dj1 hq_66.2.2.2 hq_69).1 (by decide) (by decide) (dj0 hq_77.2.2.2 hq_80)) (by decide) | exact LnO_m (w := 15) (by omega) (LnM_1 (SlM_z (SlM_z (dj1 hq_38.2.2.2 hq_41).1 (by decide)) (by decide)) (fun q9 => ⟨tl_15 ((LnS_t (P := fulP 15 gD) hLS) (lfa_m q9)).1 (by rw [hq_57, (dj1 hq_38.2.2.2 hq_41).2]; exact q_up_s), (by rw [fpN_n (by decide)]; exact ((LnS_t (P := fulP 15 gD) hLS) (lfa_m q9)).2.1), (by rw [fdN_n (by decide)]; exact ((LnS_t (P := fulP 15 gD) hLS) (lfa_m q9)).2.2)⟩)) (by decide) | exact LnO_m (w := 14) (by omega) (LnM_1 (SlM_z (dj1 hq_77.2.2.2 hq_80).1 (by decide)) (fun q9 => (SlM_go (SlM_z (dj1 hq_77.2.2.2 hq_80).1 (by decide)) hq_89 q9).elim)) (by decide) | exact LnO_m (w := 14) (by omega) (LnM_1 (SlM_z (dj1 hq_77.2.2.2 hq_80).1 (by decide)) (fun q9 => ⟨tl_14 ((LnS_t (P := fulP 14 gD) hLS) (lfa_m q9)).1 (by omega) e107, (by rw [fpN_n (by decide)]; exact ((LnS_t (P := fulP 14 gD) hLS) (lfa_m q9)).2.1), (by rw [fdN_n (by decide)]; exact ((LnS_t (P := fulP 14 gD) hLS) (lfa_m q9)).2.2)⟩)) (by decide))⟩
          · intro hq_80
            apply And.intro
            · first | exact Or.inl rfl | exact Or.inr rfl | omega
            exact hQ _ _ _ _ _ _ _ _ _ _ _ _ ⟨by omega, by omega, by omega, (by first | (rw [hq_17.1]; exact LnO_n hgw (by omega) (hq_17.2.trans hLS.1.1)) | exact LnO_m (w := 15) (by omega) (LnM_0 S9 (by decide) (by decide) (dj0 hq_38.2.2.2 hq_41)) (by decide) | exact LnO_m (w := 14) (by omega) (LnM_0 S9 (by decide) (by decide) (dj0 hq_66.2.2.2 hq_69)) (by decide) | exact LnO_m (w := 14) (by omega) (LnM_0 (dj1 hq_66.2.2.2 hq_69).1 (by decide) (by decide) (dj0 hq_77.2.2.2 hq_80)) (by decide) | exact LnO_m (w := 15) (by omega) (LnM_1 (SlM_z (SlM_z (dj1 hq_38.2.2.2 hq_41).1 (by decide)) (by decide)) (fun q9 => ⟨tl_15 ((LnS_t (P := fulP 15 gD) hLS) (lfa_m q9)).1 (by rw [hq_57, (dj1 hq_38.2.2.2 hq_41).2]; exact q_up_s), (by rw [fpN_n (by decide)]; exact ((LnS_t (P := fulP 15 gD) hLS) (lfa_m q9)).2.1), (by rw [fdN_n (by decide)]; exact ((LnS_t (P := fulP 15 gD) hLS) (lfa_m q9)).2.2)⟩)) (by decide) | exact LnO_m (w := 14) (by omega) (LnM_1 (SlM_z (dj1 hq_77.2.2.2 hq_80).1 (by decide)) (fun q9 => (SlM_go (SlM_z (dj1 hq_77.2.2.2 hq_80).1 (by decide)) hq_89 q9).elim)) (by decide) | exact LnO_m (w := 14) (by omega) (LnM_1 (SlM_z (dj1 hq_77.2.2.2 hq_80).1 (by decide)) (fun q9 => ⟨tl_14 ((LnS_t (P := fulP 14 gD) hLS) (lfa_m q9)).1 (by omega) e107, (by rw [fpN_n (by decide)]; exact ((LnS_t (P := fulP 14 gD) hLS) (lfa_m q9)).2.1), (by rw [fdN_n (by decide)]; exact ((LnS_t (P := fulP 14 gD) hLS) (lfa_m q9)).2.2)⟩)) (by decide))⟩
      · intro hq_30
        replace hq_29 := wb1 hq_29 hq_30
        refine Exists.intro [0, 1, 2, 4, 5, 6, 7, 8, 9, 10, 11, 3, 12, 13, 14, 15, 16, 17, 18, 19, 20, 21, 22, 23, 24, 25] (Exists.intro [q2 0, q1 _, q1 _, q1 _] (Exists.intro ([.inr (12, [q1 _, q2 1, q2 3, q2 4, q2 5, q2 6, q2 7, q2 8, q2 9, q2 10, q1 _, q1 _, q1 _, q1 _, q1 _, q3 _, q1 _, q1 _, q1 _, q2 11, q2 2, q1 _, q1 _, q1 _, q1 _, q1 _, q1 _, q2 12, q1 _, q2 13, q2 14, q2 15, q2 16, q1 _, q2 17, q1 _, q2 18, q2 19, q2 20, q2 21, q2 22, q1 _, q2 23, q2 24, q2 25]), .inl (1, 2400, .inl _), .inl (0, 4, .inl _)]) (And.intro rfl (And.intro rfl (And.intro rfl (And.intro ⟨⟨_, rfl⟩, rfl⟩ ?_))))))
        refine Exists.intro _ (Exists.intro _ (Exists.intro _ (Exists.intro _ (Exists.intro _ (Exists.intro _ (Exists.intro _ (Exists.intro _ (Exists.intro _ (Exists.intro _ (Exists.intro _ (Exists.intro _ (Exists.intro _ (Exists.intro _ (Exists.intro _ (Exists.intro _ (Exists.intro _ (Exists.intro _ (Exists.intro _ (Exists.intro _ (Exists.intro _ (Exists.intro _ (Exists.intro _ (Exists.intro _ (Exists.intro _ (Exists.intro _ (Exists.intro _ (Exists.intro _ (Exists.intro _ (Exists.intro _ (And.intro rfl (And.intro rfl (And.intro (by first | omega | assumption | exact q_rg_up (by assumption) (by omega) | exact q_rg_up (q_rg_up (by assumption) (by omega)) (by omega) | exact q_rg_cpy (by assumption) (by assumption)) (And.intro (by decide) (And.intro (LnS_n (w := 15) hLS hq_22.1 (ful_n (by omega)) hgo) (And.intro (by decide) (And.intro ⟨by decide, by decide⟩ (And.intro (by decide) (?_))))))))))))))))))))))))))))))))))))))
        intro zq_38 x_mre_38 x_mbe_38 x_mso_38 x_mva_38 x_mwo_38 x_mwr_38 x_mlf_38 x_mlp_38 x_mgo_38 x_re_38 hq_38
        have S9 := LnS_n (go := mgo) (w := 15) hLS hq_22.1 (ful_n (by omega)) hgo
        apply And.intro
        · intro hq_41
          apply And.intro
          · exact ⟨by omega, by omega⟩
          intro zq_57 hq_57
          apply And.intro
          · exact ⟨by omega, by omega⟩
          apply And.intro
          · first | exact Or.inl rfl | exact Or.inr rfl | omega
          exact hQ _ _ _ _ _ _ _ _ _ _ _ _ ⟨by omega, by omega, by omega, (by first | (rw [hq_17.1]; exact LnO_n hgw (by omega) (hq_17.2.trans hLS.1.1)) | exact LnO_m (w := 15) (by omega) (LnM_0 S9 (by decide) (by decide) (dj0 hq_38.2.2.2 hq_41)) (by decide) | exact LnO_m (w := 14) (by omega) (LnM_0 S9 (by decide) (by decide) (dj0 hq_66.2.2.2 hq_69)) (by decide) | exact LnO_m (w := 14) (by omega) (LnM_0 (dj1 hq_66.2.2.2 hq_69).1 (by decide) (by decide) (dj0 hq_77.2.2.2 hq_80)) (by decide) | exact LnO_m (w := 15) (by omega) (LnM_1 (SlM_z (SlM_z (dj1 hq_38.2.2.2 hq_41).1 (by decide)) (by decide)) (fun q9 => ⟨tl_15 ((LnS_t (P := fulP 15 gD) hLS) (lfa_m q9)).1 (by rw [hq_57, (dj1 hq_38.2.2.2 hq_41).2]; exact q_up_s), (by rw [fpN_n (by decide)]; exact ((LnS_t (P := fulP 15 gD) hLS) (lfa_m q9)).2.1), (by rw [fdN_n (by decide)]; exact ((LnS_t (P := fulP 15 gD) hLS) (lfa_m q9)).2.2)⟩)) (by decide) | exact LnO_m (w := 14) (by omega) (LnM_1 (SlM_z (dj1 hq_77.2.2.2 hq_80).1 (by decide)) (fun q9 => (SlM_go (SlM_z (dj1 hq_77.2.2.2 hq_80).1 (by decide)) hq_89 q9).elim)) (by decide) | exact LnO_m (w := 14) (by omega) (LnM_1 (SlM_z (dj1 hq_77.2.2.2 hq_80).1 (by decide)) (fun q9 => ⟨tl_14 ((LnS_t (P := fulP 14 gD) hLS) (lfa_m q9)).1 (by omega) e107, (by rw [fpN_n (by decide)]; exact ((LnS_t (P := fulP 14 gD) hLS) (lfa_m q9)).2.1), (by rw [fdN_n (by decide)]; exact ((LnS_t (P := fulP 14 gD) hLS) (lfa_m q9)).2.2)⟩)) (by decide))⟩
        · intro hq_41
          apply And.intro
          · first | exact Or.inl rfl | exact Or.inr rfl | omega
          exact hQ _ _ _ _ _ _ _ _ _ _ _ _ ⟨by omega, by omega, by omega, (by first | (rw [hq_17.1]; exact LnO_n hgw (by omega) (hq_17.2.trans hLS.1.1)) | exact LnO_m (w := 15) (by omega) (LnM_0 S9 (by decide) (by decide) (dj0 hq_38.2.2.2 hq_41)) (by decide) | exact LnO_m (w := 14) (by omega) (LnM_0 S9 (by decide) (by decide) (dj0 hq_66.2.2.2 hq_69)) (by decide) | exact LnO_m (w := 14) (by omega) (LnM_0 (dj1 hq_66.2.2.2 hq_69).1 (by decide) (by decide) (dj0 hq_77.2.2.2 hq_80)) (by decide) | exact LnO_m (w := 15) (by omega) (LnM_1 (SlM_z (SlM_z (dj1 hq_38.2.2.2 hq_41).1 (by decide)) (by decide)) (fun q9 => ⟨tl_15 ((LnS_t (P := fulP 15 gD) hLS) (lfa_m q9)).1 (by rw [hq_57, (dj1 hq_38.2.2.2 hq_41).2]; exact q_up_s), (by rw [fpN_n (by decide)]; exact ((LnS_t (P := fulP 15 gD) hLS) (lfa_m q9)).2.1), (by rw [fdN_n (by decide)]; exact ((LnS_t (P := fulP 15 gD) hLS) (lfa_m q9)).2.2)⟩)) (by decide) | exact LnO_m (w := 14) (by omega) (LnM_1 (SlM_z (dj1 hq_77.2.2.2 hq_80).1 (by decide)) (fun q9 => (SlM_go (SlM_z (dj1 hq_77.2.2.2 hq_80).1 (by decide)) hq_89 q9).elim)) (by decide) | exact LnO_m (w := 14) (by omega) (LnM_1 (SlM_z (dj1 hq_77.2.2.2 hq_80).1 (by decide)) (fun q9 => ⟨tl_14 ((LnS_t (P := fulP 14 gD) hLS) (lfa_m q9)).1 (by omega) e107, (by rw [fpN_n (by decide)]; exact ((LnS_t (P := fulP 14 gD) hLS) (lfa_m q9)).2.1), (by rw [fdN_n (by decide)]; exact ((LnS_t (P := fulP 14 gD) hLS) (lfa_m q9)).2.2)⟩)) (by decide))⟩
    simp only [I_F12_ledgerLine, hq_21, if_false] at hI
  rintro lv st w' ⟨rfl, rfl, rfl⟩
  have rw9 := li_r2 hgw
  intro zq_4 hq_4
  replace hq_4 := wb_2 (i := 14) hww hgp2 hgw (by decide) (by decide) hq_4
  apply And.intro
  · intro hq_5
    replace hq_4 := wb1 hq_4 hq_5
    exact ⟨_, (), rfl, rfl, rfl, rfl, (by first | omega | assumption | exact q_rg_up (by assumption) (by omega) | exact q_rg_up (q_rg_up (by assumption) (by omega)) (by omega) | exact q_rg_cpy (by assumption) (by assumption))⟩
  · intro hq_5
    replace hq_4 := wb0 hq_4 hq_5
    intro zq_12 hq_12
    replace hq_12 := wb_2 (i := 15) hww hgp2 hgw (by decide) (by decide) hq_12
    apply And.intro
    · intro hq_13
      replace hq_12 := wb1 hq_12 hq_13
      exact ⟨_, (), rfl, rfl, rfl, rfl, (by first | omega | assumption | exact q_rg_up (by assumption) (by omega) | exact q_rg_up (q_rg_up (by assumption) (by omega)) (by omega) | exact q_rg_cpy (by assumption) (by assumption))⟩
    · intro hq_13
      replace hq_12 := wb0 hq_12 hq_13
      refine Exists.intro [0, 1, 4, 5, 6, 7, 8, 9, 10, 11, 3, 2, 12, 13, 14, 15, 16, 17, 18, 19, 20, 21, 22, 23, 24, 25] (Exists.intro [q2 0] (Exists.intro ([.inr (12, [q1 _, q2 1, q2 2, q2 3, q2 4, q2 5, q2 6, q2 7, q2 8, q2 9, q1 _, q1 _, q1 _, q1 _, q1 _, q3 _, q1 _, q1 _, q1 _, q2 10, q2 11, q1 _, q1 _, q1 _, q1 _, q1 _, q1 _, q2 12, q1 _, q2 13, q2 14, q2 15, q2 16, q1 _, q2 17, q1 _, q2 18, q2 19, q2 20, q2 21, q2 22, q1 _, q2 23, q2 24, q2 25])]) (And.intro rfl (And.intro rfl (And.intro rfl (And.intro ⟨⟨_, rfl⟩, rfl⟩ ?_))))))
      refine Exists.intro _ (Exists.intro _ (Exists.intro _ (Exists.intro _ (Exists.intro _ (Exists.intro _ (Exists.intro _ (Exists.intro _ (Exists.intro _ (Exists.intro _ (Exists.intro _ (Exists.intro _ (Exists.intro _ (Exists.intro _ (Exists.intro _ (Exists.intro _ (Exists.intro _ (Exists.intro _ (Exists.intro _ (Exists.intro _ (And.intro rfl (And.intro rfl (?_))))))))))))))))))))))
      intro zq_17 x_mwr_17 hq_17
      apply And.intro
      · first | exact Or.inl rfl | exact Or.inr rfl | omega
      exact hQ _ _ _ _ _ _ _ _ _ _ _ _ ⟨by omega, by omega, by omega, (by first | (rw [hq_17.1]; exact LnO_n hgw (by omega) (hq_17.2.trans hLS.1.1)) | exact LnO_m (w := 15) (by omega) (LnM_0 S9 (by decide) (by decide) (dj0 hq_38.2.2.2 hq_41)) (by decide) | exact LnO_m (w := 14) (by omega) (LnM_0 S9 (by decide) (by decide) (dj0 hq_66.2.2.2 hq_69)) (by decide) | exact LnO_m (w := 14) (by omega) (LnM_0 (dj1 hq_66.2.2.2 hq_69).1 (by decide) (by decide) (dj0 hq_77.2.2.2 hq_80)) (by decide) | exact LnO_m (w := 15) (by omega) (LnM_1 (SlM_z (SlM_z (dj1 hq_38.2.2.2 hq_41).1 (by decide)) (by decide)) (fun q9 => ⟨tl_15 ((LnS_t (P := fulP 15 gD) hLS) (lfa_m q9)).1 (by rw [hq_57, (dj1 hq_38.2.2.2 hq_41).2]; exact q_up_s), (by rw [fpN_n (by decide)]; exact ((LnS_t (P := fulP 15 gD) hLS) (lfa_m q9)).2.1), (by rw [fdN_n (by decide)]; exact ((LnS_t (P := fulP 15 gD) hLS) (lfa_m q9)).2.2)⟩)) (by decide) | exact LnO_m (w := 14) (by omega) (LnM_1 (SlM_z (dj1 hq_77.2.2.2 hq_80).1 (by decide)) (fun q9 => (SlM_go (SlM_z (dj1 hq_77.2.2.2 hq_80).1 (by decide)) hq_89 q9).elim)) (by decide) | exact LnO_m (w := 14) (by omega) (LnM_1 (SlM_z (dj1 hq_77.2.2.2 hq_80).1 (by decide)) (fun q9 => ⟨tl_14 ((LnS_t (P := fulP 14 gD) hLS) (lfa_m q9)).1 (by omega) e107, (by rw [fpN_n (by decide)]; exact ((LnS_t (P := fulP 14 gD) hLS) (lfa_m q9)).2.1), (by rw [fdN_n (by decide)]; exact ((LnS_t (P := fulP 14 gD) hLS) (lfa_m q9)).2.2)⟩)) (by decide))⟩

theorem dF12_sightLine_0 : decode cX12_sightLine 0 = .ok (.lload_n 1, 1) := by decide +kernel
theorem dF12_sightLine_1 : decode cX12_sightLine 1 = .ok (.ldc2_w 251, 3) := by decide +kernel
theorem dF12_sightLine_4 : decode cX12_sightLine 4 = .ok (.lcmp, 1) := by decide +kernel
theorem dF12_sightLine_5 : decode cX12_sightLine 5 = .ok (.ifCond .eq 8, 3) := by decide +kernel
theorem dF12_sightLine_8 : decode cX12_sightLine 8 = .ok (.aload_n 0, 1) := by decide +kernel
theorem dF12_sightLine_9 : decode cX12_sightLine 9 = .ok (.invokevirtual 140, 3) := by decide +kernel
theorem dF12_sightLine_12 : decode cX12_sightLine 12 = .ok (.ireturn, 1) := by decide +kernel
theorem dF12_sightLine_13 : decode cX12_sightLine 13 = .ok (.aload_n 0, 1) := by decide +kernel
theorem dF12_sightLine_14 : decode cX12_sightLine 14 = .ok (.iconst 0, 1) := by decide +kernel
theorem dF12_sightLine_15 : decode cX12_sightLine 15 = .ok (.bipush 10, 2) := by decide +kernel
theorem dF12_sightLine_17 : decode cX12_sightLine 17 = .ok (.iload_n 3, 1) := by decide +kernel
theorem dF12_sightLine_18 : decode cX12_sightLine 18 = .ok (.invokevirtual 193, 3) := by decide +kernel
theorem dF12_sightLine_21 : decode cX12_sightLine 21 = .ok (.aload_n 0, 1) := by decide +kernel
theorem dF12_sightLine_22 : decode cX12_sightLine 22 = .ok (.invokevirtual 152, 3) := by decide +kernel
theorem dF12_sightLine_25 : decode cX12_sightLine 25 = .ok (.aload_n 0, 1) := by decide +kernel
theorem dF12_sightLine_26 : decode cX12_sightLine 26 = .ok (.iconst 0, 1) := by decide +kernel
theorem dF12_sightLine_27 : decode cX12_sightLine 27 = .ok (.iconst 0, 1) := by decide +kernel
theorem dF12_sightLine_28 : decode cX12_sightLine 28 = .ok (.bipush 7, 2) := by decide +kernel
theorem dF12_sightLine_30 : decode cX12_sightLine 30 = .ok (.invokevirtual 174, 3) := by decide +kernel
theorem dF12_sightLine_33 : decode cX12_sightLine 33 = .ok (.ifCond .eq 14, 3) := by decide +kernel
theorem dF12_sightLine_36 : decode cX12_sightLine 36 = .ok (.aload_n 0, 1) := by decide +kernel
theorem dF12_sightLine_37 : decode cX12_sightLine 37 = .ok (.iconst 1, 1) := by decide +kernel
theorem dF12_sightLine_38 : decode cX12_sightLine 38 = .ok (.iconst 1, 1) := by decide +kernel
theorem dF12_sightLine_39 : decode cX12_sightLine 39 = .ok (.bipush 99, 2) := by decide +kernel
theorem dF12_sightLine_41 : decode cX12_sightLine 41 = .ok (.invokevirtual 174, 3) := by decide +kernel
theorem dF12_sightLine_44 : decode cX12_sightLine 44 = .ok (.ifCond .ne 5, 3) := by decide +kernel
theorem dF12_sightLine_47 : decode cX12_sightLine 47 = .ok (.iconst 0, 1) := by decide +kernel
theorem dF12_sightLine_48 : decode cX12_sightLine 48 = .ok (.ireturn, 1) := by decide +kernel
theorem dF12_sightLine_49 : decode cX12_sightLine 49 = .ok (.aload_n 0, 1) := by decide +kernel
theorem dF12_sightLine_50 : decode cX12_sightLine 50 = .ok (.iconst 2, 1) := by decide +kernel
theorem dF12_sightLine_51 : decode cX12_sightLine 51 = .ok (.bipush 10, 2) := by decide +kernel
theorem dF12_sightLine_53 : decode cX12_sightLine 53 = .ok (.invokevirtual 244, 3) := by decide +kernel
theorem dF12_sightLine_56 : decode cX12_sightLine 56 = .ok (.iconst 1, 1) := by decide +kernel
theorem dF12_sightLine_57 : decode cX12_sightLine 57 = .ok (.ireturn, 1) := by decide +kernel
def is_F12_sightLine : Nat → List Nat := fun d => []
set_option maxRecDepth 100000 in
def b_F12_sightLine_47 (J : Nat → List qV → List qV → qW → Prop) (Q : qR) : qK := x_int 0 (x_zret Q)
set_option maxRecDepth 100000 in
theorem s_F12_sightLine_47 {p : Program} {l : Launch} {e : Env} {R : Room} {s : State} {m : MethodId} {args : Array Value} {below : List Frame} {meth : Method} {c : Code} {nW : Nat} {dC : Nat → ClassId} {dI : Nat → Nat → Nat} {k : Nat → ClassId} {g : Nat → Nat} {A : Nat → Prop} {J : Nat → List qV → List qV → qW → Prop} {Q : qR} (X : q_X p R s m args meth c cX12_sightLine 4 nW 4 91 RX12 (some .boolean) dC dI k g A) (hJ : ∀ d : Nat, q_Sd p l e R s m args below meth c 4 nW dC dI k g A (MQ below (q_post (dC, dI) k g nW Q A) args s 0 0 A) d (x_cut (is_F12_sightLine d) (J d))) : q_Sd p l e R s m args below meth c 4 nW dC dI k g A (MQ below (q_post (dC, dI) k g nW Q A) args s 0 0 A) 47 (b_F12_sightLine_47 J Q) := by
  unfold b_F12_sightLine_47
  refine s_iconst X ⟨by decide, by decide⟩ dF12_sightLine_47 ?_
  exact s_zret X dF12_sightLine_48
set_option maxRecDepth 100000 in
def b_F12_sightLine_41 (J : Nat → List qV → List qV → qW → Prop) (Q : qR) : qK := x_call (some 12) 4 sp_F12_take (x_nw (x_if_ne (x_aload 0 (x_int 2 (x_int 10 (x_call (some 12) 3 sp_F12_keep2 (x_nw (x_int 1 (x_zret Q))))))) (b_F12_sightLine_47 J Q)))
set_option maxRecDepth 100000 in
theorem s_F12_sightLine_41 {p : Program} {l : Launch} {e : Env} {R : Room} {s : State} {m : MethodId} {args : Array Value} {below : List Frame} {meth : Method} {c : Code} {nW : Nat} {dC : Nat → ClassId} {dI : Nat → Nat → Nat} {k : Nat → ClassId} {g : Nat → Nat} {A : Nat → Prop} {J : Nat → List qV → List qV → qW → Prop} {Q : qR} (X : q_X p R s m args meth c cX12_sightLine 4 nW 4 91 RX12 (some .boolean) dC dI k g A) (hJ : ∀ d : Nat, q_Sd p l e R s m args below meth c 4 nW dC dI k g A (MQ below (q_post (dC, dI) k g nW Q A) args s 0 0 A) d (x_cut (is_F12_sightLine d) (J d))) : q_Sd p l e R s m args below meth c 4 nW dC dI k g A (MQ below (q_post (dC, dI) k g nW Q A) args s 0 0 A) 41 (b_F12_sightLine_41 J Q) := by
  unfold b_F12_sightLine_41
  refine s_callV X (m_F12_take l) tw_1097 tw_1098 tw_1621 tw_134 tw_1099 rfl (by decide +kernel) ⟨by decide, by decide⟩ dF12_sightLine_41 ?_
  refine s_nw ?_
  refine s_if_ne X (tgt := 49) dF12_sightLine_44 (by decide) ?_ ?_
  · refine s_aload_n X rfl dF12_sightLine_49 ?_
    refine s_iconst X ⟨by decide, by decide⟩ dF12_sightLine_50 ?_
    refine s_bipush X ⟨by decide, by decide⟩ (by decide) dF12_sightLine_51 ?_
    refine s_callV X (m_F12_keep2 l) tw_1154 tw_1155 tw_1592 tw_134 tw_1156 rfl (by decide +kernel) ⟨by decide, by decide⟩ dF12_sightLine_53 ?_
    refine s_nw ?_
    refine s_iconst X ⟨by decide, by decide⟩ dF12_sightLine_56 ?_
    exact s_zret X dF12_sightLine_57
  · exact s_F12_sightLine_47 X hJ
set_option maxRecDepth 100000 in
def b_F12_sightLine_0 (J : Nat → List qV → List qV → qW → Prop) (Q : qR) : qK := x_lload 1 (x_lng 1952541804 (x_lcmp (x_if_eq (x_aload 0 (x_int 0 (x_int 10 (x_iload 3 (x_call (some 12) 4 sp_F12_full (x_nw (x_aload 0 (x_call (some 12) 1 sp_F12_token (x_nw (x_aload 0 (x_int 0 (x_int 0 (x_int 7 (x_call (some 12) 4 sp_F12_take (x_nw (x_if_eq (b_F12_sightLine_47 J Q) (x_aload 0 (x_int 1 (x_int 1 (x_int 99 (b_F12_sightLine_41 J Q))))))))))))))))))))) (x_aload 0 (x_call (some 12) 1 sp_F12_fails (x_nw (x_zret Q)))))))
set_option maxRecDepth 100000 in
theorem s_F12_sightLine_0 {p : Program} {l : Launch} {e : Env} {R : Room} {s : State} {m : MethodId} {args : Array Value} {below : List Frame} {meth : Method} {c : Code} {nW : Nat} {dC : Nat → ClassId} {dI : Nat → Nat → Nat} {k : Nat → ClassId} {g : Nat → Nat} {A : Nat → Prop} {J : Nat → List qV → List qV → qW → Prop} {Q : qR} (X : q_X p R s m args meth c cX12_sightLine 4 nW 4 91 RX12 (some .boolean) dC dI k g A) (hJ : ∀ d : Nat, q_Sd p l e R s m args below meth c 4 nW dC dI k g A (MQ below (q_post (dC, dI) k g nW Q A) args s 0 0 A) d (x_cut (is_F12_sightLine d) (J d))) : q_Sd p l e R s m args below meth c 4 nW dC dI k g A (MQ below (q_post (dC, dI) k g nW Q A) args s 0 0 A) 0 (b_F12_sightLine_0 J Q) := by
  unfold b_F12_sightLine_0
  refine s_lload_n X rfl dF12_sightLine_0 ?_
  refine s_ldc2 X ⟨by decide, by decide⟩ tw_1165 dF12_sightLine_1 ?_
  refine s_lcmp X dF12_sightLine_4 ?_
  refine s_if_eq X (tgt := 13) dF12_sightLine_5 (by decide) ?_ ?_
  · refine s_aload_n X rfl dF12_sightLine_13 ?_
    refine s_iconst X ⟨by decide, by decide⟩ dF12_sightLine_14 ?_
    refine s_bipush X ⟨by decide, by decide⟩ (by decide) dF12_sightLine_15 ?_
    refine s_iload_n X rfl dF12_sightLine_17 ?_
    refine s_callV X (m_F12_full l) tw_1088 tw_1089 tw_1578 tw_134 tw_1090 rfl (by decide +kernel) ⟨by decide, by decide⟩ dF12_sightLine_18 ?_
    refine s_nw ?_
    refine s_aload_n X rfl dF12_sightLine_21 ?_
    refine s_callV X (m_F12_token l) tw_1070 tw_1071 tw_1627 tw_134 tw_1072 rfl (by decide +kernel) ⟨by decide, by decide⟩ dF12_sightLine_22 ?_
    refine s_nw ?_
    refine s_aload_n X rfl dF12_sightLine_25 ?_
    refine s_iconst X ⟨by decide, by decide⟩ dF12_sightLine_26 ?_
    refine s_iconst X ⟨by decide, by decide⟩ dF12_sightLine_27 ?_
    refine s_bipush X ⟨by decide, by decide⟩ (by decide) dF12_sightLine_28 ?_
    refine s_callV X (m_F12_take l) tw_1097 tw_1098 tw_1621 tw_134 tw_1099 rfl (by decide +kernel) ⟨by decide, by decide⟩ dF12_sightLine_30 ?_
    refine s_nw ?_
    refine s_if_eq X (tgt := 47) dF12_sightLine_33 (by decide) ?_ ?_
    · exact s_F12_sightLine_47 X hJ
    · refine s_aload_n X rfl dF12_sightLine_36 ?_
      refine s_iconst X ⟨by decide, by decide⟩ dF12_sightLine_37 ?_
      refine s_iconst X ⟨by decide, by decide⟩ dF12_sightLine_38 ?_
      refine s_bipush X ⟨by decide, by decide⟩ (by decide) dF12_sightLine_39 ?_
      exact s_F12_sightLine_41 X hJ
  · refine s_aload_n X rfl dF12_sightLine_8 ?_
    refine s_callV X (m_F12_fails l) tw_1103 tw_1104 tw_1568 tw_134 tw_1105 rfl (by decide +kernel) ⟨by decide, by decide⟩ dF12_sightLine_9 ?_
    refine s_nw ?_
    exact s_zret X dF12_sightLine_12

def sp_F12_sightLine : qS := fun av w Q => ∃ (mco : Int) (mre : Int) (mle : Int) (mbe : Int) (mso : Int) (mva : Int) (mwo : Int) (mwr : Int) (mlf : Int) (mlp : Int) (mfp : Int) (mfd : Int) (mgo : Int) (mbo : Int) (mpe : Int) (mye : Int) (mpr : Int) (mld : Int) (msi : Int) (mse : Int) (tp : Nat → Int) (re : Nat → Int) (td : Nat → Int) (ww : Int) (gw : Int) (gp : Int) (gf : Int) (gq : Int) (gD : Nat → Int) (gfp : Int) (gfd : Int) (b : Int), av = [q2 0, q3 ww, q1 b] ∧ w = [.inr (12, [q1 mco, q2 1, q2 4, q2 5, q2 6, q2 7, q2 8, q2 9, q2 10, q2 11, q1 mre, q1 mle, q1 mbe, q1 mso, q1 mva, q3 mwo, q1 mwr, q1 mlf, q1 mlp, q2 3, q2 2, q1 mfp, q1 mfd, q1 mgo, q1 mbo, q1 mpe, q1 mye, q2 12, q1 mpr, q2 13, q2 14, q2 15, q2 16, q1 mld, q2 17, q1 msi, q2 18, q2 19, q2 20, q2 21, q2 22, q1 mse, q2 23, q2 24, q2 25]), .inl (1, 2400, .inl tp), .inl (0, 4, .inl re), .inl (0, 161, .inl td)] ∧ (0 ≤ mre ∧ mre ≤ mle ∧ mle ≤ 600) ∧ (LnS (tc tp) mle gp gf gq gD gfp gfd mre mbe mso mva mwo mlf mlp td mfp mfd) ∧ (¬ mgo = 0) ∧ (ww = woT (tc tp) mle gp) ∧ (gp ≤ mle) ∧ (gw = liW (tc tp) mle gp 3) ∧ (b = tB (tc tp) mle gp) ∧ (0 ≤ td 0 ∧ td 0 ≤ 10) ∧ (∀ (r : Int) (x_mre : Int) (x_mbe : Int) (x_mso : Int) (x_mva : Int) (x_mwo : Int) (x_mwr : Int) (x_mlf : Int) (x_mlp : Int) (x_mgo : Int) (x_re : Nat → Int) (x_td : Nat → Int), ((r = 0 ∨ r = 1 ∧ (x_mso = 0 ∨ mre < x_mre)) ∧ mre ≤ x_mre ∧ x_mre ≤ mle ∧ (0 ≤ x_td 0 ∧ x_td 0 ≤ 10) ∧ LnO (tc tp) mle 3 gp gf gq gD gfp gfd r x_mre x_mbe x_mso x_mva x_mwo x_mwr x_mlf x_mlp x_mgo x_td mfp mfd) → Q (some (q1 r)) ([.inr (12, [q1 mco, q2 1, q2 4, q2 5, q2 6, q2 7, q2 8, q2 9, q2 10, q2 11, q1 x_mre, q1 mle, q1 x_mbe, q1 x_mso, q1 x_mva, q3 x_mwo, q1 x_mwr, q1 x_mlf, q1 x_mlp, q2 3, q2 2, q1 mfp, q1 mfd, q1 x_mgo, q1 mbo, q1 mpe, q1 mye, q2 12, q1 mpr, q2 13, q2 14, q2 15, q2 16, q1 mld, q2 17, q1 msi, q2 18, q2 19, q2 20, q2 21, q2 22, q1 mse, q2 23, q2 24, q2 25]), .inl (1, 2400, .inl tp), .inl (0, 4, .inl x_re), .inl (0, 161, .inl x_td)]))
set_option maxHeartbeats 4000000 in
set_option maxRecDepth 100000 in
theorem m_F12_sightLine (l : Launch) : q_M l yX12_sightLine cX12_sightLine 4 (some .boolean) 4 91 sp_F12_sightLine := by
  refine q_meth (by decide) (fun av w Q h => by obtain ⟨mco, mre, mle, mbe, mso, mva, mwo, mwr, mlf, mlp, mfp, mfd, mgo, mbo, mpe, mye, mpr, mld, msi, mse, tp, re, td, ww, gw, gp, gf, gq, gD, gfp, gfd, b, rfl, rfl, htp, hLS, hgo, hww, hgp2, hgw, hat, hst, hQ⟩ := h; exact Nat.le_of_ble_eq_true rfl) ?_
  intro p e R s m args below meth c dC dI k g A av w Q hsp oka okw X
  obtain ⟨mco, mre, mle, mbe, mso, mva, mwo, mwr, mlf, mlp, mfp, mfd, mgo, mbo, mpe, mye, mpr, mld, msi, mse, tp, re, td, ww, gw, gp, gf, gq, gD, gfp, gfd, b, rfl, rfl, htp, hLS, hgo, hww, hgp2, hgw, hat, hst, hQ⟩ := hsp
  have o_b : -2147483648 ≤ b ∧ b ≤ 2147483647 := oka _ (List.mem_of_getElem? (i := 2) rfl)
  refine s_mono (s_F12_sightLine_0 X (J := fun _ _ _ _ => False) (fun d => s_cutF)) ?_
  rintro lv st w' ⟨rfl, rfl, rfl⟩
  have rw9 := li_r3 hgw
  intro zq_4 hq_4
  replace hq_4 := wb_3 (i := 16) hww hgp2 hgw (by decide) (by decide) hq_4
  apply And.intro
  · intro hq_5
    replace hq_4 := wb1 hq_4 hq_5
    refine Exists.intro [0, 3, 1, 4, 5, 6, 7, 8, 9, 10, 11, 2, 12, 13, 14, 15, 16, 17, 18, 19, 20, 21, 22, 23, 24, 25] (Exists.intro [q2 0, q1 _, q1 _, q1 _] (Exists.intro ([.inr (12, [q1 _, q2 2, q2 3, q2 4, q2 5, q2 6, q2 7, q2 8, q2 9, q2 10, q1 _, q1 _, q1 _, q1 _, q1 _, q3 _, q1 _, q1 _, q1 _, q2 1, q2 11, q1 _, q1 _, q1 _, q1 _, q1 _, q1 _, q2 12, q1 _, q2 13, q2 14, q2 15, q2 16, q1 _, q2 17, q1 _, q2 18, q2 19, q2 20, q2 21, q2 22, q1 _, q2 23, q2 24, q2 25]), .inl (0, 161, .inl _)]) (And.intro rfl (And.intro rfl (And.intro rfl (And.intro ⟨⟨_, rfl⟩, rfl⟩ ?_))))))
    refine Exists.intro _ (Exists.intro _ (Exists.intro _ (Exists.intro _ (Exists.intro _ (Exists.intro _ (Exists.intro _ (Exists.intro _ (Exists.intro _ (Exists.intro _ (Exists.intro _ (Exists.intro _ (Exists.intro _ (Exists.intro _ (Exists.intro _ (Exists.intro _ (Exists.intro _ (Exists.intro _ (Exists.intro _ (Exists.intro _ (Exists.intro _ (Exists.intro _ (Exists.intro _ (Exists.intro _ (And.intro rfl (And.intro rfl (And.intro (by first | omega | assumption | exact q_rg_up (by assumption) (by omega) | exact q_rg_up (q_rg_up (by assumption) (by omega)) (by omega) | exact q_rg_cpy (by assumption) (by assumption)) (And.intro (by rw [hat]; exact Lt_lt hLS.2.1 hLS.2.2.1) (?_))))))))))))))))))))))))))))
    intro x_mlf_18 x_mlp_18 hq_18
    refine Exists.intro [0, 1, 4, 5, 6, 7, 8, 9, 10, 11, 3, 2, 12, 13, 14, 15, 16, 17, 18, 19, 20, 21, 22, 23, 24, 25] (Exists.intro [q2 0] (Exists.intro ([.inr (12, [q1 _, q2 1, q2 2, q2 3, q2 4, q2 5, q2 6, q2 7, q2 8, q2 9, q1 _, q1 _, q1 _, q1 _, q1 _, q3 _, q1 _, q1 _, q1 _, q2 10, q2 11, q1 _, q1 _, q1 _, q1 _, q1 _, q1 _, q2 12, q1 _, q2 13, q2 14, q2 15, q2 16, q1 _, q2 17, q1 _, q2 18, q2 19, q2 20, q2 21, q2 22, q1 _, q2 23, q2 24, q2 25]), .inl (1, 2400, .inl _)]) (And.intro rfl (And.intro rfl (And.intro rfl (And.intro ⟨⟨_, rfl⟩, rfl⟩ ?_))))))
    refine Exists.intro _ (Exists.intro _ (Exists.intro _ (Exists.intro _ (Exists.intro _ (Exists.intro _ (Exists.intro _ (Exists.intro _ (Exists.intro _ (Exists.intro _ (Exists.intro _ (Exists.intro _ (Exists.intro _ (Exists.intro _ (Exists.intro _ (Exists.intro _ (Exists.intro _ (Exists.intro _ (Exists.intro _ (Exists.intro _ (Exists.intro _ (And.intro rfl (And.intro rfl (And.intro (by first | omega | assumption | exact q_rg_up (by assumption) (by omega) | exact q_rg_up (q_rg_up (by assumption) (by omega)) (by omega) | exact q_rg_cpy (by assumption) (by assumption)) (?_))))))))))))))))))))))))
    intro x_mre_22 x_mbe_22 x_mso_22 x_mva_22 x_mwo_22 hq_22
    refine Exists.intro [0, 1, 2, 4, 5, 6, 7, 8, 9, 10, 11, 3, 12, 13, 14, 15, 16, 17, 18, 19, 20, 21, 22, 23, 24, 25] (Exists.intro [q2 0, q1 _, q1 _, q1 _] (Exists.intro ([.inr (12, [q1 _, q2 1, q2 3, q2 4, q2 5, q2 6, q2 7, q2 8, q2 9, q2 10, q1 _, q1 _, q1 _, q1 _, q1 _, q3 _, q1 _, q1 _, q1 _, q2 11, q2 2, q1 _, q1 _, q1 _, q1 _, q1 _, q1 _, q2 12, q1 _, q2 13, q2 14, q2 15, q2 16, q1 _, q2 17, q1 _, q2 18, q2 19, q2 20, q2 21, q2 22, q1 _, q2 23, q2 24, q2 25]), .inl (1, 2400, .inl _), .inl (0, 4, .inl _)]) (And.intro rfl (And.intro rfl (And.intro rfl (And.intro ⟨⟨_, rfl⟩, rfl⟩ ?_))))))
    refine Exists.intro _ (Exists.intro _ (Exists.intro _ (Exists.intro _ (Exists.intro _ (Exists.intro _ (Exists.intro _ (Exists.intro _ (Exists.intro _ (Exists.intro _ (Exists.intro _ (Exists.intro _ (Exists.intro _ (Exists.intro _ (Exists.intro _ (Exists.intro _ (Exists.intro _ (Exists.intro _ (Exists.intro _ (Exists.intro _ (Exists.intro _ (Exists.intro _ (Exists.intro _ (Exists.intro _ (Exists.intro _ (Exists.intro _ (Exists.intro _ (Exists.intro _ (Exists.intro _ (Exists.intro _ (And.intro rfl (And.intro rfl (And.intro (by first | omega | assumption | exact q_rg_up (by assumption) (by omega) | exact q_rg_up (q_rg_up (by assumption) (by omega)) (by omega) | exact q_rg_cpy (by assumption) (by assumption)) (And.intro (by decide) (And.intro (LnS_f (go := mgo) (w := 16) hLS hat hq_22.1 (fun q9 => fu_s hst (hLS.2.2.2.1 q9).1) hq_18 hgo) (And.intro (by decide) (And.intro ⟨by decide, by decide⟩ (And.intro (by decide) (?_))))))))))))))))))))))))))))))))))))))
    intro zq_30 x_mre_30 x_mbe_30 x_mso_30 x_mva_30 x_mwo_30 x_mwr_30 x_mlf_30 x_mlp_30 x_mgo_30 x_re_30 hq_30
    have S9 := LnS_f (go := mgo) (w := 16) hLS hat hq_22.1 (fun q9 => fu_s hst (hLS.2.2.2.1 q9).1) hq_18 hgo
    apply And.intro
    · intro hq_33
      apply And.intro
      · first | exact Or.inl rfl | exact Or.inr rfl | omega
      exact hQ _ _ _ _ _ _ _ _ _ _ _ _ ⟨by omega, by omega, by omega, (by first | assumption | exact hq_53.2), (by first | (rw [hq_9.1]; exact LnO_n hgw (by omega) (hq_9.2.trans hLS.1.1)) | exact LnO_m (w := 16) (by omega) (LnM_0 S9 (by decide) (by decide) (dj0 hq_30.2.2.2 hq_33)) (by decide) | exact LnO_m (w := 16) (by omega) (LnM_0 (dj1 hq_30.2.2.2 hq_33).1 (by decide) (by decide) (dj0 hq_41.2.2.2 hq_44)) (by decide) | exact LnO_m (w := 16) (by omega) (Sg_1 (dj1 hq_41.2.2.2 hq_44).1 (by decide) hq_53.1 hLS.2.2.2.1 hst.1 (by rw [(dj1 hq_41.2.2.2 hq_44).2, q_up_n (by decide), (dj1 hq_30.2.2.2 hq_33).2]; exact q_up_s) (by rw [(dj1 hq_41.2.2.2 hq_44).2]; exact q_up_s)) (by decide))⟩
    · intro hq_33
      refine Exists.intro [0, 1, 2, 4, 5, 6, 7, 8, 9, 10, 11, 3, 12, 13, 14, 15, 16, 17, 18, 19, 20, 21, 22, 23, 24, 25] (Exists.intro [q2 0, q1 _, q1 _, q1 _] (Exists.intro ([.inr (12, [q1 _, q2 1, q2 3, q2 4, q2 5, q2 6, q2 7, q2 8, q2 9, q2 10, q1 _, q1 _, q1 _, q1 _, q1 _, q3 _, q1 _, q1 _, q1 _, q2 11, q2 2, q1 _, q1 _, q1 _, q1 _, q1 _, q1 _, q2 12, q1 _, q2 13, q2 14, q2 15, q2 16, q1 _, q2 17, q1 _, q2 18, q2 19, q2 20, q2 21, q2 22, q1 _, q2 23, q2 24, q2 25]), .inl (1, 2400, .inl _), .inl (0, 4, .inl _)]) (And.intro rfl (And.intro rfl (And.intro rfl (And.intro ⟨⟨_, rfl⟩, rfl⟩ ?_))))))
      refine Exists.intro _ (Exists.intro _ (Exists.intro _ (Exists.intro _ (Exists.intro _ (Exists.intro _ (Exists.intro _ (Exists.intro _ (Exists.intro _ (Exists.intro _ (Exists.intro _ (Exists.intro _ (Exists.intro _ (Exists.intro _ (Exists.intro _ (Exists.intro _ (Exists.intro _ (Exists.intro _ (Exists.intro _ (Exists.intro _ (Exists.intro _ (Exists.intro _ (Exists.intro _ (Exists.intro _ (Exists.intro _ (Exists.intro _ (Exists.intro _ (Exists.intro _ (Exists.intro _ (Exists.intro _ (And.intro rfl (And.intro rfl (And.intro (by first | omega | assumption | exact q_rg_up (by assumption) (by omega) | exact q_rg_up (q_rg_up (by assumption) (by omega)) (by omega) | exact q_rg_cpy (by assumption) (by assumption)) (And.intro (by decide) (And.intro (dj1 hq_30.2.2.2 hq_33).1 (And.intro (by decide) (And.intro ⟨by decide, by decide⟩ (And.intro (by decide) (?_))))))))))))))))))))))))))))))))))))))
      intro zq_41 x_mre_41 x_mbe_41 x_mso_41 x_mva_41 x_mwo_41 x_mwr_41 x_mlf_41 x_mlp_41 x_mgo_41 x_re_41 hq_41
      apply And.intro
      · intro hq_44
        refine Exists.intro [0, 2, 3, 1, 4, 5, 6, 7, 8, 9, 10, 11, 12, 13, 14, 15, 16, 17, 18, 19, 20, 21, 22, 23, 24, 25] (Exists.intro [q2 0, q1 2, q1 10] (Exists.intro ([.inr (12, [q1 _, q2 3, q2 4, q2 5, q2 6, q2 7, q2 8, q2 9, q2 10, q2 11, q1 _, q1 _, q1 _, q1 _, q1 _, q3 _, q1 _, q1 _, q1 _, q2 2, q2 1, q1 _, q1 _, q1 _, q1 _, q1 _, q1 _, q2 12, q1 _, q2 13, q2 14, q2 15, q2 16, q1 _, q2 17, q1 _, q2 18, q2 19, q2 20, q2 21, q2 22, q1 _, q2 23, q2 24, q2 25]), .inl (0, 4, .inl _), .inl (0, 161, .inl _)]) (And.intro rfl (And.intro rfl (And.intro rfl (And.intro ⟨⟨_, rfl⟩, rfl⟩ ?_))))))
        refine Exists.intro _ (Exists.intro _ (Exists.intro _ (Exists.intro _ (Exists.intro _ (Exists.intro _ (Exists.intro _ (Exists.intro _ (Exists.intro _ (Exists.intro _ (Exists.intro _ (Exists.intro _ (Exists.intro _ (Exists.intro _ (Exists.intro _ (Exists.intro _ (Exists.intro _ (Exists.intro _ (Exists.intro _ (Exists.intro _ (Exists.intro _ (Exists.intro _ (And.intro rfl (And.intro rfl (And.intro (by first | omega | assumption | exact q_rg_up (by assumption) (by omega) | exact q_rg_up (q_rg_up (by assumption) (by omega)) (by omega) | exact q_rg_cpy (by assumption) (by assumption)) (?_)))))))))))))))))))))))))
        intro x_td_53 hq_53
        apply And.intro
        · first | exact Or.inl rfl | exact Or.inr rfl | omega
        exact hQ _ _ _ _ _ _ _ _ _ _ _ _ ⟨by omega, by omega, by omega, (by first | assumption | exact hq_53.2), (by first | (rw [hq_9.1]; exact LnO_n hgw (by omega) (hq_9.2.trans hLS.1.1)) | exact LnO_m (w := 16) (by omega) (LnM_0 S9 (by decide) (by decide) (dj0 hq_30.2.2.2 hq_33)) (by decide) | exact LnO_m (w := 16) (by omega) (LnM_0 (dj1 hq_30.2.2.2 hq_33).1 (by decide) (by decide) (dj0 hq_41.2.2.2 hq_44)) (by decide) | exact LnO_m (w := 16) (by omega) (Sg_1 (dj1 hq_41.2.2.2 hq_44).1 (by decide) hq_53.1 hLS.2.2.2.1 hst.1 (by rw [(dj1 hq_41.2.2.2 hq_44).2, q_up_n (by decide), (dj1 hq_30.2.2.2 hq_33).2]; exact q_up_s) (by rw [(dj1 hq_41.2.2.2 hq_44).2]; exact q_up_s)) (by decide))⟩
      · intro hq_44
        apply And.intro
        · first | exact Or.inl rfl | exact Or.inr rfl | omega
        exact hQ _ _ _ _ _ _ _ _ _ _ _ _ ⟨by omega, by omega, by omega, (by first | assumption | exact hq_53.2), (by first | (rw [hq_9.1]; exact LnO_n hgw (by omega) (hq_9.2.trans hLS.1.1)) | exact LnO_m (w := 16) (by omega) (LnM_0 S9 (by decide) (by decide) (dj0 hq_30.2.2.2 hq_33)) (by decide) | exact LnO_m (w := 16) (by omega) (LnM_0 (dj1 hq_30.2.2.2 hq_33).1 (by decide) (by decide) (dj0 hq_41.2.2.2 hq_44)) (by decide) | exact LnO_m (w := 16) (by omega) (Sg_1 (dj1 hq_41.2.2.2 hq_44).1 (by decide) hq_53.1 hLS.2.2.2.1 hst.1 (by rw [(dj1 hq_41.2.2.2 hq_44).2, q_up_n (by decide), (dj1 hq_30.2.2.2 hq_33).2]; exact q_up_s) (by rw [(dj1 hq_41.2.2.2 hq_44).2]; exact q_up_s)) (by decide))⟩
  · intro hq_5
    replace hq_4 := wb0 hq_4 hq_5
    refine Exists.intro [0, 1, 4, 5, 6, 7, 8, 9, 10, 11, 3, 2, 12, 13, 14, 15, 16, 17, 18, 19, 20, 21, 22, 23, 24, 25] (Exists.intro [q2 0] (Exists.intro ([.inr (12, [q1 _, q2 1, q2 2, q2 3, q2 4, q2 5, q2 6, q2 7, q2 8, q2 9, q1 _, q1 _, q1 _, q1 _, q1 _, q3 _, q1 _, q1 _, q1 _, q2 10, q2 11, q1 _, q1 _, q1 _, q1 _, q1 _, q1 _, q2 12, q1 _, q2 13, q2 14, q2 15, q2 16, q1 _, q2 17, q1 _, q2 18, q2 19, q2 20, q2 21, q2 22, q1 _, q2 23, q2 24, q2 25])]) (And.intro rfl (And.intro rfl (And.intro rfl (And.intro ⟨⟨_, rfl⟩, rfl⟩ ?_))))))
    refine Exists.intro _ (Exists.intro _ (Exists.intro _ (Exists.intro _ (Exists.intro _ (Exists.intro _ (Exists.intro _ (Exists.intro _ (Exists.intro _ (Exists.intro _ (Exists.intro _ (Exists.intro _ (Exists.intro _ (Exists.intro _ (Exists.intro _ (Exists.intro _ (Exists.intro _ (Exists.intro _ (Exists.intro _ (Exists.intro _ (And.intro rfl (And.intro rfl (?_))))))))))))))))))))))
    intro zq_9 x_mwr_9 hq_9
    apply And.intro
    · first | exact Or.inl rfl | exact Or.inr rfl | omega
    exact hQ _ _ _ _ _ _ _ _ _ _ _ _ ⟨by omega, by omega, by omega, (by first | assumption | exact hq_53.2), (by first | (rw [hq_9.1]; exact LnO_n hgw (by omega) (hq_9.2.trans hLS.1.1)) | exact LnO_m (w := 16) (by omega) (LnM_0 S9 (by decide) (by decide) (dj0 hq_30.2.2.2 hq_33)) (by decide) | exact LnO_m (w := 16) (by omega) (LnM_0 (dj1 hq_30.2.2.2 hq_33).1 (by decide) (by decide) (dj0 hq_41.2.2.2 hq_44)) (by decide) | exact LnO_m (w := 16) (by omega) (Sg_1 (dj1 hq_41.2.2.2 hq_44).1 (by decide) hq_53.1 hLS.2.2.2.1 hst.1 (by rw [(dj1 hq_41.2.2.2 hq_44).2, q_up_n (by decide), (dj1 hq_30.2.2.2 hq_33).2]; exact q_up_s) (by rw [(dj1 hq_41.2.2.2 hq_44).2]; exact q_up_s)) (by decide))⟩
