/-! ===== all lines of a text, the reference ===== -/
theorem woT_n {t : Nat → Int} {n p fa pl fp fd re be so va wo lf lp mfp mfd : Int} {D td : Nat → Int} (h : LnS t n p fa pl D fp fd re be so va wo lf lp td mfp mfd) (hq_2 : ¬ so = 2) : (0 : Int) = woT t n p := by
  have hq_3 := h.1.2.2.1
  unfold woT
  rw [if_neg (fun e => hq_2 (by rw [hq_3, e]; rfl))]
/-- behind k lines: all went well so far, or one is none -/
def RlS (t : Nat → Int) (n s : Int) (k : Nat) (v re be so va wo wr lf lp : Int) (td : Nat → Int) (mfp mfd : Int) : Prop :=
  (v = 1 ∧ TokR t n (stS t n s k).1 re be so va wo ∧ LtM (stS t n s k).2.1 (stS t n s k).2.2.1 lf lp ∧ (¬ (stS t n s k).2.1 = 0 → (stS t n s k).2.2.1 < tB t n (stS t n s k).1) ∧ TdR ((stS t n s k).2.1 = 0) (stS t n s k).2.2.2.1 (stS t n s k).2.2.2.2.1 (stS t n s k).2.2.2.2.2 td mfp mfd ∧ 0 ≤ (stS t n s k).1 ∧ (stS t n s k).1 ≤ n) ∨
  (v = 0 ∧ ¬ tK t n (stS t n s k).1 = 0 ∧ ¬ lnOk t n (sW t n s (stS t n s k)) (stS t n s k).1 ∧ wr = lnB t n (sW t n s (stS t n s k)) (stS t n s k).1)
theorem RlS_0 {t : Nat → Int} {n s re be so va wo wr lf lp mfp mfd : Int} {td : Nat → Int} (h : TokR t n 0 re be so va wo) (hl : lf = 0) (hd : (∀ i : Nat, i < 161 → td i = blk s i) ∧ mfp = -1 ∧ mfd = -1) (hn : 0 ≤ n) : RlS t n s 0 1 re be so va wo wr lf lp td mfp mfd :=
  Or.inl ⟨rfl, h, ⟨hl, fun hq_9 => absurd rfl hq_9⟩, fun hq_9 => absurd rfl hq_9, fun _ => hd, Int.le_refl 0, hn⟩
theorem RlS_p {t : Nat → Int} {n s v re be so va wo wr lf lp mfp mfd : Int} {k : Nat} {td : Nat → Int} (h : RlS t n s k v re be so va wo wr lf lp td mfp mfd) (hv : ¬ v = 0) : 0 ≤ (stS t n s k).1 ∧ (stS t n s k).1 ≤ n := by
  rcases h with ⟨-, -, -, -, -, hq_1, hq_2⟩ | ⟨hq_1, -⟩
  · exact ⟨hq_1, hq_2⟩
  · exact absurd hq_1 hv
theorem RlS_l {t : Nat → Int} {n s v re be so va wo wr lf lp mfp mfd : Int} {k : Nat} {td : Nat → Int} (h : RlS t n s k v re be so va wo wr lf lp td mfp mfd) (hv : ¬ v = 0) (hs : ¬ so = 0) : LnS t n (stS t n s k).1 (stS t n s k).2.1 (stS t n s k).2.2.1 (stS t n s k).2.2.2.1 (stS t n s k).2.2.2.2.1 (stS t n s k).2.2.2.2.2 re be so va wo lf lp td mfp mfd := by
  rcases h with ⟨-, hq_1, hq_2, hq_3, hq_4, hq_5, hq_6⟩ | ⟨hq_1, -⟩
  · exact ⟨hq_1, hq_2, hq_3, hq_4, fun e => hs (by rw [hq_1.2.2.1, e]; rfl), hq_6⟩
  · exact absurd hq_1 hv
theorem lok3 {t : Nat → Int} {n w p : Int} (h : lnOk t n w p) : ¬ w = -1 ∧ lok t n w p 3 := ⟨h.1, h.2.1⟩
/-- a line more -/
theorem RlS_s {t : Nat → Int} {n s r re be so va wo wr lf lp go re0 be0 so0 va0 wo0 lf0 lp0 re2 be2 so2 va2 wo2 wr2 mfp0 mfd0 mfp mfd : Int} {k : Nat} {td0 td : Nat → Int} (hL : LnS t n (stS t n s k).1 (stS t n s k).2.1 (stS t n s k).2.2.1 (stS t n s k).2.2.2.1 (stS t n s k).2.2.2.2.1 (stS t n s k).2.2.2.2.2 re0 be0 so0 va0 wo0 lf0 lp0 td0 mfp0 mfd0)
    (hq_0 : 0 ≤ (stS t n s k).1) (hO : LnO t n s (stS t n s k).1 (stS t n s k).2.1 (stS t n s k).2.2.1 (stS t n s k).2.2.2.1 (stS t n s k).2.2.2.2.1 (stS t n s k).2.2.2.2.2 r re be so va wo wr lf lp go td mfp mfd) (hr : ¬ r = 0) (hso : so = 4) (hT : TokR t n re re2 be2 so2 va2 wo2) : RlS t n s (k + 1) r re2 be2 so2 va2 wo2 wr2 lf lp td mfp mfd := by
  obtain ⟨S, heS⟩ : ∃ S, S = stS t n s k := ⟨_, rfl⟩
  have e1 : stS t n s (k + 1) = nxS t n s (stS t n s k) := rfl
  unfold RlS
  rw [e1]
  rw [← heS] at hL hq_0 hO ⊢
  have hkp : ¬ tK t n S.1 = 0 := hL.2.2.2.2.1
  have hpn : S.1 ≤ n := hL.2.2.2.2.2
  rcases hO with ⟨hr1, hw, hM, hD⟩ | ⟨hr0, -⟩
  · obtain ⟨⟨t1, t2, t3, t4, t5⟩, ⟨l1, l2⟩, hk, g0, g1, hb, hp⟩ := hM
    have k3 : tK t n (lps t n (sW t n s S) S.1 3) = 3 := rk_4 (t3.symm.trans hso)
    have hok : lnOk t n (sW t n s S) S.1 := ⟨hw, hk, k3⟩
    have hnh : ¬ hlt t n s S := by
      rintro (hq_9 | hq_9)
      · exact hkp hq_9
      · exact hq_9 hok
    rw [nxS_n hnh]
    have hrg := lps_r (t := t) (w := sW t n s S) hpn 3
    have hE := tE_r (t := t) (p := lps t n (sW t n s S) S.1 3) hrg.2
    have hlt9 := hE.2.2 (tK_n (by omega))
    have hB2 := tB_r (t := t) (p := lnP t n (sW t n s S) S.1) hE.2.1
    have hB3 := tB_r (t := t) (p := lps t n (sW t n s S) S.1 3) hrg.2
    have hE1 := tE_r (t := t) hpn
    have hB1 := tB_r (t := t) hpn
    refine Or.inl ⟨hr1, TokR_at ⟨t1, t2, t3, t4, t5⟩ hT, ⟨l1, l2⟩, fun hq_9 => ?_, fun hq_9 => ?_, ?_, hE.2.1⟩
    · have hq_8 := hb hq_9
      show lpl t n (sW t n s S) S.1 (f1S t n s S) (p1S t n s S) 3 < _
      have hq_8 : lpl t n (sW t n s S) S.1 (f1S t n s S) (p1S t n s S) 3 < tB t n (lps t n (sW t n s S) S.1 3) := hq_8
      have hq_7 : lnP t n (sW t n s S) S.1 = tE t n (lps t n (sW t n s S) S.1 3) := rfl
      have hB2 : lnP t n (sW t n s S) S.1 ≤ tB t n (lnP t n (sW t n s S) S.1) := hB2.1
      show _ < tB t n (lnP t n (sW t n s S) S.1)
      omega
    · have hq_9 : fS t n s S = 0 := hq_9
      obtain ⟨dq_1, dq_2, dq_3⟩ := hD hq_9
      refine ⟨fun i hi => ?_, ?_, ?_⟩
      · show td i = pifT (fS t n s S = 0) (dS t n s S) S.2.2.2.1 i
        rw [pifT_t hq_9]; exact dq_1 i hi
      · show mfp = pif (fS t n s S = 0) (gS t n s S) S.2.2.2.2.1
        rw [pif_t hq_9]; exact dq_2
      · show mfd = pif (fS t n s S = 0) (hS t n s S) S.2.2.2.2.2
        rw [pif_t hq_9]; exact dq_3
    · show 0 ≤ lnP t n (sW t n s S) S.1
      have hq_7 : lnP t n (sW t n s S) S.1 = tE t n (lps t n (sW t n s S) S.1 3) := rfl
      omega
  · exact absurd hr0 hr
theorem RlS_n {t : Nat → Int} {n s r re be so va wo wr lf lp go re0 be0 so0 va0 wo0 lf0 lp0 mfp0 mfd0 mfp mfd : Int} {k : Nat} {td0 td : Nat → Int} (hL : LnS t n (stS t n s k).1 (stS t n s k).2.1 (stS t n s k).2.2.1 (stS t n s k).2.2.2.1 (stS t n s k).2.2.2.2.1 (stS t n s k).2.2.2.2.2 re0 be0 so0 va0 wo0 lf0 lp0 td0 mfp0 mfd0)
    (hO : LnO t n s (stS t n s k).1 (stS t n s k).2.1 (stS t n s k).2.2.1 (stS t n s k).2.2.2.1 (stS t n s k).2.2.2.2.1 (stS t n s k).2.2.2.2.2 r re be so va wo wr lf lp go td mfp mfd) (hr : r = 0) : RlS t n s k r re be so va wo wr lf lp td mfp mfd := by
  rcases hO with ⟨hr1, -⟩ | ⟨-, hn, hw⟩
  · exact absurd (hr.symm.trans hr1) (by decide)
  · exact Or.inr ⟨hr, hL.2.2.2.2.1, fun hq_9 => hn (lok3 hq_9), hw⟩
theorem RlS_b {t : Nat → Int} {n s r re be so va wo wr lf lp go re0 be0 so0 va0 wo0 lf0 lp0 mfp0 mfd0 mfp mfd v wr2 : Int} {k : Nat} {td0 td : Nat → Int} (hL : LnS t n (stS t n s k).1 (stS t n s k).2.1 (stS t n s k).2.2.1 (stS t n s k).2.2.2.1 (stS t n s k).2.2.2.2.1 (stS t n s k).2.2.2.2.2 re0 be0 so0 va0 wo0 lf0 lp0 td0 mfp0 mfd0)
    (hO : LnO t n s (stS t n s k).1 (stS t n s k).2.1 (stS t n s k).2.2.1 (stS t n s k).2.2.2.1 (stS t n s k).2.2.2.2.1 (stS t n s k).2.2.2.2.2 r re be so va wo wr lf lp go td mfp mfd) (hr : ¬ r = 0) (hso : ¬ so = 4) (hv : v = 0) (hw2 : wr2 = be) : RlS t n s k v re be so va wo wr2 lf lp td mfp mfd := by
  rcases hO with ⟨-, hw, hM, -⟩ | ⟨hq_1, -⟩
  · obtain ⟨⟨t1, t2, t3, t4, t5⟩, -, hk, -⟩ := hM
    refine Or.inr ⟨hv, hL.2.2.2.2.1, fun hq_9 => hso ?_, ?_⟩
    · have hq_8 : tK t n (lps t n (liW t n (stS t n s k).1 s) (stS t n s k).1 3) = 3 := hq_9.2.2
      rw [t3, hq_8]; rfl
    · rw [hw2, t1]
      exact (lnB_3 hw hk).symm
  · exact absurd hq_1 hr
/-- what the lines of a text come to -/
def RlE (t : Nat → Int) (n s r be wr lf lp : Int) (td : Nat → Int) (mfp mfd : Int) : Prop := ∃ k : Nat,
  (r = 1 ∧ tK t n (stS t n s k).1 = 0 ∧ be = n ∧ LtM (stS t n s k).2.1 (stS t n s k).2.2.1 lf lp ∧ TdR ((stS t n s k).2.1 = 0) (stS t n s k).2.2.2.1 (stS t n s k).2.2.2.2.1 (stS t n s k).2.2.2.2.2 td mfp mfd) ∨
  (r = 0 ∧ ¬ tK t n (stS t n s k).1 = 0 ∧ ¬ lnOk t n (sW t n s (stS t n s k)) (stS t n s k).1 ∧ wr = lnB t n (sW t n s (stS t n s k)) (stS t n s k).1)
theorem RlE_0 {t : Nat → Int} {n s v re be so va wo wr lf lp mfp mfd : Int} {k : Nat} {td : Nat → Int} (h : RlS t n s k v re be so va wo wr lf lp td mfp mfd) (hv : v = 0) : RlE t n s v be wr lf lp td mfp mfd := by
  rcases h with ⟨hq_1, -⟩ | h
  · exact absurd (hv.symm.trans hq_1) (by decide)
  · exact ⟨k, Or.inr h⟩
theorem tK_0 {t : Nat → Int} {n p : Int} (h : tK t n p = 0) (hp : p ≤ n) : tB t n p = n := by
  have hq_1 := tB_r (t := t) hp
  by_cases c : tB t n p < n
  · exfalso
    unfold tK at h
    rw [if_pos c] at h
    split at h
    · exact absurd h (by decide)
    · split at h
      · split at h
        · exact absurd h (by decide)
        · exact absurd h (by decide)
      · split at h
        · exact absurd h (by decide)
        · exact absurd h (by decide)
  · omega
theorem RlE_1 {t : Nat → Int} {n s v re be so va wo wr lf lp mfp mfd : Int} {k : Nat} {td : Nat → Int} (h : RlS t n s k v re be so va wo wr lf lp td mfp mfd) (hv : ¬ v = 0) (hs : so = 0) : RlE t n s v be wr lf lp td mfp mfd := by
  rcases h with ⟨hq_0, hq_1, hq_2, -, hq_4, -, hq_6⟩ | ⟨hq_1, -⟩
  · have k0 := rk_0 (hq_1.2.2.1.symm.trans hs)
    exact ⟨k, Or.inl ⟨hq_0, k0, by rw [hq_1.1]; exact tK_0 k0 hq_6, hq_2, hq_4⟩⟩
  · exact absurd hq_1 hv

theorem dF12_lineOf_0 : decode cX12_lineOf 0 = .ok (.iload_n 1, 1) := by decide +kernel
theorem dF12_lineOf_1 : decode cX12_lineOf 1 = .ok (.tableswitch 49 0 2 #[27, 35, 43], 27) := by decide +kernel
theorem dF12_lineOf_28 : decode cX12_lineOf 28 = .ok (.aload_n 0, 1) := by decide +kernel
theorem dF12_lineOf_29 : decode cX12_lineOf 29 = .ok (.lload_n 2, 1) := by decide +kernel
theorem dF12_lineOf_30 : decode cX12_lineOf 30 = .ok (.iload 4, 2) := by decide +kernel
theorem dF12_lineOf_32 : decode cX12_lineOf 32 = .ok (.invokevirtual 253, 3) := by decide +kernel
theorem dF12_lineOf_35 : decode cX12_lineOf 35 = .ok (.ireturn, 1) := by decide +kernel
theorem dF12_lineOf_36 : decode cX12_lineOf 36 = .ok (.aload_n 0, 1) := by decide +kernel
theorem dF12_lineOf_37 : decode cX12_lineOf 37 = .ok (.lload_n 2, 1) := by decide +kernel
theorem dF12_lineOf_38 : decode cX12_lineOf 38 = .ok (.iload 4, 2) := by decide +kernel
theorem dF12_lineOf_40 : decode cX12_lineOf 40 = .ok (.invokevirtual 257, 3) := by decide +kernel
theorem dF12_lineOf_43 : decode cX12_lineOf 43 = .ok (.ireturn, 1) := by decide +kernel
theorem dF12_lineOf_44 : decode cX12_lineOf 44 = .ok (.aload_n 0, 1) := by decide +kernel
theorem dF12_lineOf_45 : decode cX12_lineOf 45 = .ok (.lload_n 2, 1) := by decide +kernel
theorem dF12_lineOf_46 : decode cX12_lineOf 46 = .ok (.invokevirtual 260, 3) := by decide +kernel
theorem dF12_lineOf_49 : decode cX12_lineOf 49 = .ok (.ireturn, 1) := by decide +kernel
theorem dF12_lineOf_50 : decode cX12_lineOf 50 = .ok (.aload_n 0, 1) := by decide +kernel
theorem dF12_lineOf_51 : decode cX12_lineOf 51 = .ok (.lload_n 2, 1) := by decide +kernel
theorem dF12_lineOf_52 : decode cX12_lineOf 52 = .ok (.iload 4, 2) := by decide +kernel
theorem dF12_lineOf_54 : decode cX12_lineOf 54 = .ok (.invokevirtual 264, 3) := by decide +kernel
theorem dF12_lineOf_57 : decode cX12_lineOf 57 = .ok (.ireturn, 1) := by decide +kernel
def is_F12_lineOf : Nat → List Nat := fun d => []
set_option maxRecDepth 100000 in
def b_F12_lineOf_0 (J : Nat → List qV → List qV → qW → Prop) (Q : qR) : qK := x_iload 1 (x_sw 0 2 [x_aload 0 (x_lload 2 (x_iload 4 (x_call (some 12) 3 sp_F12_boroughLine (x_nw (x_zret Q))))), x_aload 0 (x_lload 2 (x_iload 4 (x_call (some 12) 3 sp_F12_yearLine (x_nw (x_zret Q))))), x_aload 0 (x_lload 2 (x_call (some 12) 2 sp_F12_ledgerLine (x_nw (x_zret Q))))] (x_aload 0 (x_lload 2 (x_iload 4 (x_call (some 12) 3 sp_F12_sightLine (x_nw (x_zret Q)))))))
set_option maxRecDepth 100000 in
theorem s_F12_lineOf_0 {p : Program} {l : Launch} {e : Env} {R : Room} {s : State} {m : MethodId} {args : Array Value} {below : List Frame} {meth : Method} {c : Code} {nW : Nat} {dC : Nat → ClassId} {dI : Nat → Nat → Nat} {k : Nat → ClassId} {g : Nat → Nat} {A : Nat → Prop} {J : Nat → List qV → List qV → qW → Prop} {Q : qR} (X : q_X p R s m args meth c cX12_lineOf 5 nW 6 139 RX12 (some .boolean) dC dI k g A) (hJ : ∀ d : Nat, q_Sd p l e R s m args below meth c 5 nW dC dI k g A (MQ below (q_post (dC, dI) k g nW Q A) args s 0 0 A) d (x_cut (is_F12_lineOf d) (J d))) : q_Sd p l e R s m args below meth c 5 nW dC dI k g A (MQ below (q_post (dC, dI) k g nW Q A) args s 0 0 A) 0 (b_F12_lineOf_0 J Q) := by
  unfold b_F12_lineOf_0
  refine s_iload_n X rfl dF12_lineOf_0 ?_
  refine s_sw X (ts := [28, 36, 44]) (td := 50) dF12_lineOf_1 (by decide) (by decide) (by decide) rfl ?_ ?_
  · intro i t K ht hK
    match i, ht, hK with
    | 0, ht, hK =>
      cases ht
      cases hK
      refine s_aload_n X rfl dF12_lineOf_28 ?_
      refine s_lload_n X rfl dF12_lineOf_29 ?_
      refine s_iload X dF12_lineOf_30 ?_
      refine s_callV X (m_F12_boroughLine l) tw_1082 tw_1083 tw_1551 tw_134 tw_1084 rfl (by decide +kernel) ⟨by decide, by decide⟩ dF12_lineOf_32 ?_
      refine s_nw ?_
      exact s_zret X dF12_lineOf_35
    | 1, ht, hK =>
      cases ht
      cases hK
      refine s_aload_n X rfl dF12_lineOf_36 ?_
      refine s_lload_n X rfl dF12_lineOf_37 ?_
      refine s_iload X dF12_lineOf_38 ?_
      refine s_callV X (m_F12_yearLine l) tw_1143 tw_1144 tw_1633 tw_134 tw_1145 rfl (by decide +kernel) ⟨by decide, by decide⟩ dF12_lineOf_40 ?_
      refine s_nw ?_
      exact s_zret X dF12_lineOf_43
    | 2, ht, hK =>
      cases ht
      cases hK
      refine s_aload_n X rfl dF12_lineOf_44 ?_
      refine s_lload_n X rfl dF12_lineOf_45 ?_
      refine s_callV X (m_F12_ledgerLine l) tw_1157 tw_1158 tw_1598 tw_134 tw_1159 rfl (by decide +kernel) ⟨by decide, by decide⟩ dF12_lineOf_46 ?_
      refine s_nw ?_
      exact s_zret X dF12_lineOf_49
    | i + 3, ht, hK => exact absurd ht (by simp)
  · refine s_aload_n X rfl dF12_lineOf_50 ?_
    refine s_lload_n X rfl dF12_lineOf_51 ?_
    refine s_iload X dF12_lineOf_52 ?_
    refine s_callV X (m_F12_sightLine l) tw_1162 tw_1163 tw_1615 tw_134 tw_1164 rfl (by decide +kernel) ⟨by decide, by decide⟩ dF12_lineOf_54 ?_
    refine s_nw ?_
    exact s_zret X dF12_lineOf_57

def sp_F12_lineOf : qS := fun av w Q => ∃ (mco : Int) (mre : Int) (mle : Int) (mbe : Int) (mso : Int) (mva : Int) (mwo : Int) (mwr : Int) (mlf : Int) (mlp : Int) (mfp : Int) (mfd : Int) (mgo : Int) (mbo : Int) (mpe : Int) (mye : Int) (mpr : Int) (mld : Int) (msi : Int) (mse : Int) (tp : Nat → Int) (re : Nat → Int) (td : Nat → Int) (ww : Int) (gw : Int) (gp : Int) (gf : Int) (gq : Int) (gD : Nat → Int) (gfp : Int) (gfd : Int) (a : Int) (b : Int), av = [q2 0, q1 a, q3 ww, q1 b] ∧ w = [.inr (12, [q1 mco, q2 1, q2 4, q2 5, q2 6, q2 7, q2 8, q2 9, q2 10, q2 11, q1 mre, q1 mle, q1 mbe, q1 mso, q1 mva, q3 mwo, q1 mwr, q1 mlf, q1 mlp, q2 3, q2 2, q1 mfp, q1 mfd, q1 mgo, q1 mbo, q1 mpe, q1 mye, q2 12, q1 mpr, q2 13, q2 14, q2 15, q2 16, q1 mld, q2 17, q1 msi, q2 18, q2 19, q2 20, q2 21, q2 22, q1 mse, q2 23, q2 24, q2 25]), .inl (1, 2400, .inl tp), .inl (0, 4, .inl re), .inl (0, 161, .inl td)] ∧ (0 ≤ mre ∧ mre ≤ mle ∧ mle ≤ 600) ∧ (LnS (tc tp) mle gp gf gq gD gfp gfd mre mbe mso mva mwo mlf mlp td mfp mfd) ∧ (¬ mgo = 0) ∧ (ww = woT (tc tp) mle gp) ∧ (gp ≤ mle) ∧ (gw = liW (tc tp) mle gp a) ∧ (b = tB (tc tp) mle gp) ∧ (0 ≤ a ∧ a ≤ 3) ∧ (TI a td) ∧ (∀ (r : Int) (x_mre : Int) (x_mbe : Int) (x_mso : Int) (x_mva : Int) (x_mwo : Int) (x_mwr : Int) (x_mlf : Int) (x_mlp : Int) (x_mgo : Int) (x_mfp : Int) (x_mfd : Int) (x_re : Nat → Int) (x_td : Nat → Int), ((r = 0 ∨ r = 1 ∧ (x_mso = 0 ∨ mre < x_mre)) ∧ mre ≤ x_mre ∧ x_mre ≤ mle ∧ TI a x_td ∧ LnO (tc tp) mle a gp gf gq gD gfp gfd r x_mre x_mbe x_mso x_mva x_mwo x_mwr x_mlf x_mlp x_mgo x_td x_mfp x_mfd) → Q (some (q1 r)) ([.inr (12, [q1 mco, q2 1, q2 4, q2 5, q2 6, q2 7, q2 8, q2 9, q2 10, q2 11, q1 x_mre, q1 mle, q1 x_mbe, q1 x_mso, q1 x_mva, q3 x_mwo, q1 x_mwr, q1 x_mlf, q1 x_mlp, q2 3, q2 2, q1 x_mfp, q1 x_mfd, q1 x_mgo, q1 mbo, q1 mpe, q1 mye, q2 12, q1 mpr, q2 13, q2 14, q2 15, q2 16, q1 mld, q2 17, q1 msi, q2 18, q2 19, q2 20, q2 21, q2 22, q1 mse, q2 23, q2 24, q2 25]), .inl (1, 2400, .inl tp), .inl (0, 4, .inl x_re), .inl (0, 161, .inl x_td)]))
set_option maxHeartbeats 4000000 in
set_option maxRecDepth 100000 in
theorem m_F12_lineOf (l : Launch) : q_M l yX12_lineOf cX12_lineOf 5 (some .boolean) 6 139 sp_F12_lineOf := by
  refine q_meth (by decide) (fun av w Q h => by obtain ⟨mco, mre, mle, mbe, mso, mva, mwo, mwr, mlf, mlp, mfp, mfd, mgo, mbo, mpe, mye, mpr, mld, msi, mse, tp, re, td, ww, gw, gp, gf, gq, gD, gfp, gfd, a, b, rfl, rfl, htp, hLS, hgo, hww, hgp2, hgw, hat, ha, hti, hQ⟩ := h; exact Nat.le_of_ble_eq_true rfl) ?_
  intro p e R s m args below meth c dC dI k g A av w Q hsp oka okw X
  obtain ⟨mco, mre, mle, mbe, mso, mva, mwo, mwr, mlf, mlp, mfp, mfd, mgo, mbo, mpe, mye, mpr, mld, msi, mse, tp, re, td, ww, gw, gp, gf, gq, gD, gfp, gfd, a, b, rfl, rfl, htp, hLS, hgo, hww, hgp2, hgw, hat, ha, hti, hQ⟩ := hsp
  have o_a : -2147483648 ≤ a ∧ a ≤ 2147483647 := oka _ (List.mem_of_getElem? (i := 1) rfl)
  have o_b : -2147483648 ≤ b ∧ b ≤ 2147483647 := oka _ (List.mem_of_getElem? (i := 3) rfl)
  refine s_mono (s_F12_lineOf_0 X (J := fun _ _ _ _ => False) (fun d => s_cutF)) ?_
  rintro lv st w' ⟨rfl, rfl, rfl⟩
  apply And.intro
  · apply And.intro
    · intro hq_1
      refine Exists.intro [0, 1, 2, 3, 4, 5, 6, 7, 8, 9, 10, 11, 12, 13, 14, 15, 16, 17, 18, 19, 20, 21, 22, 23, 24, 25] (Exists.intro [q2 0, q3 _, q1 _] (Exists.intro ([.inr (12, [q1 _, q2 1, q2 4, q2 5, q2 6, q2 7, q2 8, q2 9, q2 10, q2 11, q1 _, q1 _, q1 _, q1 _, q1 _, q3 _, q1 _, q1 _, q1 _, q2 3, q2 2, q1 _, q1 _, q1 _, q1 _, q1 _, q1 _, q2 12, q1 _, q2 13, q2 14, q2 15, q2 16, q1 _, q2 17, q1 _, q2 18, q2 19, q2 20, q2 21, q2 22, q1 _, q2 23, q2 24, q2 25]), .inl (1, 2400, .inl _), .inl (0, 4, .inl _), .inl (0, 161, .inl _)]) (And.intro rfl (And.intro rfl (And.intro rfl (And.intro ⟨⟨_, rfl⟩, rfl⟩ ?_))))))
      refine Exists.intro _ (Exists.intro _ (Exists.intro _ (Exists.intro _ (Exists.intro _ (Exists.intro _ (Exists.intro _ (Exists.intro _ (Exists.intro _ (Exists.intro _ (Exists.intro _ (Exists.intro _ (Exists.intro _ (Exists.intro _ (Exists.intro _ (Exists.intro _ (Exists.intro _ (Exists.intro _ (Exists.intro _ (Exists.intro _ (Exists.intro _ (Exists.intro _ (Exists.intro _ (Exists.intro _ (Exists.intro gw (Exists.intro gp (Exists.intro gf (Exists.intro gq (Exists.intro gD (Exists.intro gfp (Exists.intro gfd (Exists.intro _ (And.intro rfl (And.intro rfl (And.intro (by first | omega | assumption | exact q_rg_up (by assumption) (by omega) | exact q_rg_up (q_rg_up (by assumption) (by omega)) (by omega) | exact q_rg_cpy (by assumption) (by assumption)) (And.intro hLS (And.intro hgo (And.intro hww (And.intro hgp2 (And.intro (by have q9 := hgw; rw [show a = (0 : Int) by omega] at q9; exact q9) (And.intro hat (And.intro (hti.1 (by omega)) (?_))))))))))))))))))))))))))))))))))))))))))
      intro zq_32 x_mre_32 x_mbe_32 x_mso_32 x_mva_32 x_mwo_32 x_mwr_32 x_mlf_32 x_mlp_32 x_mgo_32 x_mfp_32 x_mfd_32 x_re_32 x_td_32 hq_32
      apply And.intro
      · first | exact Or.inl rfl | exact Or.inr rfl | omega
      exact hQ _ _ _ _ _ _ _ _ _ _ _ _ _ _ (by first | exact ⟨by omega, by omega, by omega, (show TI a _ by rw [show a = (0 : Int) by omega]; exact ⟨fun _ => hq_32.2.2.2.1, fun q9 => absurd q9 (by decide), fun q9 => absurd q9 (by decide)⟩), (by rw [show a = (0 : Int) by omega]; exact hq_32.2.2.2.2)⟩ | exact ⟨by omega, by omega, by omega, (show TI a _ by rw [show a = (1 : Int) by omega]; exact ⟨fun q9 => absurd q9 (by decide), fun _ => hq_40.2.2.2.1, fun q9 => absurd q9 (by decide)⟩), (by rw [show a = (1 : Int) by omega]; exact hq_40.2.2.2.2)⟩ | exact ⟨by omega, by omega, by omega, (show TI a _ by rw [show a = (2 : Int) by omega]; exact ⟨fun q9 => absurd q9 (by decide), fun q9 => absurd q9 (by decide), fun q9 => absurd q9 (by decide)⟩), (by rw [show a = (2 : Int) by omega]; exact hq_46.2.2.2)⟩ | exact ⟨by omega, by omega, by omega, (show TI a _ by rw [show a = (3 : Int) by omega]; exact ⟨fun q9 => absurd q9 (by decide), fun q9 => absurd q9 (by decide), fun _ => hq_54.2.2.2.1⟩), (by rw [show a = (3 : Int) by omega]; exact hq_54.2.2.2.2)⟩)
    apply And.intro
    · intro hq_1
      refine Exists.intro [0, 1, 2, 3, 4, 5, 6, 7, 8, 9, 10, 11, 12, 13, 14, 15, 16, 17, 18, 19, 20, 21, 22, 23, 24, 25] (Exists.intro [q2 0, q3 _, q1 _] (Exists.intro ([.inr (12, [q1 _, q2 1, q2 4, q2 5, q2 6, q2 7, q2 8, q2 9, q2 10, q2 11, q1 _, q1 _, q1 _, q1 _, q1 _, q3 _, q1 _, q1 _, q1 _, q2 3, q2 2, q1 _, q1 _, q1 _, q1 _, q1 _, q1 _, q2 12, q1 _, q2 13, q2 14, q2 15, q2 16, q1 _, q2 17, q1 _, q2 18, q2 19, q2 20, q2 21, q2 22, q1 _, q2 23, q2 24, q2 25]), .inl (1, 2400, .inl _), .inl (0, 4, .inl _), .inl (0, 161, .inl _)]) (And.intro rfl (And.intro rfl (And.intro rfl (And.intro ⟨⟨_, rfl⟩, rfl⟩ ?_))))))
      refine Exists.intro _ (Exists.intro _ (Exists.intro _ (Exists.intro _ (Exists.intro _ (Exists.intro _ (Exists.intro _ (Exists.intro _ (Exists.intro _ (Exists.intro _ (Exists.intro _ (Exists.intro _ (Exists.intro _ (Exists.intro _ (Exists.intro _ (Exists.intro _ (Exists.intro _ (Exists.intro _ (Exists.intro _ (Exists.intro _ (Exists.intro _ (Exists.intro _ (Exists.intro _ (Exists.intro _ (Exists.intro gw (Exists.intro gp (Exists.intro gf (Exists.intro gq (Exists.intro gD (Exists.intro gfp (Exists.intro gfd (Exists.intro _ (And.intro rfl (And.intro rfl (And.intro (by first | omega | assumption | exact q_rg_up (by assumption) (by omega) | exact q_rg_up (q_rg_up (by assumption) (by omega)) (by omega) | exact q_rg_cpy (by assumption) (by assumption)) (And.intro hLS (And.intro hgo (And.intro hww (And.intro hgp2 (And.intro (by have q9 := hgw; rw [show a = (1 : Int) by omega] at q9; exact q9) (And.intro hat (And.intro (hti.2.1 (by omega)) (?_))))))))))))))))))))))))))))))))))))))))))
      intro zq_40 x_mre_40 x_mbe_40 x_mso_40 x_mva_40 x_mwo_40 x_mwr_40 x_mlf_40 x_mlp_40 x_mgo_40 x_re_40 x_td_40 hq_40
      apply And.intro
      · first | exact Or.inl rfl | exact Or.inr rfl | omega
      exact hQ _ _ _ _ _ _ _ _ _ _ _ _ _ _ (by first | exact ⟨by omega, by omega, by omega, (show TI a _ by rw [show a = (0 : Int) by omega]; exact ⟨fun _ => hq_32.2.2.2.1, fun q9 => absurd q9 (by decide), fun q9 => absurd q9 (by decide)⟩), (by rw [show a = (0 : Int) by omega]; exact hq_32.2.2.2.2)⟩ | exact ⟨by omega, by omega, by omega, (show TI a _ by rw [show a = (1 : Int) by omega]; exact ⟨fun q9 => absurd q9 (by decide), fun _ => hq_40.2.2.2.1, fun q9 => absurd q9 (by decide)⟩), (by rw [show a = (1 : Int) by omega]; exact hq_40.2.2.2.2)⟩ | exact ⟨by omega, by omega, by omega, (show TI a _ by rw [show a = (2 : Int) by omega]; exact ⟨fun q9 => absurd q9 (by decide), fun q9 => absurd q9 (by decide), fun q9 => absurd q9 (by decide)⟩), (by rw [show a = (2 : Int) by omega]; exact hq_46.2.2.2)⟩ | exact ⟨by omega, by omega, by omega, (show TI a _ by rw [show a = (3 : Int) by omega]; exact ⟨fun q9 => absurd q9 (by decide), fun q9 => absurd q9 (by decide), fun _ => hq_54.2.2.2.1⟩), (by rw [show a = (3 : Int) by omega]; exact hq_54.2.2.2.2)⟩)
    apply And.intro
    · intro hq_1
      refine Exists.intro [0, 1, 2, 3, 4, 5, 6, 7, 8, 9, 10, 11, 12, 13, 14, 15, 16, 17, 18, 19, 20, 21, 22, 23, 24, 25] (Exists.intro [q2 0, q3 _] (Exists.intro ([.inr (12, [q1 _, q2 1, q2 4, q2 5, q2 6, q2 7, q2 8, q2 9, q2 10, q2 11, q1 _, q1 _, q1 _, q1 _, q1 _, q3 _, q1 _, q1 _, q1 _, q2 3, q2 2, q1 _, q1 _, q1 _, q1 _, q1 _, q1 _, q2 12, q1 _, q2 13, q2 14, q2 15, q2 16, q1 _, q2 17, q1 _, q2 18, q2 19, q2 20, q2 21, q2 22, q1 _, q2 23, q2 24, q2 25]), .inl (1, 2400, .inl _), .inl (0, 4, .inl _), .inl (0, 161, .inl _)]) (And.intro rfl (And.intro rfl (And.intro rfl (And.intro ⟨⟨_, rfl⟩, rfl⟩ ?_))))))
      refine Exists.intro _ (Exists.intro _ (Exists.intro _ (Exists.intro _ (Exists.intro _ (Exists.intro _ (Exists.intro _ (Exists.intro _ (Exists.intro _ (Exists.intro _ (Exists.intro _ (Exists.intro _ (Exists.intro _ (Exists.intro _ (Exists.intro _ (Exists.intro _ (Exists.intro _ (Exists.intro _ (Exists.intro _ (Exists.intro _ (Exists.intro _ (Exists.intro _ (Exists.intro _ (Exists.intro _ (Exists.intro gw (Exists.intro gp (Exists.intro gf (Exists.intro gq (Exists.intro gD (Exists.intro gfp (Exists.intro gfd (And.intro rfl (And.intro rfl (And.intro (by first | omega | assumption | exact q_rg_up (by assumption) (by omega) | exact q_rg_up (q_rg_up (by assumption) (by omega)) (by omega) | exact q_rg_cpy (by assumption) (by assumption)) (And.intro hLS (And.intro hgo (And.intro hww (And.intro hgp2 (And.intro (by have q9 := hgw; rw [show a = (2 : Int) by omega] at q9; exact q9) (?_)))))))))))))))))))))))))))))))))))))))
      intro zq_46 x_mre_46 x_mbe_46 x_mso_46 x_mva_46 x_mwo_46 x_mwr_46 x_mlf_46 x_mlp_46 x_mgo_46 x_re_46 x_td_46 hq_46
      apply And.intro
      · first | exact Or.inl rfl | exact Or.inr rfl | omega
      exact hQ _ _ _ _ _ _ _ _ _ _ _ _ _ _ (by first | exact ⟨by omega, by omega, by omega, (show TI a _ by rw [show a = (0 : Int) by omega]; exact ⟨fun _ => hq_32.2.2.2.1, fun q9 => absurd q9 (by decide), fun q9 => absurd q9 (by decide)⟩), (by rw [show a = (0 : Int) by omega]; exact hq_32.2.2.2.2)⟩ | exact ⟨by omega, by omega, by omega, (show TI a _ by rw [show a = (1 : Int) by omega]; exact ⟨fun q9 => absurd q9 (by decide), fun _ => hq_40.2.2.2.1, fun q9 => absurd q9 (by decide)⟩), (by rw [show a = (1 : Int) by omega]; exact hq_40.2.2.2.2)⟩ | exact ⟨by omega, by omega, by omega, (show TI a _ by rw [show a = (2 : Int) by omega]; exact ⟨fun q9 => absurd q9 (by decide), fun q9 => absurd q9 (by decide), fun q9 => absurd q9 (by decide)⟩), (by rw [show a = (2 : Int) by omega]; exact hq_46.2.2.2)⟩ | exact ⟨by omega, by omega, by omega, (show TI a _ by rw [show a = (3 : Int) by omega]; exact ⟨fun q9 => absurd q9 (by decide), fun q9 => absurd q9 (by decide), fun _ => hq_54.2.2.2.1⟩), (by rw [show a = (3 : Int) by omega]; exact hq_54.2.2.2.2)⟩)
    exact trivial
  · intro hq_1
    refine Exists.intro [0, 1, 2, 3, 4, 5, 6, 7, 8, 9, 10, 11, 12, 13, 14, 15, 16, 17, 18, 19, 20, 21, 22, 23, 24, 25] (Exists.intro [q2 0, q3 _, q1 _] (Exists.intro ([.inr (12, [q1 _, q2 1, q2 4, q2 5, q2 6, q2 7, q2 8, q2 9, q2 10, q2 11, q1 _, q1 _, q1 _, q1 _, q1 _, q3 _, q1 _, q1 _, q1 _, q2 3, q2 2, q1 _, q1 _, q1 _, q1 _, q1 _, q1 _, q2 12, q1 _, q2 13, q2 14, q2 15, q2 16, q1 _, q2 17, q1 _, q2 18, q2 19, q2 20, q2 21, q2 22, q1 _, q2 23, q2 24, q2 25]), .inl (1, 2400, .inl _), .inl (0, 4, .inl _), .inl (0, 161, .inl _)]) (And.intro rfl (And.intro rfl (And.intro rfl (And.intro ⟨⟨_, rfl⟩, rfl⟩ ?_))))))
    refine Exists.intro _ (Exists.intro _ (Exists.intro _ (Exists.intro _ (Exists.intro _ (Exists.intro _ (Exists.intro _ (Exists.intro _ (Exists.intro _ (Exists.intro _ (Exists.intro _ (Exists.intro _ (Exists.intro _ (Exists.intro _ (Exists.intro _ (Exists.intro _ (Exists.intro _ (Exists.intro _ (Exists.intro _ (Exists.intro _ (Exists.intro _ (Exists.intro _ (Exists.intro _ (Exists.intro _ (Exists.intro gw (Exists.intro gp (Exists.intro gf (Exists.intro gq (Exists.intro gD (Exists.intro gfp (Exists.intro gfd (Exists.intro _ (And.intro rfl (And.intro rfl (And.intro (by first | omega | assumption | exact q_rg_up (by assumption) (by omega) | exact q_rg_up (q_rg_up (by assumption) (by omega)) (by omega) | exact q_rg_cpy (by assumption) (by assumption)) (And.intro hLS (And.intro hgo (And.intro hww (And.intro hgp2 (And.intro (by have q9 := hgw; rw [show a = (3 : Int) by omega] at q9; exact q9) (And.intro hat (And.intro (hti.2.2 (by omega)) (?_))))))))))))))))))))))))))))))))))))))))))
    intro zq_54 x_mre_54 x_mbe_54 x_mso_54 x_mva_54 x_mwo_54 x_mwr_54 x_mlf_54 x_mlp_54 x_mgo_54 x_re_54 x_td_54 hq_54
    apply And.intro
    · first | exact Or.inl rfl | exact Or.inr rfl | omega
    exact hQ _ _ _ _ _ _ _ _ _ _ _ _ _ _ (by first | exact ⟨by omega, by omega, by omega, (show TI a _ by rw [show a = (0 : Int) by omega]; exact ⟨fun _ => hq_32.2.2.2.1, fun q9 => absurd q9 (by decide), fun q9 => absurd q9 (by decide)⟩), (by rw [show a = (0 : Int) by omega]; exact hq_32.2.2.2.2)⟩ | exact ⟨by omega, by omega, by omega, (show TI a _ by rw [show a = (1 : Int) by omega]; exact ⟨fun q9 => absurd q9 (by decide), fun _ => hq_40.2.2.2.1, fun q9 => absurd q9 (by decide)⟩), (by rw [show a = (1 : Int) by omega]; exact hq_40.2.2.2.2)⟩ | exact ⟨by omega, by omega, by omega, (show TI a _ by rw [show a = (2 : Int) by omega]; exact ⟨fun q9 => absurd q9 (by decide), fun q9 => absurd q9 (by decide), fun q9 => absurd q9 (by decide)⟩), (by rw [show a = (2 : Int) by omega]; exact hq_46.2.2.2)⟩ | exact ⟨by omega, by omega, by omega, (show TI a _ by rw [show a = (3 : Int) by omega]; exact ⟨fun q9 => absurd q9 (by decide), fun q9 => absurd q9 (by decide), fun _ => hq_54.2.2.2.1⟩), (by rw [show a = (3 : Int) by omega]; exact hq_54.2.2.2.2)⟩)

theorem dF12_lines_0 : decode cX12_lines 0 = .ok (.iconst 1, 1) := by decide +kernel
theorem dF12_lines_1 : decode cX12_lines 1 = .ok (.istore_n 2, 1) := by decide +kernel
theorem dF12_lines_2 : decode cX12_lines 2 = .ok (.iload_n 2, 1) := by decide +kernel
theorem dF12_lines_3 : decode cX12_lines 3 = .ok (.ifCond .eq 71, 3) := by decide +kernel
theorem dF12_lines_6 : decode cX12_lines 6 = .ok (.aload_n 0, 1) := by decide +kernel
theorem dF12_lines_7 : decode cX12_lines 7 = .ok (.getfield 125, 3) := by decide +kernel
theorem dF12_lines_10 : decode cX12_lines 10 = .ok (.ifCond .eq 64, 3) := by decide +kernel
theorem dF12_lines_13 : decode cX12_lines 13 = .ok (.aload_n 0, 1) := by decide +kernel
theorem dF12_lines_14 : decode cX12_lines 14 = .ok (.getfield 118, 3) := by decide +kernel
theorem dF12_lines_17 : decode cX12_lines 17 = .ok (.istore_n 3, 1) := by decide +kernel
theorem dF12_lines_18 : decode cX12_lines 18 = .ok (.aload_n 0, 1) := by decide +kernel
theorem dF12_lines_19 : decode cX12_lines 19 = .ok (.iconst 1, 1) := by decide +kernel
theorem dF12_lines_20 : decode cX12_lines 20 = .ok (.putfield 148, 3) := by decide +kernel
theorem dF12_lines_23 : decode cX12_lines 23 = .ok (.aload_n 0, 1) := by decide +kernel
theorem dF12_lines_24 : decode cX12_lines 24 = .ok (.iload_n 1, 1) := by decide +kernel
theorem dF12_lines_25 : decode cX12_lines 25 = .ok (.aload_n 0, 1) := by decide +kernel
theorem dF12_lines_26 : decode cX12_lines 26 = .ok (.getfield 125, 3) := by decide +kernel
theorem dF12_lines_29 : decode cX12_lines 29 = .ok (.iconst 2, 1) := by decide +kernel
theorem dF12_lines_30 : decode cX12_lines 30 = .ok (.if_icmp .ne 10, 3) := by decide +kernel
theorem dF12_lines_33 : decode cX12_lines 33 = .ok (.aload_n 0, 1) := by decide +kernel
theorem dF12_lines_34 : decode cX12_lines 34 = .ok (.getfield 121, 3) := by decide +kernel
theorem dF12_lines_37 : decode cX12_lines 37 = .ok (.goto 4, 3) := by decide +kernel
theorem dF12_lines_40 : decode cX12_lines 40 = .ok (.lconst 0, 1) := by decide +kernel
theorem dF12_lines_41 : decode cX12_lines 41 = .ok (.iload_n 3, 1) := by decide +kernel
theorem dF12_lines_42 : decode cX12_lines 42 = .ok (.invokevirtual 267, 3) := by decide +kernel
theorem dF12_lines_45 : decode cX12_lines 45 = .ok (.istore_n 2, 1) := by decide +kernel
theorem dF12_lines_46 : decode cX12_lines 46 = .ok (.iload_n 2, 1) := by decide +kernel
theorem dF12_lines_47 : decode cX12_lines 47 = .ok (.ifCond .eq 16, 3) := by decide +kernel
theorem dF12_lines_50 : decode cX12_lines 50 = .ok (.aload_n 0, 1) := by decide +kernel
theorem dF12_lines_51 : decode cX12_lines 51 = .ok (.getfield 125, 3) := by decide +kernel
theorem dF12_lines_54 : decode cX12_lines 54 = .ok (.iconst 4, 1) := by decide +kernel
theorem dF12_lines_55 : decode cX12_lines 55 = .ok (.if_icmp .eq 8, 3) := by decide +kernel
theorem dF12_lines_58 : decode cX12_lines 58 = .ok (.aload_n 0, 1) := by decide +kernel
theorem dF12_lines_59 : decode cX12_lines 59 = .ok (.invokevirtual 140, 3) := by decide +kernel
theorem dF12_lines_62 : decode cX12_lines 62 = .ok (.istore_n 2, 1) := by decide +kernel
theorem dF12_lines_63 : decode cX12_lines 63 = .ok (.iload_n 2, 1) := by decide +kernel
theorem dF12_lines_64 : decode cX12_lines 64 = .ok (.ifCond .eq 7, 3) := by decide +kernel
theorem dF12_lines_67 : decode cX12_lines 67 = .ok (.aload_n 0, 1) := by decide +kernel
theorem dF12_lines_68 : decode cX12_lines 68 = .ok (.invokevirtual 152, 3) := by decide +kernel
theorem dF12_lines_71 : decode cX12_lines 71 = .ok (.goto (-69), 3) := by decide +kernel
theorem dF12_lines_74 : decode cX12_lines 74 = .ok (.iload_n 2, 1) := by decide +kernel
theorem dF12_lines_75 : decode cX12_lines 75 = .ok (.ireturn, 1) := by decide +kernel
def is_F12_lines : Nat → List Nat := fun d => if d = 2 then [0, 1, 2] else []
set_option maxRecDepth 100000 in
def b_F12_lines_74 (J : Nat → List qV → List qV → qW → Prop) (Q : qR) : qK := x_iload 2 (x_zret Q)
set_option maxRecDepth 100000 in
theorem s_F12_lines_74 {p : Program} {l : Launch} {e : Env} {R : Room} {s : State} {m : MethodId} {args : Array Value} {below : List Frame} {meth : Method} {c : Code} {nW : Nat} {dC : Nat → ClassId} {dI : Nat → Nat → Nat} {k : Nat → ClassId} {g : Nat → Nat} {A : Nat → Prop} {J : Nat → List qV → List qV → qW → Prop} {Q : qR} (X : q_X p R s m args meth c cX12_lines 4 nW 7 163 RX12 (some .boolean) dC dI k g A) (hJ : ∀ d : Nat, q_Sd p l e R s m args below meth c 4 nW dC dI k g A (MQ below (q_post (dC, dI) k g nW Q A) args s 0 0 A) d (x_cut (is_F12_lines d) (J d))) : q_Sd p l e R s m args below meth c 4 nW dC dI k g A (MQ below (q_post (dC, dI) k g nW Q A) args s 0 0 A) 74 (b_F12_lines_74 J Q) := by
  unfold b_F12_lines_74
  refine s_iload_n X rfl dF12_lines_74 ?_
  exact s_zret X dF12_lines_75
set_option maxRecDepth 100000 in
def b_F12_lines_71 (J : Nat → List qV → List qV → qW → Prop) (Q : qR) : qK := x_cut [0, 1, 2] (J 2)
set_option maxRecDepth 100000 in
theorem s_F12_lines_71 {p : Program} {l : Launch} {e : Env} {R : Room} {s : State} {m : MethodId} {args : Array Value} {below : List Frame} {meth : Method} {c : Code} {nW : Nat} {dC : Nat → ClassId} {dI : Nat → Nat → Nat} {k : Nat → ClassId} {g : Nat → Nat} {A : Nat → Prop} {J : Nat → List qV → List qV → qW → Prop} {Q : qR} (X : q_X p R s m args meth c cX12_lines 4 nW 7 163 RX12 (some .boolean) dC dI k g A) (hJ : ∀ d : Nat, q_Sd p l e R s m args below meth c 4 nW dC dI k g A (MQ below (q_post (dC, dI) k g nW Q A) args s 0 0 A) d (x_cut (is_F12_lines d) (J d))) : q_Sd p l e R s m args below meth c 4 nW dC dI k g A (MQ below (q_post (dC, dI) k g nW Q A) args s 0 0 A) 71 (b_F12_lines_71 J Q) := by
  unfold b_F12_lines_71
  refine s_goto X (tgt := 2) dF12_lines_71 (by decide) ?_
  exact hJ 2
set_option maxRecDepth 100000 in
def b_F12_lines_63 (J : Nat → List qV → List qV → qW → Prop) (Q : qR) : qK := x_iload 2 (x_if_eq (b_F12_lines_71 J Q) (x_aload 0 (x_call (some 12) 1 sp_F12_token (x_nw (b_F12_lines_71 J Q)))))
set_option maxRecDepth 100000 in
theorem s_F12_lines_63 {p : Program} {l : Launch} {e : Env} {R : Room} {s : State} {m : MethodId} {args : Array Value} {below : List Frame} {meth : Method} {c : Code} {nW : Nat} {dC : Nat → ClassId} {dI : Nat → Nat → Nat} {k : Nat → ClassId} {g : Nat → Nat} {A : Nat → Prop} {J : Nat → List qV → List qV → qW → Prop} {Q : qR} (X : q_X p R s m args meth c cX12_lines 4 nW 7 163 RX12 (some .boolean) dC dI k g A) (hJ : ∀ d : Nat, q_Sd p l e R s m args below meth c 4 nW dC dI k g A (MQ below (q_post (dC, dI) k g nW Q A) args s 0 0 A) d (x_cut (is_F12_lines d) (J d))) : q_Sd p l e R s m args below meth c 4 nW dC dI k g A (MQ below (q_post (dC, dI) k g nW Q A) args s 0 0 A) 63 (b_F12_lines_63 J Q) := by
  unfold b_F12_lines_63
  refine s_iload_n X rfl dF12_lines_63 ?_
  refine s_if_eq X (tgt := 71) dF12_lines_64 (by decide) ?_ ?_
  · exact s_F12_lines_71 X hJ
  · refine s_aload_n X rfl dF12_lines_67 ?_
    refine s_callV X (m_F12_token l) tw_1070 tw_1071 tw_1627 tw_134 tw_1072 rfl (by decide +kernel) ⟨by decide, by decide⟩ dF12_lines_68 ?_
    refine s_nw ?_
    exact s_F12_lines_71 X hJ
set_option maxRecDepth 100000 in
def b_F12_lines_41 (J : Nat → List qV → List qV → qW → Prop) (Q : qR) : qK := x_iload 3 (x_call (some 12) 4 sp_F12_lineOf (x_nw (x_istore 2 (x_iload 2 (x_if_eq (b_F12_lines_63 J Q) (x_aload 0 (x_get 12 13 (x_int 4 (x_icmp_eq (b_F12_lines_63 J Q) (x_aload 0 (x_call (some 12) 1 sp_F12_fails (x_nw (x_istore 2 (b_F12_lines_63 J Q))))))))))))))
set_option maxRecDepth 100000 in
theorem s_F12_lines_41 {p : Program} {l : Launch} {e : Env} {R : Room} {s : State} {m : MethodId} {args : Array Value} {below : List Frame} {meth : Method} {c : Code} {nW : Nat} {dC : Nat → ClassId} {dI : Nat → Nat → Nat} {k : Nat → ClassId} {g : Nat → Nat} {A : Nat → Prop} {J : Nat → List qV → List qV → qW → Prop} {Q : qR} (X : q_X p R s m args meth c cX12_lines 4 nW 7 163 RX12 (some .boolean) dC dI k g A) (hJ : ∀ d : Nat, q_Sd p l e R s m args below meth c 4 nW dC dI k g A (MQ below (q_post (dC, dI) k g nW Q A) args s 0 0 A) d (x_cut (is_F12_lines d) (J d))) : q_Sd p l e R s m args below meth c 4 nW dC dI k g A (MQ below (q_post (dC, dI) k g nW Q A) args s 0 0 A) 41 (b_F12_lines_41 J Q) := by
  unfold b_F12_lines_41
  refine s_iload_n X rfl dF12_lines_41 ?_
  refine s_callV X (m_F12_lineOf l) tw_1079 tw_1080 tw_1599 tw_134 tw_1081 rfl (by decide +kernel) ⟨by decide, by decide⟩ dF12_lines_42 ?_
  refine s_nw ?_
  refine s_istore_n X rfl (by decide) dF12_lines_45 ?_
  refine s_iload_n X rfl dF12_lines_46 ?_
  refine s_if_eq X (tgt := 63) dF12_lines_47 (by decide) ?_ ?_
  · exact s_F12_lines_63 X hJ
  · refine s_aload_n X rfl dF12_lines_50 ?_
    refine s_get X (T := TX12) (C := RX12) (N := 45) tu_X12 rfl (by decide) tw_1010 dF12_lines_51 ?_
    refine s_iconst X ⟨by decide, by decide⟩ dF12_lines_54 ?_
    refine s_icmp_eq X (tgt := 63) dF12_lines_55 (by decide) ?_ ?_
    · exact s_F12_lines_63 X hJ
    · refine s_aload_n X rfl dF12_lines_58 ?_
      refine s_callV X (m_F12_fails l) tw_1103 tw_1104 tw_1568 tw_134 tw_1105 rfl (by decide +kernel) ⟨by decide, by decide⟩ dF12_lines_59 ?_
      refine s_nw ?_
      refine s_istore_n X rfl (by decide) dF12_lines_62 ?_
      exact s_F12_lines_63 X hJ
set_option maxRecDepth 100000 in
def b_F12_lines_2 (J : Nat → List qV → List qV → qW → Prop) (Q : qR) : qK := x_iload 2 (x_if_eq (b_F12_lines_74 J Q) (x_aload 0 (x_get 12 13 (x_if_eq (b_F12_lines_74 J Q) (x_aload 0 (x_get 12 12 (x_istore 3 (x_aload 0 (x_int 1 (x_put 12 23 q_okz (x_nw (x_aload 0 (x_iload 1 (x_aload 0 (x_get 12 13 (x_int 2 (x_icmp_ne (x_lng 0 (b_F12_lines_41 J Q)) (x_aload 0 (x_get 12 15 (b_F12_lines_41 J Q))))))))))))))))))))
set_option maxRecDepth 100000 in
theorem s_F12_lines_2 {p : Program} {l : Launch} {e : Env} {R : Room} {s : State} {m : MethodId} {args : Array Value} {below : List Frame} {meth : Method} {c : Code} {nW : Nat} {dC : Nat → ClassId} {dI : Nat → Nat → Nat} {k : Nat → ClassId} {g : Nat → Nat} {A : Nat → Prop} {J : Nat → List qV → List qV → qW → Prop} {Q : qR} (X : q_X p R s m args meth c cX12_lines 4 nW 7 163 RX12 (some .boolean) dC dI k g A) (hJ : ∀ d : Nat, q_Sd p l e R s m args below meth c 4 nW dC dI k g A (MQ below (q_post (dC, dI) k g nW Q A) args s 0 0 A) d (x_cut (is_F12_lines d) (J d))) : q_Sd p l e R s m args below meth c 4 nW dC dI k g A (MQ below (q_post (dC, dI) k g nW Q A) args s 0 0 A) 2 (b_F12_lines_2 J Q) := by
  unfold b_F12_lines_2
  refine s_iload_n X rfl dF12_lines_2 ?_
  refine s_if_eq X (tgt := 74) dF12_lines_3 (by decide) ?_ ?_
  · exact s_F12_lines_74 X hJ
  · refine s_aload_n X rfl dF12_lines_6 ?_
    refine s_get X (T := TX12) (C := RX12) (N := 45) tu_X12 rfl (by decide) tw_1010 dF12_lines_7 ?_
    refine s_if_eq X (tgt := 74) dF12_lines_10 (by decide) ?_ ?_
    · exact s_F12_lines_74 X hJ
    · refine s_aload_n X rfl dF12_lines_13 ?_
      refine s_get X (T := TX12) (C := RX12) (N := 45) tu_X12 rfl (by decide) tw_1009 dF12_lines_14 ?_
      refine s_istore_n X rfl (by decide) dF12_lines_17 ?_
      refine s_aload_n X rfl dF12_lines_18 ?_
      refine s_iconst X ⟨by decide, by decide⟩ dF12_lines_19 ?_
      refine s_put X (T := TX12) (C := RX12) (N := 45) tu_X12 tyX12_ok nmX12 rfl (by decide) tw_1020 rfl (by decide +kernel) q_okz_t dF12_lines_20 ?_
      refine s_nw ?_
      refine s_aload_n X rfl dF12_lines_23 ?_
      refine s_iload_n X rfl dF12_lines_24 ?_
      refine s_aload_n X rfl dF12_lines_25 ?_
      refine s_get X (T := TX12) (C := RX12) (N := 45) tu_X12 rfl (by decide) tw_1010 dF12_lines_26 ?_
      refine s_iconst X ⟨by decide, by decide⟩ dF12_lines_29 ?_
      refine s_icmp_ne X (tgt := 40) dF12_lines_30 (by decide) ?_ ?_
      · refine s_lconst X ⟨by decide, by decide⟩ (by decide) dF12_lines_40 ?_
        exact s_F12_lines_41 X hJ
      · refine s_aload_n X rfl dF12_lines_33 ?_
        refine s_get X (T := TX12) (C := RX12) (N := 45) tu_X12 rfl (by decide) tw_1012 dF12_lines_34 ?_
        refine s_goto X (tgt := 41) dF12_lines_37 (by decide) ?_
        exact s_F12_lines_41 X hJ
set_option maxRecDepth 100000 in
def b_F12_lines_0 (J : Nat → List qV → List qV → qW → Prop) (Q : qR) : qK := x_int 1 (x_istore 2 (x_cut [0, 1, 2] (J 2)))
set_option maxRecDepth 100000 in
theorem s_F12_lines_0 {p : Program} {l : Launch} {e : Env} {R : Room} {s : State} {m : MethodId} {args : Array Value} {below : List Frame} {meth : Method} {c : Code} {nW : Nat} {dC : Nat → ClassId} {dI : Nat → Nat → Nat} {k : Nat → ClassId} {g : Nat → Nat} {A : Nat → Prop} {J : Nat → List qV → List qV → qW → Prop} {Q : qR} (X : q_X p R s m args meth c cX12_lines 4 nW 7 163 RX12 (some .boolean) dC dI k g A) (hJ : ∀ d : Nat, q_Sd p l e R s m args below meth c 4 nW dC dI k g A (MQ below (q_post (dC, dI) k g nW Q A) args s 0 0 A) d (x_cut (is_F12_lines d) (J d))) : q_Sd p l e R s m args below meth c 4 nW dC dI k g A (MQ below (q_post (dC, dI) k g nW Q A) args s 0 0 A) 0 (b_F12_lines_0 J Q) := by
  unfold b_F12_lines_0
  refine s_iconst X ⟨by decide, by decide⟩ dF12_lines_0 ?_
  refine s_istore_n X rfl (by decide) dF12_lines_1 ?_
  exact hJ 2

def sp_F12_lines : qS := fun av w Q => ∃ (mco : Int) (mre : Int) (mle : Int) (mbe : Int) (mso : Int) (mva : Int) (mwo : Int) (mwr : Int) (mlf : Int) (mlp : Int) (mfp : Int) (mfd : Int) (mgo : Int) (mbo : Int) (mpe : Int) (mye : Int) (mpr : Int) (mld : Int) (msi : Int) (mse : Int) (tp : Nat → Int) (re : Nat → Int) (td : Nat → Int) (a : Int), av = [q2 0, q1 a] ∧ w = [.inr (12, [q1 mco, q2 1, q2 4, q2 5, q2 6, q2 7, q2 8, q2 9, q2 10, q2 11, q1 mre, q1 mle, q1 mbe, q1 mso, q1 mva, q3 mwo, q1 mwr, q1 mlf, q1 mlp, q2 3, q2 2, q1 mfp, q1 mfd, q1 mgo, q1 mbo, q1 mpe, q1 mye, q2 12, q1 mpr, q2 13, q2 14, q2 15, q2 16, q1 mld, q2 17, q1 msi, q2 18, q2 19, q2 20, q2 21, q2 22, q1 mse, q2 23, q2 24, q2 25]), .inl (1, 2400, .inl tp), .inl (0, 4, .inl re), .inl (0, 161, .inl td)] ∧ (0 ≤ mre ∧ mre ≤ mle ∧ mle ≤ 600) ∧ (0 ≤ a ∧ a ≤ 3) ∧ (TI a td) ∧ (TokR (tc tp) mle 0 mre mbe mso mva mwo) ∧ (mlf = 0) ∧ ((∀ i : Nat, i < 161 → td i = blk a i) ∧ mfp = -1 ∧ mfd = -1) ∧ (∀ (r : Int) (x_mre : Int) (x_mbe : Int) (x_mso : Int) (x_mva : Int) (x_mwo : Int) (x_mwr : Int) (x_mlf : Int) (x_mlp : Int) (x_mgo : Int) (x_mfp : Int) (x_mfd : Int) (x_re : Nat → Int) (x_td : Nat → Int), ((r = 0 ∨ r = 1) ∧ TI a x_td ∧ RlE (tc tp) mle a r x_mbe x_mwr x_mlf x_mlp x_td x_mfp x_mfd) → Q (some (q1 r)) ([.inr (12, [q1 mco, q2 1, q2 4, q2 5, q2 6, q2 7, q2 8, q2 9, q2 10, q2 11, q1 x_mre, q1 mle, q1 x_mbe, q1 x_mso, q1 x_mva, q3 x_mwo, q1 x_mwr, q1 x_mlf, q1 x_mlp, q2 3, q2 2, q1 x_mfp, q1 x_mfd, q1 x_mgo, q1 mbo, q1 mpe, q1 mye, q2 12, q1 mpr, q2 13, q2 14, q2 15, q2 16, q1 mld, q2 17, q1 msi, q2 18, q2 19, q2 20, q2 21, q2 22, q1 mse, q2 23, q2 24, q2 25]), .inl (1, 2400, .inl tp), .inl (0, 4, .inl x_re), .inl (0, 161, .inl x_td)]))
def I_F12_lines (mco : Int) (mre : Int) (mle : Int) (mbe : Int) (mso : Int) (mva : Int) (mwo : Int) (mwr : Int) (mlf : Int) (mlp : Int) (mfp : Int) (mfd : Int) (mgo : Int) (mbo : Int) (mpe : Int) (mye : Int) (mpr : Int) (mld : Int) (msi : Int) (mse : Int) (tp : Nat → Int) (re : Nat → Int) (td : Nat → Int) (a : Int) : Nat → Nat → List qV → List qV → qW → Prop := fun dz mz vz sz wz => if dz = 2 then (∃ (y_mre : Int) (y_mbe : Int) (y_mso : Int) (y_mva : Int) (y_mwo : Int) (y_mwr : Int) (y_mlf : Int) (y_mlp : Int) (y_mgo : Int) (y_mfp : Int) (y_mfd : Int) (y_re : Nat → Int) (y_td : Nat → Int) (kk : Nat) (v2 : Int), vz = [q2 0, q1 a, q1 v2] ∧ sz = [] ∧ wz = [.inr (12, [q1 mco, q2 1, q2 4, q2 5, q2 6, q2 7, q2 8, q2 9, q2 10, q2 11, q1 y_mre, q1 mle, q1 y_mbe, q1 y_mso, q1 y_mva, q3 y_mwo, q1 y_mwr, q1 y_mlf, q1 y_mlp, q2 3, q2 2, q1 y_mfp, q1 y_mfd, q1 y_mgo, q1 mbo, q1 mpe, q1 mye, q2 12, q1 mpr, q2 13, q2 14, q2 15, q2 16, q1 mld, q2 17, q1 msi, q2 18, q2 19, q2 20, q2 21, q2 22, q1 mse, q2 23, q2 24, q2 25]), .inl (1, 2400, .inl tp), .inl (0, 4, .inl y_re), .inl (0, 161, .inl y_td)] ∧ mz = (2 * (mle - y_mre) + v2).toNat ∧ (0 ≤ y_mre ∧ y_mre ≤ mle) ∧ (v2 = 0 ∨ v2 = 1) ∧ (TI a y_td) ∧ (RlS (tc tp) mle a kk v2 y_mre y_mbe y_mso y_mva y_mwo y_mwr y_mlf y_mlp y_td y_mfp y_mfd)) else False
set_option maxHeartbeats 4000000 in
set_option maxRecDepth 100000 in
theorem m_F12_lines (l : Launch) : q_M l yX12_lines cX12_lines 4 (some .boolean) 7 163 sp_F12_lines := by
  refine q_meth (by decide) (fun av w Q h => by obtain ⟨mco, mre, mle, mbe, mso, mva, mwo, mwr, mlf, mlp, mfp, mfd, mgo, mbo, mpe, mye, mpr, mld, msi, mse, tp, re, td, a, rfl, rfl, htp, ha, hti, hR0, hlf0, hd0, hQ⟩ := h; exact Nat.le_of_ble_eq_true rfl) ?_
  intro p e R s m args below meth c dC dI k g A av w Q hsp oka okw X
  obtain ⟨mco, mre, mle, mbe, mso, mva, mwo, mwr, mlf, mlp, mfp, mfd, mgo, mbo, mpe, mye, mpr, mld, msi, mse, tp, re, td, a, rfl, rfl, htp, ha, hti, hR0, hlf0, hd0, hQ⟩ := hsp
  have o_a : -2147483648 ≤ a ∧ a ≤ 2147483647 := oka _ (List.mem_of_getElem? (i := 1) rfl)
  refine s_mono (s_F12_lines_0 X (J := fun dz vz sz wz => ∃ mz, I_F12_lines mco mre mle mbe mso mva mwo mwr mlf mlp mfp mfd mgo mbo mpe mye mpr mld msi mse tp re td a dz mz vz sz wz) (q_loopn (I_F12_lines mco mre mle mbe mso mva mwo mwr mlf mlp mfp mfd mgo mbo mpe mye mpr mld msi mse tp re td a) (fun dz J => if dz = 2 then b_F12_lines_2 J Q else q_F) ?hs ?hv)) ?_
  case hs =>
    intro d J hJ
    by_cases hq_2 : d = 2
    · subst hq_2; exact s_F12_lines_2 X hJ
    simp only [hq_2, if_false]
    exact s_F
  case hv =>
    intro dz mz vz sz wz hI okv oks okw hlen
    by_cases hq_2 : dz = 2
    · subst hq_2
      obtain ⟨y_mre, y_mbe, y_mso, y_mva, y_mwo, y_mwr, y_mlf, y_mlp, y_mgo, y_mfp, y_mfd, y_re, y_td, kk, v2, rfl, rfl, rfl, hn, hp, hf, hty, hS9⟩ := hI
      apply And.intro
      · intro hq_3
        apply And.intro
        · first | exact Or.inl rfl | exact Or.inr rfl | omega
        exact hQ _ _ _ _ _ _ _ _ _ _ _ _ _ _ ⟨by omega, hty, (by first | exact RlE_0 hS9 hq_3 | exact RlE_1 hS9 hq_3 hq_10)⟩
      · intro hq_3
        apply And.intro
        · intro hq_10
          apply And.intro
          · first | exact Or.inl rfl | exact Or.inr rfl | omega
          exact hQ _ _ _ _ _ _ _ _ _ _ _ _ _ _ ⟨by omega, hty, (by first | exact RlE_0 hS9 hq_3 | exact RlE_1 hS9 hq_3 hq_10)⟩
        · intro hq_10
          have L9 := RlS_l hS9 hq_3 hq_10
          obtain ⟨p8, p7⟩ := RlS_p hS9 hq_3
          apply And.intro
          · first | exact Or.inl rfl | exact Or.inr rfl | omega
          apply And.intro
          · intro hq_30
            refine Exists.intro [0, 1, 2, 3, 4, 5, 6, 7, 8, 9, 10, 11, 12, 13, 14, 15, 16, 17, 18, 19, 20, 21, 22, 23, 24, 25] (Exists.intro [q2 0, q1 _, q3 _, q1 _] (Exists.intro ([.inr (12, [q1 _, q2 1, q2 4, q2 5, q2 6, q2 7, q2 8, q2 9, q2 10, q2 11, q1 _, q1 _, q1 _, q1 _, q1 _, q3 _, q1 _, q1 _, q1 _, q2 3, q2 2, q1 _, q1 _, q1 _, q1 _, q1 _, q1 _, q2 12, q1 _, q2 13, q2 14, q2 15, q2 16, q1 _, q2 17, q1 _, q2 18, q2 19, q2 20, q2 21, q2 22, q1 _, q2 23, q2 24, q2 25]), .inl (1, 2400, .inl _), .inl (0, 4, .inl _), .inl (0, 161, .inl _)]) (And.intro rfl (And.intro rfl (And.intro rfl (And.intro ⟨⟨_, rfl⟩, rfl⟩ ?_))))))
            refine Exists.intro _ (Exists.intro _ (Exists.intro _ (Exists.intro _ (Exists.intro _ (Exists.intro _ (Exists.intro _ (Exists.intro _ (Exists.intro _ (Exists.intro _ (Exists.intro _ (Exists.intro _ (Exists.intro _ (Exists.intro _ (Exists.intro _ (Exists.intro _ (Exists.intro _ (Exists.intro _ (Exists.intro _ (Exists.intro _ (Exists.intro _ (Exists.intro _ (Exists.intro _ (Exists.intro _ (Exists.intro (liW (tc tp) mle (stS (tc tp) mle a kk).1 a) (Exists.intro (stS (tc tp) mle a kk).1 (Exists.intro (stS (tc tp) mle a kk).2.1 (Exists.intro (stS (tc tp) mle a kk).2.2.1 (Exists.intro (stS (tc tp) mle a kk).2.2.2.1 (Exists.intro (stS (tc tp) mle a kk).2.2.2.2.1 (Exists.intro (stS (tc tp) mle a kk).2.2.2.2.2 (Exists.intro _ (Exists.intro _ (And.intro rfl (And.intro rfl (And.intro (by first | omega | assumption | exact q_rg_up (by assumption) (by omega) | exact q_rg_up (q_rg_up (by assumption) (by omega)) (by omega) | exact q_rg_cpy (by assumption) (by assumption)) (And.intro L9 (And.intro (by decide) (And.intro (by first | exact L9.1.2.2.2.2 | exact woT_n L9 (by omega)) (And.intro p7 (And.intro rfl (And.intro L9.1.1 (And.intro (by first | omega | assumption | exact q_rg_up (by assumption) (by omega) | exact q_rg_up (q_rg_up (by assumption) (by omega)) (by omega) | exact q_rg_cpy (by assumption) (by assumption)) (And.intro hty (?_))))))))))))))))))))))))))))))))))))))))))))
            intro zq_42 x_mre_42 x_mbe_42 x_mso_42 x_mva_42 x_mwo_42 x_mwr_42 x_mlf_42 x_mlp_42 x_mgo_42 x_mfp_42 x_mfd_42 x_re_42 x_td_42 hq_42
            have O9 := hq_42.2.2.2.2
            apply And.intro
            · intro hq_47
              apply And.intro
              · intro hq_64
                exact ⟨_, ⟨_, _, _, _, _, _, _, _, _, _, _, _, _, _, _, rfl, rfl, rfl, rfl, (by first | omega | assumption | exact q_rg_up (by assumption) (by omega) | exact q_rg_up (q_rg_up (by assumption) (by omega)) (by omega) | exact q_rg_cpy (by assumption) (by assumption)), (by first | omega | assumption | exact q_rg_up (by assumption) (by omega) | exact q_rg_up (q_rg_up (by assumption) (by omega)) (by omega) | exact q_rg_cpy (by assumption) (by assumption)), (by first | assumption | exact hq_42.2.2.2.1), (by first | exact RlS_0 hR0 hlf0 hd0 (by omega) | exact q8 | exact RlS_n L9 O9 (by omega) | exact RlS_b L9 O9 hq_47 (by omega) hq_59.1 hq_59.2 | (refine (?_ : RlS _ _ _ kk _ _ _ _ _ _ _ _ _ _ _ _); exfalso; omega))⟩, by omega⟩
              · intro hq_64
                refine Exists.intro [0, 1, 4, 5, 6, 7, 8, 9, 10, 11, 3, 2, 12, 13, 14, 15, 16, 17, 18, 19, 20, 21, 22, 23, 24, 25] (Exists.intro [q2 0] (Exists.intro ([.inr (12, [q1 _, q2 1, q2 2, q2 3, q2 4, q2 5, q2 6, q2 7, q2 8, q2 9, q1 _, q1 _, q1 _, q1 _, q1 _, q3 _, q1 _, q1 _, q1 _, q2 10, q2 11, q1 _, q1 _, q1 _, q1 _, q1 _, q1 _, q2 12, q1 _, q2 13, q2 14, q2 15, q2 16, q1 _, q2 17, q1 _, q2 18, q2 19, q2 20, q2 21, q2 22, q1 _, q2 23, q2 24, q2 25]), .inl (1, 2400, .inl _)]) (And.intro rfl (And.intro rfl (And.intro rfl (And.intro ⟨⟨_, rfl⟩, rfl⟩ ?_))))))
                refine Exists.intro _ (Exists.intro _ (Exists.intro _ (Exists.intro _ (Exists.intro _ (Exists.intro _ (Exists.intro _ (Exists.intro _ (Exists.intro _ (Exists.intro _ (Exists.intro _ (Exists.intro _ (Exists.intro _ (Exists.intro _ (Exists.intro _ (Exists.intro _ (Exists.intro _ (Exists.intro _ (Exists.intro _ (Exists.intro _ (Exists.intro _ (And.intro rfl (And.intro rfl (And.intro (by first | omega | assumption | exact q_rg_up (by assumption) (by omega) | exact q_rg_up (q_rg_up (by assumption) (by omega)) (by omega) | exact q_rg_cpy (by assumption) (by assumption)) (?_))))))))))))))))))))))))
                intro x_mre_68 x_mbe_68 x_mso_68 x_mva_68 x_mwo_68 hq_68
                try have q8 := RlS_s (wr2 := x_mwr_42) L9 p8 O9 hq_47 (by omega) hq_68.1
                exact ⟨_, ⟨_, _, _, _, _, _, _, _, _, _, _, _, _, _, _, rfl, rfl, rfl, rfl, (by first | omega | assumption | exact q_rg_up (by assumption) (by omega) | exact q_rg_up (q_rg_up (by assumption) (by omega)) (by omega) | exact q_rg_cpy (by assumption) (by assumption)), (by first | omega | assumption | exact q_rg_up (by assumption) (by omega) | exact q_rg_up (q_rg_up (by assumption) (by omega)) (by omega) | exact q_rg_cpy (by assumption) (by assumption)), (by first | assumption | exact hq_42.2.2.2.1), (by first | exact RlS_0 hR0 hlf0 hd0 (by omega) | exact q8 | exact RlS_n L9 O9 (by omega) | exact RlS_b L9 O9 hq_47 (by omega) hq_59.1 hq_59.2 | (refine (?_ : RlS _ _ _ kk _ _ _ _ _ _ _ _ _ _ _ _); exfalso; omega))⟩, by omega⟩
            · intro hq_47
              apply And.intro
              · intro hq_55
                apply And.intro
                · intro hq_64
                  exact ⟨_, ⟨_, _, _, _, _, _, _, _, _, _, _, _, _, _, _, rfl, rfl, rfl, rfl, (by first | omega | assumption | exact q_rg_up (by assumption) (by omega) | exact q_rg_up (q_rg_up (by assumption) (by omega)) (by omega) | exact q_rg_cpy (by assumption) (by assumption)), (by first | omega | assumption | exact q_rg_up (by assumption) (by omega) | exact q_rg_up (q_rg_up (by assumption) (by omega)) (by omega) | exact q_rg_cpy (by assumption) (by assumption)), (by first | assumption | exact hq_42.2.2.2.1), (by first | exact RlS_0 hR0 hlf0 hd0 (by omega) | exact q8 | exact RlS_n L9 O9 (by omega) | exact RlS_b L9 O9 hq_47 (by omega) hq_59.1 hq_59.2 | (refine (?_ : RlS _ _ _ kk _ _ _ _ _ _ _ _ _ _ _ _); exfalso; omega))⟩, by omega⟩
                · intro hq_64
                  refine Exists.intro [0, 1, 4, 5, 6, 7, 8, 9, 10, 11, 3, 2, 12, 13, 14, 15, 16, 17, 18, 19, 20, 21, 22, 23, 24, 25] (Exists.intro [q2 0] (Exists.intro ([.inr (12, [q1 _, q2 1, q2 2, q2 3, q2 4, q2 5, q2 6, q2 7, q2 8, q2 9, q1 _, q1 _, q1 _, q1 _, q1 _, q3 _, q1 _, q1 _, q1 _, q2 10, q2 11, q1 _, q1 _, q1 _, q1 _, q1 _, q1 _, q2 12, q1 _, q2 13, q2 14, q2 15, q2 16, q1 _, q2 17, q1 _, q2 18, q2 19, q2 20, q2 21, q2 22, q1 _, q2 23, q2 24, q2 25]), .inl (1, 2400, .inl _)]) (And.intro rfl (And.intro rfl (And.intro rfl (And.intro ⟨⟨_, rfl⟩, rfl⟩ ?_))))))
                  refine Exists.intro _ (Exists.intro _ (Exists.intro _ (Exists.intro _ (Exists.intro _ (Exists.intro _ (Exists.intro _ (Exists.intro _ (Exists.intro _ (Exists.intro _ (Exists.intro _ (Exists.intro _ (Exists.intro _ (Exists.intro _ (Exists.intro _ (Exists.intro _ (Exists.intro _ (Exists.intro _ (Exists.intro _ (Exists.intro _ (Exists.intro _ (And.intro rfl (And.intro rfl (And.intro (by first | omega | assumption | exact q_rg_up (by assumption) (by omega) | exact q_rg_up (q_rg_up (by assumption) (by omega)) (by omega) | exact q_rg_cpy (by assumption) (by assumption)) (?_))))))))))))))))))))))))
                  intro x_mre_68 x_mbe_68 x_mso_68 x_mva_68 x_mwo_68 hq_68
                  try have q8 := RlS_s (wr2 := x_mwr_42) L9 p8 O9 hq_47 (by omega) hq_68.1
                  exact ⟨_, ⟨_, _, _, _, _, _, _, _, _, _, _, _, _, _, _, rfl, rfl, rfl, rfl, (by first | omega | assumption | exact q_rg_up (by assumption) (by omega) | exact q_rg_up (q_rg_up (by assumption) (by omega)) (by omega) | exact q_rg_cpy (by assumption) (by assumption)), (by first | omega | assumption | exact q_rg_up (by assumption) (by omega) | exact q_rg_up (q_rg_up (by assumption) (by omega)) (by omega) | exact q_rg_cpy (by assumption) (by assumption)), (by first | assumption | exact hq_42.2.2.2.1), (by first | exact RlS_0 hR0 hlf0 hd0 (by omega) | exact q8 | exact RlS_n L9 O9 (by omega) | exact RlS_b L9 O9 hq_47 (by omega) hq_59.1 hq_59.2 | (refine (?_ : RlS _ _ _ kk _ _ _ _ _ _ _ _ _ _ _ _); exfalso; omega))⟩, by omega⟩
              · intro hq_55
                refine Exists.intro [0, 1, 4, 5, 6, 7, 8, 9, 10, 11, 3, 2, 12, 13, 14, 15, 16, 17, 18, 19, 20, 21, 22, 23, 24, 25] (Exists.intro [q2 0] (Exists.intro ([.inr (12, [q1 _, q2 1, q2 2, q2 3, q2 4, q2 5, q2 6, q2 7, q2 8, q2 9, q1 _, q1 _, q1 _, q1 _, q1 _, q3 _, q1 _, q1 _, q1 _, q2 10, q2 11, q1 _, q1 _, q1 _, q1 _, q1 _, q1 _, q2 12, q1 _, q2 13, q2 14, q2 15, q2 16, q1 _, q2 17, q1 _, q2 18, q2 19, q2 20, q2 21, q2 22, q1 _, q2 23, q2 24, q2 25])]) (And.intro rfl (And.intro rfl (And.intro rfl (And.intro ⟨⟨_, rfl⟩, rfl⟩ ?_))))))
                refine Exists.intro _ (Exists.intro _ (Exists.intro _ (Exists.intro _ (Exists.intro _ (Exists.intro _ (Exists.intro _ (Exists.intro _ (Exists.intro _ (Exists.intro _ (Exists.intro _ (Exists.intro _ (Exists.intro _ (Exists.intro _ (Exists.intro _ (Exists.intro _ (Exists.intro _ (Exists.intro _ (Exists.intro _ (Exists.intro _ (And.intro rfl (And.intro rfl (?_))))))))))))))))))))))
                intro zq_59 x_mwr_59 hq_59
                apply And.intro
                · intro hq_64
                  exact ⟨_, ⟨_, _, _, _, _, _, _, _, _, _, _, _, _, _, _, rfl, rfl, rfl, rfl, (by first | omega | assumption | exact q_rg_up (by assumption) (by omega) | exact q_rg_up (q_rg_up (by assumption) (by omega)) (by omega) | exact q_rg_cpy (by assumption) (by assumption)), (by first | omega | assumption | exact q_rg_up (by assumption) (by omega) | exact q_rg_up (q_rg_up (by assumption) (by omega)) (by omega) | exact q_rg_cpy (by assumption) (by assumption)), (by first | assumption | exact hq_42.2.2.2.1), (by first | exact RlS_0 hR0 hlf0 hd0 (by omega) | exact q8 | exact RlS_n L9 O9 (by omega) | exact RlS_b L9 O9 hq_47 (by omega) hq_59.1 hq_59.2 | (refine (?_ : RlS _ _ _ kk _ _ _ _ _ _ _ _ _ _ _ _); exfalso; omega))⟩, by omega⟩
                · intro hq_64
                  refine Exists.intro [0, 1, 4, 5, 6, 7, 8, 9, 10, 11, 3, 2, 12, 13, 14, 15, 16, 17, 18, 19, 20, 21, 22, 23, 24, 25] (Exists.intro [q2 0] (Exists.intro ([.inr (12, [q1 _, q2 1, q2 2, q2 3, q2 4, q2 5, q2 6, q2 7, q2 8, q2 9, q1 _, q1 _, q1 _, q1 _, q1 _, q3 _, q1 _, q1 _, q1 _, q2 10, q2 11, q1 _, q1 _, q1 _, q1 _, q1 _, q1 _, q2 12, q1 _, q2 13, q2 14, q2 15, q2 16, q1 _, q2 17, q1 _, q2 18, q2 19, q2 20, q2 21, q2 22, q1 _, q2 23, q2 24, q2 25]), .inl (1, 2400, .inl _)]) (And.intro rfl (And.intro rfl (And.intro rfl (And.intro ⟨⟨_, rfl⟩, rfl⟩ ?_))))))
                  refine Exists.intro _ (Exists.intro _ (Exists.intro _ (Exists.intro _ (Exists.intro _ (Exists.intro _ (Exists.intro _ (Exists.intro _ (Exists.intro _ (Exists.intro _ (Exists.intro _ (Exists.intro _ (Exists.intro _ (Exists.intro _ (Exists.intro _ (Exists.intro _ (Exists.intro _ (Exists.intro _ (Exists.intro _ (Exists.intro _ (Exists.intro _ (And.intro rfl (And.intro rfl (And.intro (by first | omega | assumption | exact q_rg_up (by assumption) (by omega) | exact q_rg_up (q_rg_up (by assumption) (by omega)) (by omega) | exact q_rg_cpy (by assumption) (by assumption)) (?_))))))))))))))))))))))))
                  intro x_mre_68 x_mbe_68 x_mso_68 x_mva_68 x_mwo_68 hq_68
                  try have q8 := RlS_s (wr2 := x_mwr_42) L9 p8 O9 hq_47 (by omega) hq_68.1
                  exact ⟨_, ⟨_, _, _, _, _, _, _, _, _, _, _, _, _, _, _, rfl, rfl, rfl, rfl, (by first | omega | assumption | exact q_rg_up (by assumption) (by omega) | exact q_rg_up (q_rg_up (by assumption) (by omega)) (by omega) | exact q_rg_cpy (by assumption) (by assumption)), (by first | omega | assumption | exact q_rg_up (by assumption) (by omega) | exact q_rg_up (q_rg_up (by assumption) (by omega)) (by omega) | exact q_rg_cpy (by assumption) (by assumption)), (by first | assumption | exact hq_42.2.2.2.1), (by first | exact RlS_0 hR0 hlf0 hd0 (by omega) | exact q8 | exact RlS_n L9 O9 (by omega) | exact RlS_b L9 O9 hq_47 (by omega) hq_59.1 hq_59.2 | (refine (?_ : RlS _ _ _ kk _ _ _ _ _ _ _ _ _ _ _ _); exfalso; omega))⟩, by omega⟩
          · intro hq_30
            refine Exists.intro [0, 1, 2, 3, 4, 5, 6, 7, 8, 9, 10, 11, 12, 13, 14, 15, 16, 17, 18, 19, 20, 21, 22, 23, 24, 25] (Exists.intro [q2 0, q1 _, q3 _, q1 _] (Exists.intro ([.inr (12, [q1 _, q2 1, q2 4, q2 5, q2 6, q2 7, q2 8, q2 9, q2 10, q2 11, q1 _, q1 _, q1 _, q1 _, q1 _, q3 _, q1 _, q1 _, q1 _, q2 3, q2 2, q1 _, q1 _, q1 _, q1 _, q1 _, q1 _, q2 12, q1 _, q2 13, q2 14, q2 15, q2 16, q1 _, q2 17, q1 _, q2 18, q2 19, q2 20, q2 21, q2 22, q1 _, q2 23, q2 24, q2 25]), .inl (1, 2400, .inl _), .inl (0, 4, .inl _), .inl (0, 161, .inl _)]) (And.intro rfl (And.intro rfl (And.intro rfl (And.intro ⟨⟨_, rfl⟩, rfl⟩ ?_))))))
            refine Exists.intro _ (Exists.intro _ (Exists.intro _ (Exists.intro _ (Exists.intro _ (Exists.intro _ (Exists.intro _ (Exists.intro _ (Exists.intro _ (Exists.intro _ (Exists.intro _ (Exists.intro _ (Exists.intro _ (Exists.intro _ (Exists.intro _ (Exists.intro _ (Exists.intro _ (Exists.intro _ (Exists.intro _ (Exists.intro _ (Exists.intro _ (Exists.intro _ (Exists.intro _ (Exists.intro _ (Exists.intro (liW (tc tp) mle (stS (tc tp) mle a kk).1 a) (Exists.intro (stS (tc tp) mle a kk).1 (Exists.intro (stS (tc tp) mle a kk).2.1 (Exists.intro (stS (tc tp) mle a kk).2.2.1 (Exists.intro (stS (tc tp) mle a kk).2.2.2.1 (Exists.intro (stS (tc tp) mle a kk).2.2.2.2.1 (Exists.intro (stS (tc tp) mle a kk).2.2.2.2.2 (Exists.intro _ (Exists.intro _ (And.intro rfl (And.intro rfl (And.intro (by first | omega | assumption | exact q_rg_up (by assumption) (by omega) | exact q_rg_up (q_rg_up (by assumption) (by omega)) (by omega) | exact q_rg_cpy (by assumption) (by assumption)) (And.intro L9 (And.intro (by decide) (And.intro (by first | exact L9.1.2.2.2.2 | exact woT_n L9 (by omega)) (And.intro p7 (And.intro rfl (And.intro L9.1.1 (And.intro (by first | omega | assumption | exact q_rg_up (by assumption) (by omega) | exact q_rg_up (q_rg_up (by assumption) (by omega)) (by omega) | exact q_rg_cpy (by assumption) (by assumption)) (And.intro hty (?_))))))))))))))))))))))))))))))))))))))))))))
            intro zq_42 x_mre_42 x_mbe_42 x_mso_42 x_mva_42 x_mwo_42 x_mwr_42 x_mlf_42 x_mlp_42 x_mgo_42 x_mfp_42 x_mfd_42 x_re_42 x_td_42 hq_42
            have O9 := hq_42.2.2.2.2
            apply And.intro
            · intro hq_47
              apply And.intro
              · intro hq_64
                exact ⟨_, ⟨_, _, _, _, _, _, _, _, _, _, _, _, _, _, _, rfl, rfl, rfl, rfl, (by first | omega | assumption | exact q_rg_up (by assumption) (by omega) | exact q_rg_up (q_rg_up (by assumption) (by omega)) (by omega) | exact q_rg_cpy (by assumption) (by assumption)), (by first | omega | assumption | exact q_rg_up (by assumption) (by omega) | exact q_rg_up (q_rg_up (by assumption) (by omega)) (by omega) | exact q_rg_cpy (by assumption) (by assumption)), (by first | assumption | exact hq_42.2.2.2.1), (by first | exact RlS_0 hR0 hlf0 hd0 (by omega) | exact q8 | exact RlS_n L9 O9 (by omega) | exact RlS_b L9 O9 hq_47 (by omega) hq_59.1 hq_59.2 | (refine (?_ : RlS _ _ _ kk _ _ _ _ _ _ _ _ _ _ _ _); exfalso; omega))⟩, by omega⟩
              · intro hq_64
                refine Exists.intro [0, 1, 4, 5, 6, 7, 8, 9, 10, 11, 3, 2, 12, 13, 14, 15, 16, 17, 18, 19, 20, 21, 22, 23, 24, 25] (Exists.intro [q2 0] (Exists.intro ([.inr (12, [q1 _, q2 1, q2 2, q2 3, q2 4, q2 5, q2 6, q2 7, q2 8, q2 9, q1 _, q1 _, q1 _, q1 _, q1 _, q3 _, q1 _, q1 _, q1 _, q2 10, q2 11, q1 _, q1 _, q1 _, q1 _, q1 _, q1 _, q2 12, q1 _, q2 13, q2 14, q2 15, q2 16, q1 _, q2 17, q1 _, q2 18, q2 19, q2 20, q2 21, q2 22, q1 _, q2 23, q2 24, q2 25]), .inl (1, 2400, .inl _)]) (And.intro rfl (And.intro rfl (And.intro rfl (And.intro ⟨⟨_, rfl⟩, rfl⟩ ?_))))))
                refine Exists.intro _ (Exists.intro _ (Exists.intro _ (Exists.intro _ (Exists.intro _ (Exists.intro _ (Exists.intro _ (Exists.intro _ (Exists.intro _ (Exists.intro _ (Exists.intro _ (Exists.intro _ (Exists.intro _ (Exists.intro _ (Exists.intro _ (Exists.intro _ (Exists.intro _ (Exists.intro _ (Exists.intro _ (Exists.intro _ (Exists.intro _ (And.intro rfl (And.intro rfl (And.intro (by first | omega | assumption | exact q_rg_up (by assumption) (by omega) | exact q_rg_up (q_rg_up (by assumption) (by omega)) (by omega) | exact q_rg_cpy (by assumption) (by assumption)) (?_))))))))))))))))))))))))
                intro x_mre_68 x_mbe_68 x_mso_68 x_mva_68 x_mwo_68 hq_68
                try have q8 := RlS_s (wr2 := x_mwr_42) L9 p8 O9 hq_47 (by omega) hq_68.1
                exact ⟨_, ⟨_, _, _, _, _, _, _, _, _, _, _, _, _, _, _, rfl, rfl, rfl, rfl, (by first | omega | assumption | exact q_rg_up (by assumption) (by omega) | exact q_rg_up (q_rg_up (by assumption) (by omega)) (by omega) | exact q_rg_cpy (by assumption) (by assumption)), (by first | omega | assumption | exact q_rg_up (by assumption) (by omega) | exact q_rg_up (q_rg_up (by assumption) (by omega)) (by omega) | exact q_rg_cpy (by assumption) (by assumption)), (by first | assumption | exact hq_42.2.2.2.1), (by first | exact RlS_0 hR0 hlf0 hd0 (by omega) | exact q8 | exact RlS_n L9 O9 (by omega) | exact RlS_b L9 O9 hq_47 (by omega) hq_59.1 hq_59.2 | (refine (?_ : RlS _ _ _ kk _ _ _ _ _ _ _ _ _ _ _ _); exfalso; omega))⟩, by omega⟩
            · intro hq_47
              apply And.intro
              · intro hq_55
                apply And.intro
                · intro hq_64
                  exact ⟨_, ⟨_, _, _, _, _, _, _, _, _, _, _, _, _, _, _, rfl, rfl, rfl, rfl, (by first | omega | assumption | exact q_rg_up (by assumption) (by omega) | exact q_rg_up (q_rg_up (by assumption) (by omega)) (by omega) | exact q_rg_cpy (by assumption) (by assumption)), (by first | omega | assumption | exact q_rg_up (by assumption) (by omega) | exact q_rg_up (q_rg_up (by assumption) (by omega)) (by omega) | exact q_rg_cpy (by assumption) (by assumption)), (by first | assumption | exact hq_42.2.2.2.1), (by first | exact RlS_0 hR0 hlf0 hd0 (by omega) | exact q8 | exact RlS_n L9 O9 (by omega) | exact RlS_b L9 O9 hq_47 (by omega) hq_59.1 hq_59.2 | (refine (?_ : RlS _ _ _ kk _ _ _ _ _ _ _ _ _ _ _ _); exfalso; omega))⟩, by omega⟩
                · intro hq_64
                  refine Exists.intro [0, 1, 4, 5, 6, 7, 8, 9, 10, 11, 3, 2, 12, 13, 14, 15, 16, 17, 18, 19, 20, 21, 22, 23, 24, 25] (Exists.intro [q2 0] (Exists.intro ([.inr (12, [q1 _, q2 1, q2 2, q2 3, q2 4, q2 5, q2 6, q2 7, q2 8, q2 9, q1 _, q1 _, q1 _, q1 _, q1 _, q3 _, q1 _, q1 _, q1 _, q2 10, q2 11, q1 _, q1 _, q1 _, q1 _, q1 _, q1 _, q2 12, q1 _, q2 13, q2 14, q2 15, q2 16, q1 _, q2 17, q1 _, q2 18, q2 19, q2 20, q2 21, q2 22, q1 _, q2 23, q2 24, q2 25]), .inl (1, 2400, .inl _)]) (And.intro rfl (And.intro rfl (And.intro rfl (And.intro ⟨⟨_, rfl⟩, rfl⟩ ?_))))))
                  refine Exists.intro _ (Exists.intro _ (Exists.intro _ (Exists.intro _ (Exists.intro _ (Exists.intro _ (Exists.intro _ (Exists.intro _ (Exists.intro _ (Exists.intro _ (Exists.intro _ (Exists.intro _ (Exists.intro _ (Exists.intro _ (Exists.intro _ (Exists.intro _ (Exists.intro _ (Exists.intro _ (Exists.intro _ (Exists.intro _ (Exists.intro _ (And.intro rfl (And.intro rfl (And.intro (by first | omega | assumption | exact q_rg_up (by assumption) (by omega) | exact q_rg_up (q_rg_up (by assumption) (by omega)) (by omega) | exact q_rg_cpy (by assumption) (by assumption)) (?_))))))))))))))))))))))))
                  intro x_mre_68 x_mbe_68 x_mso_68 x_mva_68 x_mwo_68 hq_68
                  try have q8 := RlS_s (wr2 := x_mwr_42) L9 p8 O9 hq_47 (by omega) hq_68.1
                  exact ⟨_, ⟨_, _, _, _, _, _, _, _, _, _, _, _, _, _, _, rfl, rfl, rfl, rfl, (by first | omega | assumption | exact q_rg_up (by assumption) (by omega) | exact q_rg_up (q_rg_up (by assumption) (by omega)) (by omega) | exact q_rg_cpy (by assumption) (by assumption)), (by first | omega | assumption | exact q_rg_up (by assumption) (by omega) | exact q_rg_up (q_rg_up (by assumption) (by omega)) (by omega) | exact q_rg_cpy (by assumption) (by assumption)), (by first | assumption | exact hq_42.2.2.2.1), (by first | exact RlS_0 hR0 hlf0 hd0 (by omega) | exact q8 | exact RlS_n L9 O9 (by omega) | exact RlS_b L9 O9 hq_47 (by omega) hq_59.1 hq_59.2 | (refine (?_ : RlS _ _ _ kk _ _ _ _ _ _ _ _ _ _ _ _); exfalso; omega))⟩, by omega⟩
              · intro hq_55
                refine Exists.intro [0, 1, 4, 5, 6, 7, 8, 9, 10, 11, 3, 2, 12, 13, 14, 15, 16, 17, 18, 19, 20, 21, 22, 23, 24, 25] (Exists.intro [q2 0] (Exists.intro ([.inr (12, [q1 _, q2 1, q2 2, q2 3, q2 4, q2 5, q2 6, q2 7, q2 8, q2 9, q1 _, q1 _, q1 _, q1 _, q1 _, q3 _, q1 _, q1 _, q1 _, q2 10, q2 11, q1 _, q1 _, q1 _, q1 _, q1 _, q1 _, q2 12, q1 _, q2 13, q2 14, q2 15, q2 16, q1 _, q2 17, q1 _, q2 18, q2 19, q2 20, q2 21, q2 22, q1 _, q2 23, q2 24, q2 25])]) (And.intro rfl (And.intro rfl (And.intro rfl (And.intro ⟨⟨_, rfl⟩, rfl⟩ ?_))))))
                refine Exists.intro _ (Exists.intro _ (Exists.intro _ (Exists.intro _ (Exists.intro _ (Exists.intro _ (Exists.intro _ (Exists.intro _ (Exists.intro _ (Exists.intro _ (Exists.intro _ (Exists.intro _ (Exists.intro _ (Exists.intro _ (Exists.intro _ (Exists.intro _ (Exists.intro _ (Exists.intro _ (Exists.intro _ (Exists.intro _ (And.intro rfl (And.intro rfl (?_))))))))))))))))))))))
                intro zq_59 x_mwr_59 hq_59
                apply And.intro
                · intro hq_64
                  exact ⟨_, ⟨_, _, _, _, _, _, _, _, _, _, _, _, _, _, _, rfl, rfl, rfl, rfl, (by first | omega | assumption | exact q_rg_up (by assumption) (by omega) | exact q_rg_up (q_rg_up (by assumption) (by omega)) (by omega) | exact q_rg_cpy (by assumption) (by assumption)), (by first | omega | assumption | exact q_rg_up (by assumption) (by omega) | exact q_rg_up (q_rg_up (by assumption) (by omega)) (by omega) | exact q_rg_cpy (by assumption) (by assumption)), (by first | assumption | exact hq_42.2.2.2.1), (by first | exact RlS_0 hR0 hlf0 hd0 (by omega) | exact q8 | exact RlS_n L9 O9 (by omega) | exact RlS_b L9 O9 hq_47 (by omega) hq_59.1 hq_59.2 | (refine (?_ : RlS _ _ _ kk _ _ _ _ _ _ _ _ _ _ _ _); exfalso; omega))⟩, by omega⟩
                · intro hq_64
                  refine Exists.intro [0, 1, 4, 5, 6, 7, 8, 9, 10, 11, 3, 2, 12, 13, 14, 15, 16, 17, 18, 19, 20, 21, 22, 23, 24, 25] (Exists.intro [q2 0] (Exists.intro ([.inr (12, [q1 _, q2 1, q2 2, q2 3, q2 4, q2 5, q2 6, q2 7, q2 8, q2 9, q1 _, q1 _, q1 _, q1 _, q1 _, q3 _, q1 _, q1 _, q1 _, q2 10, q2 11, q1 _, q1 _, q1 _, q1 _, q1 _, q1 _, q2 12, q1 _, q2 13, q2 14, q2 15, q2 16, q1 _, q2 17, q1 _, q2 18, q2 19, q2 20, q2 21, q2 22, q1 _, q2 23, q2 24, q2 25]), .inl (1, 2400, .inl _)]) (And.intro rfl (And.intro rfl (And.intro rfl (And.intro ⟨⟨_, rfl⟩, rfl⟩ ?_))))))
                  refine Exists.intro _ (Exists.intro _ (Exists.intro _ (Exists.intro _ (Exists.intro _ (Exists.intro _ (Exists.intro _ (Exists.intro _ (Exists.intro _ (Exists.intro _ (Exists.intro _ (Exists.intro _ (Exists.intro _ (Exists.intro _ (Exists.intro _ (Exists.intro _ (Exists.intro _ (Exists.intro _ (Exists.intro _ (Exists.intro _ (Exists.intro _ (And.intro rfl (And.intro rfl (And.intro (by first | omega | assumption | exact q_rg_up (by assumption) (by omega) | exact q_rg_up (q_rg_up (by assumption) (by omega)) (by omega) | exact q_rg_cpy (by assumption) (by assumption)) (?_))))))))))))))))))))))))
                  intro x_mre_68 x_mbe_68 x_mso_68 x_mva_68 x_mwo_68 hq_68
                  try have q8 := RlS_s (wr2 := x_mwr_42) L9 p8 O9 hq_47 (by omega) hq_68.1
                  exact ⟨_, ⟨_, _, _, _, _, _, _, _, _, _, _, _, _, _, _, rfl, rfl, rfl, rfl, (by first | omega | assumption | exact q_rg_up (by assumption) (by omega) | exact q_rg_up (q_rg_up (by assumption) (by omega)) (by omega) | exact q_rg_cpy (by assumption) (by assumption)), (by first | omega | assumption | exact q_rg_up (by assumption) (by omega) | exact q_rg_up (q_rg_up (by assumption) (by omega)) (by omega) | exact q_rg_cpy (by assumption) (by assumption)), (by first | assumption | exact hq_42.2.2.2.1), (by first | exact RlS_0 hR0 hlf0 hd0 (by omega) | exact q8 | exact RlS_n L9 O9 (by omega) | exact RlS_b L9 O9 hq_47 (by omega) hq_59.1 hq_59.2 | (refine (?_ : RlS _ _ _ kk _ _ _ _ _ _ _ _ _ _ _ _); exfalso; omega))⟩, by omega⟩
    simp only [I_F12_lines, hq_2, if_false] at hI
  rintro lv st w' ⟨rfl, rfl, rfl⟩
  exact ⟨_, _, _, _, _, _, _, _, _, _, _, _, _, _, _, _, rfl, rfl, rfl, rfl, (by first | omega | assumption | exact q_rg_up (by assumption) (by omega) | exact q_rg_up (q_rg_up (by assumption) (by omega)) (by omega) | exact q_rg_cpy (by assumption) (by assumption)), (by first | omega | assumption | exact q_rg_up (by assumption) (by omega) | exact q_rg_up (q_rg_up (by assumption) (by omega)) (by omega) | exact q_rg_cpy (by assumption) (by assumption)), (by first | assumption | exact hq_42.2.2.2.1), (by first | exact RlS_0 hR0 hlf0 hd0 (by omega) | exact q8 | exact RlS_n L9 O9 (by omega) | exact RlS_b L9 O9 hq_47 (by omega) hq_59.1 hq_59.2 | (refine (?_ : RlS _ _ _ kk _ _ _ _ _ _ _ _ _ _ _ _); exfalso; omega))⟩
