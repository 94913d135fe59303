theorem rk_s {t : Nat → Int} {p o o2 v s d : Int} (hc : v = cnA t p o.toNat) (ho : 0 ≤ o) (e2 : o2 = o + 1) (hs : s = v + d) (hd : d = if t o.toNat > t p.toNat ∨ (t o.toNat = t p.toNat ∧ o < p) then 1 else 0) : s = cnA t p o2.toNat := by
  rw [e2, cnA_s' ho, ← hc, ← hd]; exact hs
theorem rk_q {t : Nat → Int} {v2 v3 v4 a pe z : Int} (hq : ∀ p : Nat, (p : Int) < v2 → ¬ cnA t p pe.toNat = a) (hc : v3 = cnA t v2 v4.toNat) (h : ¬ v3 = a) (e : v4 = pe) (h2 : 0 ≤ v2) (hz : z = v2 + 1) : ∀ p : Nat, (p : Int) < z → ¬ cnA t p pe.toNat = a := by
  intro p hp
  by_cases e2 : (p : Int) = v2
  · rw [e2, ← e, ← hc]; exact h
  · exact hq p (by omega)
theorem rk_e {t : Nat → Int} {v2 a pe : Int} (hq : ∀ p : Nat, (p : Int) < v2 → ¬ cnA t p pe.toNat = a) (hv : pe ≤ v2) (h0 : 0 ≤ a) (h1 : a < pe) : False := by
  obtain ⟨p, hp, h⟩ := cnA_ex t pe.toNat a.toNat (by omega)
  exact hq p (by omega) (by rw [h]; omega)
theorem p2R_rg {k : Int} (hk : 0 ≤ k ∧ k ≤ 8) : 1 ≤ p2R k ∧ p2R k ≤ 256 := by
  have h2 : k = 0 ∨ k = 1 ∨ k = 2 ∨ k = 3 ∨ k = 4 ∨ k = 5 ∨ k = 6 ∨ k = 7 ∨ k = 8 := by omega
  rcases h2 with e | e | e | e | e | e | e | e | e <;> subst e <;> decide
theorem ps_s {f : Nat → Int} {bo d ra o o2 v s x : Int} (hc : v = pasR f bo d ra o.toNat) (ho : 0 ≤ o) (e2 : o2 = o + 1) (hs : s = v + x) (hx : x = if hasR (ofR f bo (31 + d)) o = 1 ∧ ofR f bo (5 + o) ≤ (Int32.ofInt (ofR f bo (25 + d)) + Int32.ofInt ra).toInt then 1 else 0) : s = pasR f bo d ra o2.toNat := by
  rw [e2, pasR_s ho, ← hc, ← hx]; exact hs
def PX (f g : Nat → Int) (bo : Int) (pe : Nat) (d l ra best : Int) : Prop := (ra = 0 ∧ best = 0) ∨ ∃ r : Int, 0 ≤ r ∧ r < ra ∧ r ≤ l ∧ pasR f bo d r pe + g (100 * (d + 1) + l - r).toNat = best
theorem PX_0 {f g : Nat → Int} {bo d l : Int} {pe : Nat} : PX f g bo pe d l 0 0 := Or.inl ⟨rfl, rfl⟩
theorem PX_s {f g : Nat → Int} {bo d l ra best z y i s b2 ra2 : Int} {pe : Nat} (h : PX f g bo pe d l ra best) (h0 : 0 ≤ ra ∧ ra ≤ l) (hz : z = pasR f bo d ra pe) (hy : y = g i.toNat) (hi : i = 100 * (d + 1) + l - ra) (hs : s = z + y) (hs0 : 0 ≤ s) (hb : best ≤ s ∧ b2 = s ∨ s < best ∧ b2 = best) (e2 : ra2 = ra + 1) : PX f g bo pe d l ra2 b2 := by
  subst e2; subst hi
  have hr : pasR f bo d ra pe + g (100 * (d + 1) + l - ra).toNat = s := by rw [← hz, ← hy, hs]
  rcases hb with ⟨-, hb⟩ | ⟨hb1, hb⟩
  · exact Or.inr ⟨ra, h0.1, by omega, h0.2, by rw [hr, hb]⟩
  · rcases h with ⟨h1, h2⟩ | ⟨r, r1, r2, r3, r4⟩
    · omega
    · exact Or.inr ⟨r, r1, by omega, r3, by rw [r4, hb]⟩
theorem PX_e {f g : Nat → Int} {bo d l ra best : Int} {pe : Nat} (h : PX f g bo pe d l ra best) (h0 : 0 < ra) : ∃ r : Int, 0 ≤ r ∧ r ≤ l ∧ pasR f bo d r pe + g (100 * (d + 1) + l - r).toNat = best := by
  rcases h with ⟨h1, -⟩ | ⟨r, r1, r2, r3, r4⟩
  · omega
  · exact ⟨r, r1, r3, r4⟩
def PR (f g : Nat → Int) (bo : Int) (pe : Nat) (d l ra : Int) : Prop := ∃ r : Int, ra ≤ r ∧ 0 ≤ r ∧ r ≤ l ∧ pasR f bo d r pe + g (100 * (d + 1) + l - r).toNat = g (100 * d + l).toNat
theorem PR_0 {f g : Nat → Int} {bo n D d l : Int} {pe : Nat} (h : PF f g bo pe n D (-1) 0) (hd : 0 ≤ d ∧ d < D) (hl : 0 ≤ l ∧ l ≤ n) : PR f g bo pe d l 0 := by
  obtain ⟨r, r1, r2, r3⟩ := (h d l hd.1 (by omega) hl.1 hl.2 (by omega)).2 hd.2
  exact ⟨r, r1, r1, r2, r3⟩
theorem PR_le {f g : Nat → Int} {bo d l ra : Int} {pe : Nat} (h : PR f g bo pe d l ra) : ra ≤ l := by
  obtain ⟨r, r1, r2, r3, -⟩ := h; omega
theorem PR_s {f g : Nat → Int} {bo d l ra z y i s t i2 ra2 : Int} {pe : Nat} (h : PR f g bo pe d l ra) (hz : z = pasR f bo d ra pe) (hy : y = g i.toNat) (hi : i = 100 * (d + 1) + l - ra) (hs : s = z + y) (ht : t = g i2.toNat) (hi2 : i2 = 100 * d + l) (hn : ¬ s = t) (e2 : ra2 = ra + 1) : PR f g bo pe d l ra2 := by
  subst e2; subst hi; subst hi2
  obtain ⟨r, r1, r2, r3, r4⟩ := h
  refine ⟨r, ?_, r2, r3, r4⟩
  by_cases e : r = ra
  · subst e
    exact absurd (by rw [hs, hz, hy, r4, ht]) hn
  · omega
theorem PF_at {f g : Nat → Int} {bo n D d l d' l' i z : Int} {pe : Nat} (h : PF f g bo pe n D d l) (h1 : 0 ≤ d' ∧ d' ≤ D ∧ 0 ≤ l' ∧ l' ≤ n) (h2 : d < d' ∨ d' = d ∧ l' < l) (hz : z = g i.toNat) (hi : i = 100 * d' + l') : 0 ≤ z ∧ z ≤ 8 * (D - d') := by
  subst hi; rw [hz]
  exact (h d' l' h1.1 h1.2.1 h1.2.2.1 h1.2.2.2 h2).1
def stp (f : Nat → Int) (b : Nat) : Nat → Int → Nat
  | 0, _ => 0
  | n + 1, o => if o = -1 then 0 else 1 + stp f b n (f (b + 13 + o.toNat))
theorem pch_sh {f : Nat → Int} {b : Nat} {o : Int} (ho : ¬ o = -1) : ∀ n : Nat, pch f b (n + 1) o = pch f b n (f (b + 13 + o.toNat)) := by
  intro n
  induction n with
  | zero => show (if o = -1 then (-1 : Int) else _) = _; rw [if_neg ho]; rfl
  | succ n ih =>
    show (if pch f b (n + 1) o = -1 then (-1 : Int) else f (b + 13 + (pch f b (n + 1) o).toNat)) = _
    rw [ih]; rfl
theorem pch_m1 {f : Nat → Int} {b : Nat} : ∀ n : Nat, pch f b n (-1) = -1 := fun n => by
  have := pch_end (f := f) (b := b) (n := 0) (o := -1) rfl n
  rw [Nat.zero_add] at this; exact this
theorem stp_eq {f : Nat → Int} {b : Nat} : ∀ (n : Nat) (o : Int), pch f b n o = -1 → stp f b (n + 1) o = stp f b n o := by
  intro n
  induction n with
  | zero => intro o h; have h : o = -1 := h; subst h; rfl
  | succ n ih =>
    intro o h
    by_cases e : o = -1
    · subst e; rfl
    · rw [pch_sh e] at h
      have := ih _ h
      show (if o = -1 then 0 else 1 + stp f b (n + 1) (f (b + 13 + o.toNat))) = (if o = -1 then 0 else 1 + stp f b n (f (b + 13 + o.toNat)))
      rw [this]
theorem up_s {f : Nat → Int} {bo o r : Int} (hb : 0 ≤ bo ∧ bo ≤ 1) (h : pch f (75 * bo.toNat) 8 o = -1) (ho : 0 ≤ o) (hr : r = ofR f bo (13 + o)) : pch f (75 * bo.toNat) 8 r = -1 ∧ stp f (75 * bo.toNat) 8 r < stp f (75 * bo.toNat) 8 o := by
  have e : r = f (75 * bo.toNat + 13 + o.toNat) := by rw [hr]; unfold ofR; congr 1; omega
  have h1 : pch f (75 * bo.toNat) 7 r = -1 := by rw [e, ← pch_sh (by omega)]; exact h
  refine ⟨pch_le h1 (by decide), ?_⟩
  rw [stp_eq 7 r h1]
  show _ < (if o = -1 then 0 else 1 + stp f (75 * bo.toNat) 7 (f (75 * bo.toNat + 13 + o.toNat)))
  rw [if_neg (by omega), ← e]; omega

theorem dX12_begin_0 : decode cX12_begin 0 = .ok (.iconst 0, 1) := by decide +kernel
theorem dX12_begin_1 : decode cX12_begin 1 = .ok (.istore_n 1, 1) := by decide +kernel
theorem dX12_begin_2 : decode cX12_begin 2 = .ok (.iload_n 1, 1) := by decide +kernel
theorem dX12_begin_3 : decode cX12_begin 3 = .ok (.bipush 8, 2) := by decide +kernel
theorem dX12_begin_5 : decode cX12_begin 5 = .ok (.if_icmp .ge 22, 3) := by decide +kernel
theorem dX12_begin_8 : decode cX12_begin 8 = .ok (.aload_n 0, 1) := by decide +kernel
theorem dX12_begin_9 : decode cX12_begin 9 = .ok (.getfield 44, 3) := by decide +kernel
theorem dX12_begin_12 : decode cX12_begin 12 = .ok (.iload_n 1, 1) := by decide +kernel
theorem dX12_begin_13 : decode cX12_begin 13 = .ok (.aload_n 0, 1) := by decide +kernel
theorem dX12_begin_14 : decode cX12_begin 14 = .ok (.iconst 5, 1) := by decide +kernel
theorem dX12_begin_15 : decode cX12_begin 15 = .ok (.iload_n 1, 1) := by decide +kernel
theorem dX12_begin_16 : decode cX12_begin 16 = .ok (.iadd, 1) := by decide +kernel
theorem dX12_begin_17 : decode cX12_begin 17 = .ok (.invokevirtual 299, 3) := by decide +kernel
theorem dX12_begin_20 : decode cX12_begin 20 = .ok (.iastore, 1) := by decide +kernel
theorem dX12_begin_21 : decode cX12_begin 21 = .ok (.iinc 1 1, 3) := by decide +kernel
theorem dX12_begin_24 : decode cX12_begin 24 = .ok (.goto (-22), 3) := by decide +kernel
theorem dX12_begin_27 : decode cX12_begin 27 = .ok (.aload_n 0, 1) := by decide +kernel
theorem dX12_begin_28 : decode cX12_begin 28 = .ok (.iconst 0, 1) := by decide +kernel
theorem dX12_begin_29 : decode cX12_begin 29 = .ok (.putfield 324, 3) := by decide +kernel
theorem dX12_begin_32 : decode cX12_begin 32 = .ok (.return_, 1) := by decide +kernel
def is_X12_begin : Nat → List Nat := fun d => if d = 2 then [0, 1] else []
set_option maxRecDepth 100000 in
def b_X12_begin_2 (J : Nat → List qV → List qV → qW → Prop) (Q : qR) : qK := x_iload 1 (x_int 8 (x_icmp_ge (x_aload 0 (x_int 0 (x_put 12 28 q_oki (x_nw (x_vret Q))))) (x_aload 0 (x_get 12 27 (x_iload 1 (x_aload 0 (x_int 5 (x_iload 1 (x_iadd (x_callr (some 12) 2 spr_X12_of (x_iast (x_nw (x_iinc 1 1 (x_cut [0, 1] (J 2)))))))))))))))
set_option maxRecDepth 100000 in
theorem s_X12_begin_2 {p : Program} {l : Launch} {e : Env} {R : Room} {s : State} {m : MethodId} {args : Array Value} {below : List Frame} {meth : Method} {c : Code} {nW : Nat} {dC : Nat → ClassId} {dI : Nat → Nat → Nat} {k : Nat → ClassId} {g : Nat → Nat} {A : Nat → Prop} {J : Nat → List qV → List qV → qW → Prop} {Q : qR} (X : q_X p R s m args meth c cX12_begin 2 nW 1 21 RX12 none dC dI k g A) (hJ : ∀ d : Nat, q_Sd p l e R s m args below meth c 2 nW dC dI k g A (MQ below (q_post (dC, dI) k g nW Q A) args s 0 0 A) d (x_cut (is_X12_begin d) (J d))) : q_Sd p l e R s m args below meth c 2 nW dC dI k g A (MQ below (q_post (dC, dI) k g nW Q A) args s 0 0 A) 2 (b_X12_begin_2 J Q) := by
  unfold b_X12_begin_2
  refine s_iload_n X rfl dX12_begin_2 ?_
  refine s_bipush X ⟨by decide, by decide⟩ (by decide) dX12_begin_3 ?_
  refine s_icmp_ge X (tgt := 27) dX12_begin_5 (by decide) ?_ ?_
  · refine s_aload_n X rfl dX12_begin_27 ?_
    refine s_iconst X ⟨by decide, by decide⟩ dX12_begin_28 ?_
    refine s_put X (T := TX12) (C := RX12) (N := 45) tu_X12 tyX12_ok nmX12 rfl (by decide) tw_1025 rfl (by decide +kernel) q_oki_t dX12_begin_29 ?_
    refine s_nw ?_
    exact s_vret X dX12_begin_32
  · refine s_aload_n X rfl dX12_begin_8 ?_
    refine s_get X (T := TX12) (C := RX12) (N := 45) tu_X12 rfl (by decide) tw_1024 dX12_begin_9 ?_
    refine s_iload_n X rfl dX12_begin_12 ?_
    refine s_aload_n X rfl dX12_begin_13 ?_
    refine s_iconst X ⟨by decide, by decide⟩ dX12_begin_14 ?_
    refine s_iload_n X rfl dX12_begin_15 ?_
    refine s_iadd X dX12_begin_16 ?_
    refine s_callVr X (m_X12_of l) tw_1189 tw_1190 tw_1603 tw_134 tw_1191 rfl (by decide +kernel) ⟨by decide, by decide⟩ dX12_begin_17 ?_
    refine s_iast X dX12_begin_20 ?_
    refine s_nw ?_
    refine s_iinc X (by decide) dX12_begin_21 ?_
    refine s_goto X (tgt := 2) dX12_begin_24 (by decide) ?_
    exact hJ 2
set_option maxRecDepth 100000 in
def b_X12_begin_0 (J : Nat → List qV → List qV → qW → Prop) (Q : qR) : qK := x_int 0 (x_istore 1 (x_cut [0, 1] (J 2)))
set_option maxRecDepth 100000 in
theorem s_X12_begin_0 {p : Program} {l : Launch} {e : Env} {R : Room} {s : State} {m : MethodId} {args : Array Value} {below : List Frame} {meth : Method} {c : Code} {nW : Nat} {dC : Nat → ClassId} {dI : Nat → Nat → Nat} {k : Nat → ClassId} {g : Nat → Nat} {A : Nat → Prop} {J : Nat → List qV → List qV → qW → Prop} {Q : qR} (X : q_X p R s m args meth c cX12_begin 2 nW 1 21 RX12 none dC dI k g A) (hJ : ∀ d : Nat, q_Sd p l e R s m args below meth c 2 nW dC dI k g A (MQ below (q_post (dC, dI) k g nW Q A) args s 0 0 A) d (x_cut (is_X12_begin d) (J d))) : q_Sd p l e R s m args below meth c 2 nW dC dI k g A (MQ below (q_post (dC, dI) k g nW Q A) args s 0 0 A) 0 (b_X12_begin_0 J Q) := by
  unfold b_X12_begin_0
  refine s_iconst X ⟨by decide, by decide⟩ dX12_begin_0 ?_
  refine s_istore_n X rfl (by decide) dX12_begin_1 ?_
  exact hJ 2

def sp_X12_begin : qS := fun av w Q => ∃ (mco : Int) (mre : Int) (mle : Int) (mbe : Int) (mso : Int) (mva : Int) (mwo : Int) (mwr : Int) (mlf : Int) (mlp : Int) (mfp : Int) (mfd : Int) (mgo : Int) (mbo : Int) (mpe : Int) (mye : Int) (mpr : Int) (mld : Int) (msi : Int) (mse : Int) (tl : Nat → Int) (bs : Nat → Int), av = [q2 0] ∧ w = [.inr (12, [q1 mco, q2 3, q2 4, q2 5, q2 6, q2 7, q2 2, q2 8, q2 9, q2 10, q1 mre, q1 mle, q1 mbe, q1 mso, q1 mva, q3 mwo, q1 mwr, q1 mlf, q1 mlp, q2 11, q2 12, q1 mfp, q1 mfd, q1 mgo, q1 mbo, q1 mpe, q1 mye, q2 1, q1 mpr, q2 13, q2 14, q2 15, q2 16, q1 mld, q2 17, q1 msi, q2 18, q2 19, q2 20, q2 21, q2 22, q1 mse, q2 23, q2 24, q2 25]), .inl (0, 8, .inl tl), .inl (0, 600, .inl bs)] ∧ (0 ≤ mbo ∧ mbo ≤ 1) ∧ (BI bs) ∧ (∀ (x_tl : Nat → Int) (x_mpr : Int), Q none ([.inr (12, [q1 mco, q2 3, q2 4, q2 5, q2 6, q2 7, q2 2, q2 8, q2 9, q2 10, q1 mre, q1 mle, q1 mbe, q1 mso, q1 mva, q3 mwo, q1 mwr, q1 mlf, q1 mlp, q2 11, q2 12, q1 mfp, q1 mfd, q1 mgo, q1 mbo, q1 mpe, q1 mye, q2 1, q1 x_mpr, q2 13, q2 14, q2 15, q2 16, q1 mld, q2 17, q1 msi, q2 18, q2 19, q2 20, q2 21, q2 22, q1 mse, q2 23, q2 24, q2 25]), .inl (0, 8, .inl x_tl), .inl (0, 600, .inl bs)]))
def I_X12_begin (mco : Int) (mre : Int) (mle : Int) (mbe : Int) (mso : Int) (mva : Int) (mwo : Int) (mwr : Int) (mlf : Int) (mlp : Int) (mfp : Int) (mfd : Int) (mgo : Int) (mbo : Int) (mpe : Int) (mye : Int) (mpr : Int) (mld : Int) (msi : Int) (mse : Int) (tl : Nat → Int) (bs : Nat → Int) : Nat → Nat → List qV → List qV → qW → Prop := fun dz mz vz sz wz => if dz = 2 then (∃ (y_tl : Nat → Int) (v1 : Int), vz = [q2 0, q1 v1] ∧ sz = [] ∧ wz = [.inr (12, [q1 mco, q2 3, q2 4, q2 5, q2 6, q2 7, q2 2, q2 8, q2 9, q2 10, q1 mre, q1 mle, q1 mbe, q1 mso, q1 mva, q3 mwo, q1 mwr, q1 mlf, q1 mlp, q2 11, q2 12, q1 mfp, q1 mfd, q1 mgo, q1 mbo, q1 mpe, q1 mye, q2 1, q1 mpr, q2 13, q2 14, q2 15, q2 16, q1 mld, q2 17, q1 msi, q2 18, q2 19, q2 20, q2 21, q2 22, q1 mse, q2 23, q2 24, q2 25]), .inl (0, 8, .inl y_tl), .inl (0, 600, .inl bs)] ∧ mz = (8 - v1).toNat ∧ (0 ≤ v1 ∧ v1 ≤ 8)) else False
set_option maxHeartbeats 4000000 in
set_option maxRecDepth 100000 in
theorem m_X12_begin (l : Launch) : q_M l yX12_begin cX12_begin 2 none 1 21 sp_X12_begin := by
  refine q_meth (by decide) (fun av w Q h => by obtain ⟨mco, mre, mle, mbe, mso, mva, mwo, mwr, mlf, mlp, mfp, mfd, mgo, mbo, mpe, mye, mpr, mld, msi, mse, tl, bs, rfl, rfl, hbo, hbi, hQ⟩ := h; exact Nat.le_of_ble_eq_true rfl) ?_
  intro p e R s m args below meth c dC dI k g A av w Q hsp oka okw X
  obtain ⟨mco, mre, mle, mbe, mso, mva, mwo, mwr, mlf, mlp, mfp, mfd, mgo, mbo, mpe, mye, mpr, mld, msi, mse, tl, bs, rfl, rfl, hbo, hbi, hQ⟩ := hsp
  refine s_mono (s_X12_begin_0 X (J := fun dz vz sz wz => ∃ mz, I_X12_begin mco mre mle mbe mso mva mwo mwr mlf mlp mfp mfd mgo mbo mpe mye mpr mld msi mse tl bs dz mz vz sz wz) (q_loopn (I_X12_begin mco mre mle mbe mso mva mwo mwr mlf mlp mfp mfd mgo mbo mpe mye mpr mld msi mse tl bs) (fun dz J => if dz = 2 then b_X12_begin_2 J Q else q_F) ?hs ?hv)) ?_
  case hs =>
    intro d J hJ
    by_cases h2 : d = 2
    · subst h2; exact s_X12_begin_2 X hJ
    simp only [h2, if_false]
    exact s_F
  case hv =>
    intro dz mz vz sz wz hI okv oks okw hlen
    by_cases h2 : dz = 2
    · subst h2
      obtain ⟨y_tl, v1, rfl, rfl, rfl, hn, hp⟩ := hI
      apply And.intro
      · intro h5
        apply And.intro
        · exact trivial
        exact hQ _ _
      · intro h5
        intro z16 h16
        first | replace h16 := e_add h16 (by omega) | replace h16 := e_rng h16
        refine Exists.intro [0, 2, 3, 4, 5, 6, 7, 8, 9, 10, 11, 12, 1, 13, 14, 15, 16, 17, 18, 19, 20, 21, 22, 23, 24, 25] (Exists.intro [q2 0, q1 _] (Exists.intro ([.inr (12, [q1 _, q2 2, q2 3, q2 4, q2 5, q2 6, q2 1, q2 7, q2 8, q2 9, q1 _, q1 _, q1 _, q1 _, q1 _, q3 _, q1 _, q1 _, q1 _, q2 10, q2 11, q1 _, q1 _, q1 _, q1 _, q1 _, q1 _, q2 12, q1 _, q2 13, q2 14, q2 15, q2 16, q1 _, q2 17, q1 _, q2 18, q2 19, q2 20, q2 21, q2 22, q1 _, q2 23, q2 24, q2 25]), .inl (0, 600, .inl _)]) (And.intro rfl (And.intro rfl (And.intro rfl (And.intro ⟨⟨_, rfl⟩, rfl⟩ ?_))))))
        refine Exists.intro _ (Exists.intro _ (Exists.intro _ (Exists.intro _ (Exists.intro _ (Exists.intro _ (Exists.intro _ (Exists.intro _ (Exists.intro _ (Exists.intro _ (Exists.intro _ (Exists.intro _ (Exists.intro _ (Exists.intro _ (Exists.intro _ (Exists.intro _ (Exists.intro _ (Exists.intro _ (Exists.intro _ (Exists.intro _ (Exists.intro _ (Exists.intro _ (And.intro rfl (And.intro rfl (And.intro (by first | omega | assumption | exact q_rg_up (by assumption) (by omega) | exact q_rg_up (q_rg_up (by assumption) (by omega)) (by omega) | exact q_rg_cpy (by assumption) (by assumption)) (And.intro (by first | omega | assumption | exact q_rg_up (by assumption) (by omega) | exact q_rg_up (q_rg_up (by assumption) (by omega)) (by omega) | exact q_rg_cpy (by assumption) (by assumption)) (And.intro (by first | omega | assumption | exact q_rg_up (by assumption) (by omega) | exact q_rg_up (q_rg_up (by assumption) (by omega)) (by omega) | exact q_rg_cpy (by assumption) (by assumption)) (?_)))))))))))))))))))))))))))
        intro z17 h17
        obtain ⟨h17, k17⟩ := h17
        first | replace k17 := OFQ_13 k17 (by omega) | replace k17 := OFQ_21 k17 (by omega) | clear k17
        apply And.intro
        · exact ⟨by omega, by omega⟩
        intro z21 h21
        first | replace h21 := e_add h21 (by omega) | replace h21 := e_rng h21
        exact ⟨_, ⟨_, _, rfl, rfl, rfl, rfl, (by first | omega | assumption | exact q_rg_up (by assumption) (by omega) | exact q_rg_up (q_rg_up (by assumption) (by omega)) (by omega) | exact q_rg_cpy (by assumption) (by assumption))⟩, by omega⟩
    simp only [I_X12_begin, h2, if_false] at hI
  rintro lv st w' ⟨rfl, rfl, rfl⟩
  exact ⟨_, _, _, rfl, rfl, rfl, rfl, (by first | omega | assumption | exact q_rg_up (by assumption) (by omega) | exact q_rg_up (q_rg_up (by assumption) (by omega)) (by omega) | exact q_rg_cpy (by assumption) (by assumption))⟩

theorem dX12_fines_0 : decode cX12_fines 0 = .ok (.aload_n 0, 1) := by decide +kernel
theorem dX12_fines_1 : decode cX12_fines 1 = .ok (.getfield 44, 3) := by decide +kernel
theorem dX12_fines_4 : decode cX12_fines 4 = .ok (.iload_n 1, 1) := by decide +kernel
theorem dX12_fines_5 : decode cX12_fines 5 = .ok (.iaload, 1) := by decide +kernel
theorem dX12_fines_6 : decode cX12_fines 6 = .ok (.iload_n 2, 1) := by decide +kernel
theorem dX12_fines_7 : decode cX12_fines 7 = .ok (.isub, 1) := by decide +kernel
theorem dX12_fines_8 : decode cX12_fines 8 = .ok (.iconst 1, 1) := by decide +kernel
theorem dX12_fines_9 : decode cX12_fines 9 = .ok (.if_icmp .ge 5, 3) := by decide +kernel
theorem dX12_fines_12 : decode cX12_fines 12 = .ok (.iconst 0, 1) := by decide +kernel
theorem dX12_fines_13 : decode cX12_fines 13 = .ok (.ireturn, 1) := by decide +kernel
theorem dX12_fines_14 : decode cX12_fines 14 = .ok (.aload_n 0, 1) := by decide +kernel
theorem dX12_fines_15 : decode cX12_fines 15 = .ok (.getfield 44, 3) := by decide +kernel
theorem dX12_fines_18 : decode cX12_fines 18 = .ok (.iload_n 1, 1) := by decide +kernel
theorem dX12_fines_19 : decode cX12_fines 19 = .ok (.dup2, 1) := by decide +kernel
theorem dX12_fines_20 : decode cX12_fines 20 = .ok (.iaload, 1) := by decide +kernel
theorem dX12_fines_21 : decode cX12_fines 21 = .ok (.iload_n 2, 1) := by decide +kernel
theorem dX12_fines_22 : decode cX12_fines 22 = .ok (.isub, 1) := by decide +kernel
theorem dX12_fines_23 : decode cX12_fines 23 = .ok (.iastore, 1) := by decide +kernel
theorem dX12_fines_24 : decode cX12_fines 24 = .ok (.aload_n 0, 1) := by decide +kernel
theorem dX12_fines_25 : decode cX12_fines 25 = .ok (.dup, 1) := by decide +kernel
theorem dX12_fines_26 : decode cX12_fines 26 = .ok (.getfield 324, 3) := by decide +kernel
theorem dX12_fines_29 : decode cX12_fines 29 = .ok (.iload_n 2, 1) := by decide +kernel
theorem dX12_fines_30 : decode cX12_fines 30 = .ok (.iadd, 1) := by decide +kernel
theorem dX12_fines_31 : decode cX12_fines 31 = .ok (.putfield 324, 3) := by decide +kernel
theorem dX12_fines_34 : decode cX12_fines 34 = .ok (.iconst 1, 1) := by decide +kernel
theorem dX12_fines_35 : decode cX12_fines 35 = .ok (.ireturn, 1) := by decide +kernel
def is_X12_fines : Nat → List Nat := fun d => []
set_option maxRecDepth 100000 in
def b_X12_fines_34 (J : Nat → List qV → List qV → qW → Prop) (Q : qR) : qK := x_int 1 (x_zret Q)
set_option maxRecDepth 100000 in
theorem s_X12_fines_34 {p : Program} {l : Launch} {e : Env} {R : Room} {s : State} {m : MethodId} {args : Array Value} {below : List Frame} {meth : Method} {c : Code} {nW : Nat} {dC : Nat → ClassId} {dI : Nat → Nat → Nat} {k : Nat → ClassId} {g : Nat → Nat} {A : Nat → Prop} {J : Nat → List qV → List qV → qW → Prop} {Q : qR} (X : q_X p R s m args meth c cX12_fines 3 nW 0 0 RX12 (some .boolean) dC dI k g A) (hJ : ∀ d : Nat, q_Sd p l e R s m args below meth c 3 nW dC dI k g A (MQ below (q_post (dC, dI) k g nW Q A) args s 0 0 A) d (x_cut (is_X12_fines d) (J d))) : q_Sd p l e R s m args below meth c 3 nW dC dI k g A (MQ below (q_post (dC, dI) k g nW Q A) args s 0 0 A) 34 (b_X12_fines_34 J Q) := by
  unfold b_X12_fines_34
  refine s_iconst X ⟨by decide, by decide⟩ dX12_fines_34 ?_
  exact s_zret X dX12_fines_35
set_option maxRecDepth 100000 in
def b_X12_fines_0 (J : Nat → List qV → List qV → qW → Prop) (Q : qR) : qK := x_aload 0 (x_get 12 27 (x_iload 1 (x_iald (x_iload 2 (x_isub (x_int 1 (x_icmp_ge (x_aload 0 (x_get 12 27 (x_iload 1 (x_dup2 (x_iald (x_iload 2 (x_isub (x_iast (x_nw (x_aload 0 (x_dup (x_get 12 28 (x_iload 2 (x_iadd (x_put 12 28 q_oki (x_nw (b_X12_fines_34 J Q))))))))))))))))) (x_int 0 (x_zret Q)))))))))
set_option maxRecDepth 100000 in
theorem s_X12_fines_0 {p : Program} {l : Launch} {e : Env} {R : Room} {s : State} {m : MethodId} {args : Array Value} {below : List Frame} {meth : Method} {c : Code} {nW : Nat} {dC : Nat → ClassId} {dI : Nat → Nat → Nat} {k : Nat → ClassId} {g : Nat → Nat} {A : Nat → Prop} {J : Nat → List qV → List qV → qW → Prop} {Q : qR} (X : q_X p R s m args meth c cX12_fines 3 nW 0 0 RX12 (some .boolean) dC dI k g A) (hJ : ∀ d : Nat, q_Sd p l e R s m args below meth c 3 nW dC dI k g A (MQ below (q_post (dC, dI) k g nW Q A) args s 0 0 A) d (x_cut (is_X12_fines d) (J d))) : q_Sd p l e R s m args below meth c 3 nW dC dI k g A (MQ below (q_post (dC, dI) k g nW Q A) args s 0 0 A) 0 (b_X12_fines_0 J Q) := by
  unfold b_X12_fines_0
  refine s_aload_n X rfl dX12_fines_0 ?_
  refine s_get X (T := TX12) (C := RX12) (N := 45) tu_X12 rfl (by decide) tw_1024 dX12_fines_1 ?_
  refine s_iload_n X rfl dX12_fines_4 ?_
  refine s_iald X dX12_fines_5 ?_
  refine s_iload_n X rfl dX12_fines_6 ?_
  refine s_isub X dX12_fines_7 ?_
  refine s_iconst X ⟨by decide, by decide⟩ dX12_fines_8 ?_
  refine s_icmp_ge X (tgt := 14) dX12_fines_9 (by decide) ?_ ?_
  · refine s_aload_n X rfl dX12_fines_14 ?_
    refine s_get X (T := TX12) (C := RX12) (N := 45) tu_X12 rfl (by decide) tw_1024 dX12_fines_15 ?_
    refine s_iload_n X rfl dX12_fines_18 ?_
    refine s_dup2 X dX12_fines_19 ?_
    refine s_iald X dX12_fines_20 ?_
    refine s_iload_n X rfl dX12_fines_21 ?_
    refine s_isub X dX12_fines_22 ?_
    refine s_iast X dX12_fines_23 ?_
    refine s_nw ?_
    refine s_aload_n X rfl dX12_fines_24 ?_
    refine s_dup X dX12_fines_25 ?_
    refine s_get X (T := TX12) (C := RX12) (N := 45) tu_X12 rfl (by decide) tw_1025 dX12_fines_26 ?_
    refine s_iload_n X rfl dX12_fines_29 ?_
    refine s_iadd X dX12_fines_30 ?_
    refine s_put X (T := TX12) (C := RX12) (N := 45) tu_X12 tyX12_ok nmX12 rfl (by decide) tw_1025 rfl (by decide +kernel) q_oki_t dX12_fines_31 ?_
    refine s_nw ?_
    exact s_X12_fines_34 X hJ
  · refine s_iconst X ⟨by decide, by decide⟩ dX12_fines_12 ?_
    exact s_zret X dX12_fines_13

def sp_X12_fines : qS := fun av w Q => ∃ (mco : Int) (mre : Int) (mle : Int) (mbe : Int) (mso : Int) (mva : Int) (mwo : Int) (mwr : Int) (mlf : Int) (mlp : Int) (mfp : Int) (mfd : Int) (mgo : Int) (mbo : Int) (mpe : Int) (mye : Int) (mpr : Int) (mld : Int) (msi : Int) (mse : Int) (tl : Nat → Int) (a : Int) (b : Int), av = [q2 0, q1 a, q1 b] ∧ w = [.inr (12, [q1 mco, q2 2, q2 3, q2 4, q2 5, q2 6, q2 7, q2 8, q2 9, q2 10, q1 mre, q1 mle, q1 mbe, q1 mso, q1 mva, q3 mwo, q1 mwr, q1 mlf, q1 mlp, q2 11, q2 12, q1 mfp, q1 mfd, q1 mgo, q1 mbo, q1 mpe, q1 mye, q2 1, q1 mpr, q2 13, q2 14, q2 15, q2 16, q1 mld, q2 17, q1 msi, q2 18, q2 19, q2 20, q2 21, q2 22, q1 mse, q2 23, q2 24, q2 25]), .inl (0, 8, .inl tl)] ∧ (0 ≤ a ∧ a ≤ 7) ∧ (∀ (r : Int) (x_tl : Nat → Int) (x_mpr : Int), (r = 0 ∨ r = 1) → Q (some (q1 r)) ([.inr (12, [q1 mco, q2 2, q2 3, q2 4, q2 5, q2 6, q2 7, q2 8, q2 9, q2 10, q1 mre, q1 mle, q1 mbe, q1 mso, q1 mva, q3 mwo, q1 mwr, q1 mlf, q1 mlp, q2 11, q2 12, q1 mfp, q1 mfd, q1 mgo, q1 mbo, q1 mpe, q1 mye, q2 1, q1 x_mpr, q2 13, q2 14, q2 15, q2 16, q1 mld, q2 17, q1 msi, q2 18, q2 19, q2 20, q2 21, q2 22, q1 mse, q2 23, q2 24, q2 25]), .inl (0, 8, .inl x_tl)]))
set_option maxHeartbeats 4000000 in
set_option maxRecDepth 100000 in
theorem m_X12_fines (l : Launch) : q_M l yX12_fines cX12_fines 3 (some .boolean) 0 0 sp_X12_fines := by
  refine q_meth (by decide) (fun av w Q h => by obtain ⟨mco, mre, mle, mbe, mso, mva, mwo, mwr, mlf, mlp, mfp, mfd, mgo, mbo, mpe, mye, mpr, mld, msi, mse, tl, a, b, rfl, rfl, ha, hQ⟩ := h; exact Nat.le_of_ble_eq_true rfl) ?_
  intro p e R s m args below meth c dC dI k g A av w Q hsp oka okw X
  obtain ⟨mco, mre, mle, mbe, mso, mva, mwo, mwr, mlf, mlp, mfp, mfd, mgo, mbo, mpe, mye, mpr, mld, msi, mse, tl, a, b, rfl, rfl, ha, hQ⟩ := hsp
  have o_a : -2147483648 ≤ a ∧ a ≤ 2147483647 := oka _ (List.mem_of_getElem? (i := 1) rfl)
  have o_b : -2147483648 ≤ b ∧ b ≤ 2147483647 := oka _ (List.mem_of_getElem? (i := 2) rfl)
  refine s_mono (s_X12_fines_0 X (J := fun _ _ _ _ => False) (fun d => s_cutF)) ?_
  rintro lv st w' ⟨rfl, rfl, rfl⟩
  apply And.intro
  · exact ⟨by omega, by omega⟩
  intro z5 h5
  intro z7 h7
  first | replace h7 := e_sub h7 (by omega) | replace h7 := e_rng h7
  apply And.intro
  · intro h9
    apply And.intro
    · exact ⟨by omega, by omega⟩
    intro z20 h20
    intro z22 h22
    first | replace h22 := e_sub h22 (by omega) | replace h22 := e_rng h22
    apply And.intro
    · exact ⟨by omega, by omega⟩
    intro z30 h30
    first | replace h30 := e_add h30 (by omega) | replace h30 := e_rng h30
    apply And.intro
    · exact trivial
    apply And.intro
    · first | exact Or.inl rfl | exact Or.inr rfl | omega
    exact hQ _ _ _ (by first | omega | assumption | exact q_rg_up (by assumption) (by omega) | exact q_rg_up (q_rg_up (by assumption) (by omega)) (by omega) | exact q_rg_cpy (by assumption) (by assumption))
  · intro h9
    apply And.intro
    · first | exact Or.inl rfl | exact Or.inr rfl | omega
    exact hQ _ _ _ (by first | omega | assumption | exact q_rg_up (by assumption) (by omega) | exact q_rg_up (q_rg_up (by assumption) (by omega)) (by omega) | exact q_rg_cpy (by assumption) (by assumption))

theorem dX12_bails_0 : decode cX12_bails 0 = .ok (.aload_n 0, 1) := by decide +kernel
theorem dX12_bails_1 : decode cX12_bails 1 = .ok (.bipush 13, 2) := by decide +kernel
theorem dX12_bails_3 : decode cX12_bails 3 = .ok (.iload_n 1, 1) := by decide +kernel
theorem dX12_bails_4 : decode cX12_bails 4 = .ok (.iadd, 1) := by decide +kernel
theorem dX12_bails_5 : decode cX12_bails 5 = .ok (.invokevirtual 299, 3) := by decide +kernel
theorem dX12_bails_8 : decode cX12_bails 8 = .ok (.istore_n 3, 1) := by decide +kernel
theorem dX12_bails_9 : decode cX12_bails 9 = .ok (.iload_n 2, 1) := by decide +kernel
theorem dX12_bails_10 : decode cX12_bails 10 = .ok (.iconst 1, 1) := by decide +kernel
theorem dX12_bails_11 : decode cX12_bails 11 = .ok (.iadd, 1) := by decide +kernel
theorem dX12_bails_12 : decode cX12_bails 12 = .ok (.iconst 2, 1) := by decide +kernel
theorem dX12_bails_13 : decode cX12_bails 13 = .ok (.idiv, 1) := by decide +kernel
theorem dX12_bails_14 : decode cX12_bails 14 = .ok (.istore 4, 2) := by decide +kernel
theorem dX12_bails_16 : decode cX12_bails 16 = .ok (.iload_n 3, 1) := by decide +kernel
theorem dX12_bails_17 : decode cX12_bails 17 = .ok (.iconst (-1), 1) := by decide +kernel
theorem dX12_bails_18 : decode cX12_bails 18 = .ok (.if_icmp .eq 31, 3) := by decide +kernel
theorem dX12_bails_21 : decode cX12_bails 21 = .ok (.aload_n 0, 1) := by decide +kernel
theorem dX12_bails_22 : decode cX12_bails 22 = .ok (.getfield 44, 3) := by decide +kernel
theorem dX12_bails_25 : decode cX12_bails 25 = .ok (.iload_n 3, 1) := by decide +kernel
theorem dX12_bails_26 : decode cX12_bails 26 = .ok (.iaload, 1) := by decide +kernel
theorem dX12_bails_27 : decode cX12_bails 27 = .ok (.iload 4, 2) := by decide +kernel
theorem dX12_bails_29 : decode cX12_bails 29 = .ok (.isub, 1) := by decide +kernel
theorem dX12_bails_30 : decode cX12_bails 30 = .ok (.iconst 1, 1) := by decide +kernel
theorem dX12_bails_31 : decode cX12_bails 31 = .ok (.if_icmp .lt 18, 3) := by decide +kernel
theorem dX12_bails_34 : decode cX12_bails 34 = .ok (.aload_n 0, 1) := by decide +kernel
theorem dX12_bails_35 : decode cX12_bails 35 = .ok (.getfield 44, 3) := by decide +kernel
theorem dX12_bails_38 : decode cX12_bails 38 = .ok (.iload_n 1, 1) := by decide +kernel
theorem dX12_bails_39 : decode cX12_bails 39 = .ok (.iaload, 1) := by decide +kernel
theorem dX12_bails_40 : decode cX12_bails 40 = .ok (.iload_n 2, 1) := by decide +kernel
theorem dX12_bails_41 : decode cX12_bails 41 = .ok (.isub, 1) := by decide +kernel
theorem dX12_bails_42 : decode cX12_bails 42 = .ok (.iload 4, 2) := by decide +kernel
theorem dX12_bails_44 : decode cX12_bails 44 = .ok (.iadd, 1) := by decide +kernel
theorem dX12_bails_45 : decode cX12_bails 45 = .ok (.iconst 1, 1) := by decide +kernel
theorem dX12_bails_46 : decode cX12_bails 46 = .ok (.if_icmp .ge 5, 3) := by decide +kernel
theorem dX12_bails_49 : decode cX12_bails 49 = .ok (.iconst 0, 1) := by decide +kernel
theorem dX12_bails_50 : decode cX12_bails 50 = .ok (.ireturn, 1) := by decide +kernel
theorem dX12_bails_51 : decode cX12_bails 51 = .ok (.aload_n 0, 1) := by decide +kernel
theorem dX12_bails_52 : decode cX12_bails 52 = .ok (.getfield 44, 3) := by decide +kernel
theorem dX12_bails_55 : decode cX12_bails 55 = .ok (.iload_n 3, 1) := by decide +kernel
theorem dX12_bails_56 : decode cX12_bails 56 = .ok (.dup2, 1) := by decide +kernel
theorem dX12_bails_57 : decode cX12_bails 57 = .ok (.iaload, 1) := by decide +kernel
theorem dX12_bails_58 : decode cX12_bails 58 = .ok (.iload 4, 2) := by decide +kernel
theorem dX12_bails_60 : decode cX12_bails 60 = .ok (.isub, 1) := by decide +kernel
theorem dX12_bails_61 : decode cX12_bails 61 = .ok (.iastore, 1) := by decide +kernel
theorem dX12_bails_62 : decode cX12_bails 62 = .ok (.aload_n 0, 1) := by decide +kernel
theorem dX12_bails_63 : decode cX12_bails 63 = .ok (.getfield 44, 3) := by decide +kernel
theorem dX12_bails_66 : decode cX12_bails 66 = .ok (.iload_n 1, 1) := by decide +kernel
theorem dX12_bails_67 : decode cX12_bails 67 = .ok (.dup2, 1) := by decide +kernel
theorem dX12_bails_68 : decode cX12_bails 68 = .ok (.iaload, 1) := by decide +kernel
theorem dX12_bails_69 : decode cX12_bails 69 = .ok (.iload_n 2, 1) := by decide +kernel
theorem dX12_bails_70 : decode cX12_bails 70 = .ok (.iload 4, 2) := by decide +kernel
theorem dX12_bails_72 : decode cX12_bails 72 = .ok (.isub, 1) := by decide +kernel
theorem dX12_bails_73 : decode cX12_bails 73 = .ok (.isub, 1) := by decide +kernel
theorem dX12_bails_74 : decode cX12_bails 74 = .ok (.iastore, 1) := by decide +kernel
theorem dX12_bails_75 : decode cX12_bails 75 = .ok (.aload_n 0, 1) := by decide +kernel
theorem dX12_bails_76 : decode cX12_bails 76 = .ok (.dup, 1) := by decide +kernel
theorem dX12_bails_77 : decode cX12_bails 77 = .ok (.getfield 324, 3) := by decide +kernel
theorem dX12_bails_80 : decode cX12_bails 80 = .ok (.iload_n 2, 1) := by decide +kernel
theorem dX12_bails_81 : decode cX12_bails 81 = .ok (.iadd, 1) := by decide +kernel
theorem dX12_bails_82 : decode cX12_bails 82 = .ok (.putfield 324, 3) := by decide +kernel
theorem dX12_bails_85 : decode cX12_bails 85 = .ok (.iconst 1, 1) := by decide +kernel
theorem dX12_bails_86 : decode cX12_bails 86 = .ok (.ireturn, 1) := by decide +kernel
def is_X12_bails : Nat → List Nat := fun d => []
set_option maxRecDepth 100000 in
def b_X12_bails_81 (J : Nat → List qV → List qV → qW → Prop) (Q : qR) : qK := x_iadd (x_put 12 28 q_oki (x_nw (x_int 1 (x_zret Q))))
set_option maxRecDepth 100000 in
theorem s_X12_bails_81 {p : Program} {l : Launch} {e : Env} {R : Room} {s : State} {m : MethodId} {args : Array Value} {below : List Frame} {meth : Method} {c : Code} {nW : Nat} {dC : Nat → ClassId} {dI : Nat → Nat → Nat} {k : Nat → ClassId} {g : Nat → Nat} {A : Nat → Prop} {J : Nat → List qV → List qV → qW → Prop} {Q : qR} (X : q_X p R s m args meth c cX12_bails 5 nW 1 21 RX12 (some .boolean) dC dI k g A) (hJ : ∀ d : Nat, q_Sd p l e R s m args below meth c 5 nW dC dI k g A (MQ below (q_post (dC, dI) k g nW Q A) args s 0 0 A) d (x_cut (is_X12_bails d) (J d))) : q_Sd p l e R s m args below meth c 5 nW dC dI k g A (MQ below (q_post (dC, dI) k g nW Q A) args s 0 0 A) 81 (b_X12_bails_81 J Q) := by
  unfold b_X12_bails_81
  refine s_iadd X dX12_bails_81 ?_
  refine s_put X (T := TX12) (C := RX12) (N := 45) tu_X12 tyX12_ok nmX12 rfl (by decide) tw_1025 rfl (by decide +kernel) q_oki_t dX12_bails_82 ?_
  refine s_nw ?_
  refine s_iconst X ⟨by decide, by decide⟩ dX12_bails_85 ?_
  exact s_zret X dX12_bails_86
set_option maxRecDepth 100000 in
def b_X12_bails_49 (J : Nat → List qV → List qV → qW → Prop) (Q : qR) : qK := x_int 0 (x_zret Q)
set_option maxRecDepth 100000 in
theorem s_X12_bails_49 {p : Program} {l : Launch} {e : Env} {R : Room} {s : State} {m : MethodId} {args : Array Value} {below : List Frame} {meth : Method} {c : Code} {nW : Nat} {dC : Nat → ClassId} {dI : Nat → Nat → Nat} {k : Nat → ClassId} {g : Nat → Nat} {A : Nat → Prop} {J : Nat → List qV → List qV → qW → Prop} {Q : qR} (X : q_X p R s m args meth c cX12_bails 5 nW 1 21 RX12 (some .boolean) dC dI k g A) (hJ : ∀ d : Nat, q_Sd p l e R s m args below meth c 5 nW dC dI k g A (MQ below (q_post (dC, dI) k g nW Q A) args s 0 0 A) d (x_cut (is_X12_bails d) (J d))) : q_Sd p l e R s m args below meth c 5 nW dC dI k g A (MQ below (q_post (dC, dI) k g nW Q A) args s 0 0 A) 49 (b_X12_bails_49 J Q) := by
  unfold b_X12_bails_49
  refine s_iconst X ⟨by decide, by decide⟩ dX12_bails_49 ?_
  exact s_zret X dX12_bails_50
set_option maxRecDepth 100000 in
def b_X12_bails_35 (J : Nat → List qV → List qV → qW → Prop) (Q : qR) : qK := x_get 12 27 (x_iload 1 (x_iald (x_iload 2 (x_isub (x_iload 4 (x_iadd (x_int 1 (x_icmp_ge (x_aload 0 (x_get 12 27 (x_iload 3 (x_dup2 (x_iald (x_iload 4 (x_isub (x_iast (x_nw (x_aload 0 (x_get 12 27 (x_iload 1 (x_dup2 (x_iald (x_iload 2 (x_iload 4 (x_isub (x_isub (x_iast (x_nw (x_aload 0 (x_dup (x_get 12 28 (x_iload 2 (b_X12_bails_81 J Q))))))))))))))))))))))))) (b_X12_bails_49 J Q)))))))))
set_option maxRecDepth 100000 in
theorem s_X12_bails_35 {p : Program} {l : Launch} {e : Env} {R : Room} {s : State} {m : MethodId} {args : Array Value} {below : List Frame} {meth : Method} {c : Code} {nW : Nat} {dC : Nat → ClassId} {dI : Nat → Nat → Nat} {k : Nat → ClassId} {g : Nat → Nat} {A : Nat → Prop} {J : Nat → List qV → List qV → qW → Prop} {Q : qR} (X : q_X p R s m args meth c cX12_bails 5 nW 1 21 RX12 (some .boolean) dC dI k g A) (hJ : ∀ d : Nat, q_Sd p l e R s m args below meth c 5 nW dC dI k g A (MQ below (q_post (dC, dI) k g nW Q A) args s 0 0 A) d (x_cut (is_X12_bails d) (J d))) : q_Sd p l e R s m args below meth c 5 nW dC dI k g A (MQ below (q_post (dC, dI) k g nW Q A) args s 0 0 A) 35 (b_X12_bails_35 J Q) := by
  unfold b_X12_bails_35
  refine s_get X (T := TX12) (C := RX12) (N := 45) tu_X12 rfl (by decide) tw_1024 dX12_bails_35 ?_
  refine s_iload_n X rfl dX12_bails_38 ?_
  refine s_iald X dX12_bails_39 ?_
  refine s_iload_n X rfl dX12_bails_40 ?_
  refine s_isub X dX12_bails_41 ?_
  refine s_iload X dX12_bails_42 ?_
  refine s_iadd X dX12_bails_44 ?_
  refine s_iconst X ⟨by decide, by decide⟩ dX12_bails_45 ?_
  refine s_icmp_ge X (tgt := 51) dX12_bails_46 (by decide) ?_ ?_
  · refine s_aload_n X rfl dX12_bails_51 ?_
    refine s_get X (T := TX12) (C := RX12) (N := 45) tu_X12 rfl (by decide) tw_1024 dX12_bails_52 ?_
    refine s_iload_n X rfl dX12_bails_55 ?_
    refine s_dup2 X dX12_bails_56 ?_
    refine s_iald X dX12_bails_57 ?_
    refine s_iload X dX12_bails_58 ?_
    refine s_isub X dX12_bails_60 ?_
    refine s_iast X dX12_bails_61 ?_
    refine s_nw ?_
    refine s_aload_n X rfl dX12_bails_62 ?_
    refine s_get X (T := TX12) (C := RX12) (N := 45) tu_X12 rfl (by decide) tw_1024 dX12_bails_63 ?_
    refine s_iload_n X rfl dX12_bails_66 ?_
    refine s_dup2 X dX12_bails_67 ?_
    refine s_iald X dX12_bails_68 ?_
    refine s_iload_n X rfl dX12_bails_69 ?_
    refine s_iload X dX12_bails_70 ?_
    refine s_isub X dX12_bails_72 ?_
    refine s_isub X dX12_bails_73 ?_
    refine s_iast X dX12_bails_74 ?_
    refine s_nw ?_
    refine s_aload_n X rfl dX12_bails_75 ?_
    refine s_dup X dX12_bails_76 ?_
    refine s_get X (T := TX12) (C := RX12) (N := 45) tu_X12 rfl (by decide) tw_1025 dX12_bails_77 ?_
    refine s_iload_n X rfl dX12_bails_80 ?_
    exact s_X12_bails_81 X hJ
  · exact s_X12_bails_49 X hJ
set_option maxRecDepth 100000 in
def b_X12_bails_0 (J : Nat → List qV → List qV → qW → Prop) (Q : qR) : qK := x_aload 0 (x_int 13 (x_iload 1 (x_iadd (x_callr (some 12) 2 spr_X12_of (x_istore 3 (x_iload 2 (x_int 1 (x_iadd (x_int 2 (x_idiv (x_istore 4 (x_iload 3 (x_int (-1) (x_icmp_eq (b_X12_bails_49 J Q) (x_aload 0 (x_get 12 27 (x_iload 3 (x_iald (x_iload 4 (x_isub (x_int 1 (x_icmp_lt (b_X12_bails_49 J Q) (x_aload 0 (b_X12_bails_35 J Q))))))))))))))))))))))))
set_option maxRecDepth 100000 in
theorem s_X12_bails_0 {p : Program} {l : Launch} {e : Env} {R : Room} {s : State} {m : MethodId} {args : Array Value} {below : List Frame} {meth : Method} {c : Code} {nW : Nat} {dC : Nat → ClassId} {dI : Nat → Nat → Nat} {k : Nat → ClassId} {g : Nat → Nat} {A : Nat → Prop} {J : Nat → List qV → List qV → qW → Prop} {Q : qR} (X : q_X p R s m args meth c cX12_bails 5 nW 1 21 RX12 (some .boolean) dC dI k g A) (hJ : ∀ d : Nat, q_Sd p l e R s m args below meth c 5 nW dC dI k g A (MQ below (q_post (dC, dI) k g nW Q A) args s 0 0 A) d (x_cut (is_X12_bails d) (J d))) : q_Sd p l e R s m args below meth c 5 nW dC dI k g A (MQ below (q_post (dC, dI) k g nW Q A) args s 0 0 A) 0 (b_X12_bails_0 J Q) := by
  unfold b_X12_bails_0
  refine s_aload_n X rfl dX12_bails_0 ?_
  refine s_bipush X ⟨by decide, by decide⟩ (by decide) dX12_bails_1 ?_
  refine s_iload_n X rfl dX12_bails_3 ?_
  refine s_iadd X dX12_bails_4 ?_
  refine s_callVr X (m_X12_of l) tw_1189 tw_1190 tw_1603 tw_134 tw_1191 rfl (by decide +kernel) ⟨by decide, by decide⟩ dX12_bails_5 ?_
  refine s_istore_n X rfl (by decide) dX12_bails_8 ?_
  refine s_iload_n X rfl dX12_bails_9 ?_
  refine s_iconst X ⟨by decide, by decide⟩ dX12_bails_10 ?_
  refine s_iadd X dX12_bails_11 ?_
  refine s_iconst X ⟨by decide, by decide⟩ dX12_bails_12 ?_
  refine s_idiv X dX12_bails_13 ?_
  refine s_istore X (by decide) dX12_bails_14 ?_
  refine s_iload_n X rfl dX12_bails_16 ?_
  refine s_iconst X ⟨by decide, by decide⟩ dX12_bails_17 ?_
  refine s_icmp_eq X (tgt := 49) dX12_bails_18 (by decide) ?_ ?_
  · exact s_X12_bails_49 X hJ
  · refine s_aload_n X rfl dX12_bails_21 ?_
    refine s_get X (T := TX12) (C := RX12) (N := 45) tu_X12 rfl (by decide) tw_1024 dX12_bails_22 ?_
    refine s_iload_n X rfl dX12_bails_25 ?_
    refine s_iald X dX12_bails_26 ?_
    refine s_iload X dX12_bails_27 ?_
    refine s_isub X dX12_bails_29 ?_
    refine s_iconst X ⟨by decide, by decide⟩ dX12_bails_30 ?_
    refine s_icmp_lt X (tgt := 49) dX12_bails_31 (by decide) ?_ ?_
    · exact s_X12_bails_49 X hJ
    · refine s_aload_n X rfl dX12_bails_34 ?_
      exact s_X12_bails_35 X hJ

def sp_X12_bails : qS := fun av w Q => ∃ (mco : Int) (mre : Int) (mle : Int) (mbe : Int) (mso : Int) (mva : Int) (mwo : Int) (mwr : Int) (mlf : Int) (mlp : Int) (mfp : Int) (mfd : Int) (mgo : Int) (mbo : Int) (mpe : Int) (mye : Int) (mpr : Int) (mld : Int) (msi : Int) (mse : Int) (tl : Nat → Int) (bs : Nat → Int) (a : Int) (b : Int), av = [q2 0, q1 a, q1 b] ∧ w = [.inr (12, [q1 mco, q2 3, q2 4, q2 5, q2 6, q2 7, q2 2, q2 8, q2 9, q2 10, q1 mre, q1 mle, q1 mbe, q1 mso, q1 mva, q3 mwo, q1 mwr, q1 mlf, q1 mlp, q2 11, q2 12, q1 mfp, q1 mfd, q1 mgo, q1 mbo, q1 mpe, q1 mye, q2 1, q1 mpr, q2 13, q2 14, q2 15, q2 16, q1 mld, q2 17, q1 msi, q2 18, q2 19, q2 20, q2 21, q2 22, q1 mse, q2 23, q2 24, q2 25]), .inl (0, 8, .inl tl), .inl (0, 600, .inl bs)] ∧ (0 ≤ mbo ∧ mbo ≤ 1) ∧ (BI bs) ∧ (0 ≤ a ∧ a ≤ 7) ∧ (∀ (r : Int) (x_tl : Nat → Int) (x_mpr : Int), (r = 0 ∨ r = 1) → Q (some (q1 r)) ([.inr (12, [q1 mco, q2 3, q2 4, q2 5, q2 6, q2 7, q2 2, q2 8, q2 9, q2 10, q1 mre, q1 mle, q1 mbe, q1 mso, q1 mva, q3 mwo, q1 mwr, q1 mlf, q1 mlp, q2 11, q2 12, q1 mfp, q1 mfd, q1 mgo, q1 mbo, q1 mpe, q1 mye, q2 1, q1 x_mpr, q2 13, q2 14, q2 15, q2 16, q1 mld, q2 17, q1 msi, q2 18, q2 19, q2 20, q2 21, q2 22, q1 mse, q2 23, q2 24, q2 25]), .inl (0, 8, .inl x_tl), .inl (0, 600, .inl bs)]))
set_option maxHeartbeats 4000000 in
set_option maxRecDepth 100000 in
theorem m_X12_bails (l : Launch) : q_M l yX12_bails cX12_bails 5 (some .boolean) 1 21 sp_X12_bails := by
  refine q_meth (by decide) (fun av w Q h => by obtain ⟨mco, mre, mle, mbe, mso, mva, mwo, mwr, mlf, mlp, mfp, mfd, mgo, mbo, mpe, mye, mpr, mld, msi, mse, tl, bs, a, b, rfl, rfl, hbo, hbi, ha, hQ⟩ := h; exact Nat.le_of_ble_eq_true rfl) ?_
  intro p e R s m args below meth c dC dI k g A av w Q hsp oka okw X
  obtain ⟨mco, mre, mle, mbe, mso, mva, mwo, mwr, mlf, mlp, mfp, mfd, mgo, mbo, mpe, mye, mpr, mld, msi, mse, tl, bs, a, b, rfl, rfl, hbo, hbi, ha, hQ⟩ := hsp
  have o_a : -2147483648 ≤ a ∧ a ≤ 2147483647 := oka _ (List.mem_of_getElem? (i := 1) rfl)
  have o_b : -2147483648 ≤ b ∧ b ≤ 2147483647 := oka _ (List.mem_of_getElem? (i := 2) rfl)
  refine s_mono (s_X12_bails_0 X (J := fun _ _ _ _ => False) (fun d => s_cutF)) ?_
  rintro lv st w' ⟨rfl, rfl, rfl⟩
  intro z4 h4
  first | replace h4 := e_add h4 (by omega) | replace h4 := e_rng h4
  refine Exists.intro [0, 2, 3, 4, 5, 6, 7, 8, 9, 10, 11, 12, 1, 13, 14, 15, 16, 17, 18, 19, 20, 21, 22, 23, 24, 25] (Exists.intro [q2 0, q1 _] (Exists.intro ([.inr (12, [q1 _, q2 2, q2 3, q2 4, q2 5, q2 6, q2 1, q2 7, q2 8, q2 9, q1 _, q1 _, q1 _, q1 _, q1 _, q3 _, q1 _, q1 _, q1 _, q2 10, q2 11, q1 _, q1 _, q1 _, q1 _, q1 _, q1 _, q2 12, q1 _, q2 13, q2 14, q2 15, q2 16, q1 _, q2 17, q1 _, q2 18, q2 19, q2 20, q2 21, q2 22, q1 _, q2 23, q2 24, q2 25]), .inl (0, 600, .inl _)]) (And.intro rfl (And.intro rfl (And.intro rfl (And.intro ⟨⟨_, rfl⟩, rfl⟩ ?_))))))
  refine Exists.intro _ (Exists.intro _ (Exists.intro _ (Exists.intro _ (Exists.intro _ (Exists.intro _ (Exists.intro _ (Exists.intro _ (Exists.intro _ (Exists.intro _ (Exists.intro _ (Exists.intro _ (Exists.intro _ (Exists.intro _ (Exists.intro _ (Exists.intro _ (Exists.intro _ (Exists.intro _ (Exists.intro _ (Exists.intro _ (Exists.intro _ (Exists.intro _ (And.intro rfl (And.intro rfl (And.intro (by first | omega | assumption | exact q_rg_up (by assumption) (by omega) | exact q_rg_up (q_rg_up (by assumption) (by omega)) (by omega) | exact q_rg_cpy (by assumption) (by assumption)) (And.intro (by first | omega | assumption | exact q_rg_up (by assumption) (by omega) | exact q_rg_up (q_rg_up (by assumption) (by omega)) (by omega) | exact q_rg_cpy (by assumption) (by assumption)) (And.intro (by first | omega | assumption | exact q_rg_up (by assumption) (by omega) | exact q_rg_up (q_rg_up (by assumption) (by omega)) (by omega) | exact q_rg_cpy (by assumption) (by assumption)) (?_)))))))))))))))))))))))))))
  intro z5 h5
  obtain ⟨h5, k5⟩ := h5
  first | replace k5 := OFQ_13 k5 (by omega) | replace k5 := OFQ_21 k5 (by omega) | clear k5
  intro z11 h11
  first | replace h11 := e_add h11 (by omega) | replace h11 := e_rng h11
  apply And.intro
  · first | omega | (intro e9; omega)
  intro z13 h13
  first | replace h13 := e_div h13 (by omega) (by omega) | replace h13 := e_rng h13
  apply And.intro
  · intro h18
    apply And.intro
    · first | exact Or.inl rfl | exact Or.inr rfl | omega
    exact hQ _ _ _ (by first | omega | assumption | exact q_rg_up (by assumption) (by omega) | exact q_rg_up (q_rg_up (by assumption) (by omega)) (by omega) | exact q_rg_cpy (by assumption) (by assumption))
  · intro h18
    apply And.intro
    · exact ⟨by omega, by omega⟩
    intro z26 h26
    intro z29 h29
    first | replace h29 := e_sub h29 (by omega) | replace h29 := e_rng h29
    apply And.intro
    · intro h31
      apply And.intro
      · first | exact Or.inl rfl | exact Or.inr rfl | omega
      exact hQ _ _ _ (by first | omega | assumption | exact q_rg_up (by assumption) (by omega) | exact q_rg_up (q_rg_up (by assumption) (by omega)) (by omega) | exact q_rg_cpy (by assumption) (by assumption))
    · intro h31
      apply And.intro
      · exact ⟨by omega, by omega⟩
      intro z39 h39
      intro z41 h41
      first | replace h41 := e_sub h41 (by omega) | replace h41 := e_rng h41
      intro z44 h44
      first | replace h44 := e_add h44 (by omega) | replace h44 := e_rng h44
      apply And.intro
      · intro h46
        apply And.intro
        · exact ⟨by omega, by omega⟩
        intro z57 h57
        intro z60 h60
        first | replace h60 := e_sub h60 (by omega) | replace h60 := e_rng h60
        apply And.intro
        · exact ⟨by omega, by omega⟩
        apply And.intro
        · exact ⟨by omega, by omega⟩
        intro z68 h68
        intro z72 h72
        first | replace h72 := e_sub h72 (by omega) | replace h72 := e_rng h72
        intro z73 h73
        first | replace h73 := e_sub h73 (by omega) | replace h73 := e_rng h73
        apply And.intro
        · exact ⟨by omega, by omega⟩
        intro z81 h81
        first | replace h81 := e_add h81 (by omega) | replace h81 := e_rng h81
        apply And.intro
        · exact trivial
        apply And.intro
        · first | exact Or.inl rfl | exact Or.inr rfl | omega
        exact hQ _ _ _ (by first | omega | assumption | exact q_rg_up (by assumption) (by omega) | exact q_rg_up (q_rg_up (by assumption) (by omega)) (by omega) | exact q_rg_cpy (by assumption) (by assumption))
      · intro h46
        apply And.intro
        · first | exact Or.inl rfl | exact Or.inr rfl | omega
        exact hQ _ _ _ (by first | omega | assumption | exact q_rg_up (by assumption) (by omega) | exact q_rg_up (q_rg_up (by assumption) (by omega)) (by omega) | exact q_rg_cpy (by assumption) (by assumption))

theorem dX12_gives_0 : decode cX12_gives 0 = .ok (.aload_n 0, 1) := by decide +kernel
theorem dX12_gives_1 : decode cX12_gives 1 = .ok (.iconst 1, 1) := by decide +kernel
theorem dX12_gives_2 : decode cX12_gives 2 = .ok (.invokevirtual 299, 3) := by decide +kernel
theorem dX12_gives_5 : decode cX12_gives 5 = .ok (.iload_n 1, 1) := by decide +kernel
theorem dX12_gives_6 : decode cX12_gives 6 = .ok (.invokestatic 92, 3) := by decide +kernel
theorem dX12_gives_9 : decode cX12_gives 9 = .ok (.ifCond .eq 24, 3) := by decide +kernel
theorem dX12_gives_12 : decode cX12_gives 12 = .ok (.aload_n 0, 1) := by decide +kernel
theorem dX12_gives_13 : decode cX12_gives 13 = .ok (.getfield 324, 3) := by decide +kernel
theorem dX12_gives_16 : decode cX12_gives 16 = .ok (.iload_n 2, 1) := by decide +kernel
theorem dX12_gives_17 : decode cX12_gives 17 = .ok (.if_icmp .lt 16, 3) := by decide +kernel
theorem dX12_gives_20 : decode cX12_gives 20 = .ok (.aload_n 0, 1) := by decide +kernel
theorem dX12_gives_21 : decode cX12_gives 21 = .ok (.getfield 44, 3) := by decide +kernel
theorem dX12_gives_24 : decode cX12_gives 24 = .ok (.iload_n 1, 1) := by decide +kernel
theorem dX12_gives_25 : decode cX12_gives 25 = .ok (.iaload, 1) := by decide +kernel
theorem dX12_gives_26 : decode cX12_gives 26 = .ok (.iload_n 2, 1) := by decide +kernel
theorem dX12_gives_27 : decode cX12_gives 27 = .ok (.iadd, 1) := by decide +kernel
theorem dX12_gives_28 : decode cX12_gives 28 = .ok (.bipush 99, 2) := by decide +kernel
theorem dX12_gives_30 : decode cX12_gives 30 = .ok (.if_icmp .le 5, 3) := by decide +kernel
theorem dX12_gives_33 : decode cX12_gives 33 = .ok (.iconst 0, 1) := by decide +kernel
theorem dX12_gives_34 : decode cX12_gives 34 = .ok (.ireturn, 1) := by decide +kernel
theorem dX12_gives_35 : decode cX12_gives 35 = .ok (.aload_n 0, 1) := by decide +kernel
theorem dX12_gives_36 : decode cX12_gives 36 = .ok (.getfield 44, 3) := by decide +kernel
theorem dX12_gives_39 : decode cX12_gives 39 = .ok (.iload_n 1, 1) := by decide +kernel
theorem dX12_gives_40 : decode cX12_gives 40 = .ok (.dup2, 1) := by decide +kernel
theorem dX12_gives_41 : decode cX12_gives 41 = .ok (.iaload, 1) := by decide +kernel
theorem dX12_gives_42 : decode cX12_gives 42 = .ok (.iload_n 2, 1) := by decide +kernel
theorem dX12_gives_43 : decode cX12_gives 43 = .ok (.iadd, 1) := by decide +kernel
theorem dX12_gives_44 : decode cX12_gives 44 = .ok (.iastore, 1) := by decide +kernel
theorem dX12_gives_45 : decode cX12_gives 45 = .ok (.aload_n 0, 1) := by decide +kernel
theorem dX12_gives_46 : decode cX12_gives 46 = .ok (.dup, 1) := by decide +kernel
theorem dX12_gives_47 : decode cX12_gives 47 = .ok (.getfield 324, 3) := by decide +kernel
theorem dX12_gives_50 : decode cX12_gives 50 = .ok (.iload_n 2, 1) := by decide +kernel
theorem dX12_gives_51 : decode cX12_gives 51 = .ok (.isub, 1) := by decide +kernel
theorem dX12_gives_52 : decode cX12_gives 52 = .ok (.putfield 324, 3) := by decide +kernel
theorem dX12_gives_55 : decode cX12_gives 55 = .ok (.iconst 1, 1) := by decide +kernel
theorem dX12_gives_56 : decode cX12_gives 56 = .ok (.ireturn, 1) := by decide +kernel
def is_X12_gives : Nat → List Nat := fun d => []
set_option maxRecDepth 100000 in
def b_X12_gives_33 (J : Nat → List qV → List qV → qW → Prop) (Q : qR) : qK := x_int 0 (x_zret Q)
set_option maxRecDepth 100000 in
theorem s_X12_gives_33 {p : Program} {l : Launch} {e : Env} {R : Room} {s : State} {m : MethodId} {args : Array Value} {below : List Frame} {meth : Method} {c : Code} {nW : Nat} {dC : Nat → ClassId} {dI : Nat → Nat → Nat} {k : Nat → ClassId} {g : Nat → Nat} {A : Nat → Prop} {J : Nat → List qV → List qV → qW → Prop} {Q : qR} (X : q_X p R s m args meth c cX12_gives 3 nW 1 21 RX12 (some .boolean) dC dI k g A) (hJ : ∀ d : Nat, q_Sd p l e R s m args below meth c 3 nW dC dI k g A (MQ below (q_post (dC, dI) k g nW Q A) args s 0 0 A) d (x_cut (is_X12_gives d) (J d))) : q_Sd p l e R s m args below meth c 3 nW dC dI k g A (MQ below (q_post (dC, dI) k g nW Q A) args s 0 0 A) 33 (b_X12_gives_33 J Q) := by
  unfold b_X12_gives_33
  refine s_iconst X ⟨by decide, by decide⟩ dX12_gives_33 ?_
  exact s_zret X dX12_gives_34
set_option maxRecDepth 100000 in
def b_X12_gives_0 (J : Nat → List qV → List qV → qW → Prop) (Q : qR) : qK := x_aload 0 (x_int 1 (x_callr (some 12) 2 spr_X12_of (x_iload 1 (x_callr none 2 spr_X12_has (x_if_eq (b_X12_gives_33 J Q) (x_aload 0 (x_get 12 28 (x_iload 2 (x_icmp_lt (b_X12_gives_33 J Q) (x_aload 0 (x_get 12 27 (x_iload 1 (x_iald (x_iload 2 (x_iadd (x_int 99 (x_icmp_le (x_aload 0 (x_get 12 27 (x_iload 1 (x_dup2 (x_iald (x_iload 2 (x_iadd (x_iast (x_nw (x_aload 0 (x_dup (x_get 12 28 (x_iload 2 (x_isub (x_put 12 28 q_oki (x_nw (x_int 1 (x_zret Q)))))))))))))))))) (b_X12_gives_33 J Q))))))))))))))))))
set_option maxRecDepth 100000 in
theorem s_X12_gives_0 {p : Program} {l : Launch} {e : Env} {R : Room} {s : State} {m : MethodId} {args : Array Value} {below : List Frame} {meth : Method} {c : Code} {nW : Nat} {dC : Nat → ClassId} {dI : Nat → Nat → Nat} {k : Nat → ClassId} {g : Nat → Nat} {A : Nat → Prop} {J : Nat → List qV → List qV → qW → Prop} {Q : qR} (X : q_X p R s m args meth c cX12_gives 3 nW 1 21 RX12 (some .boolean) dC dI k g A) (hJ : ∀ d : Nat, q_Sd p l e R s m args below meth c 3 nW dC dI k g A (MQ below (q_post (dC, dI) k g nW Q A) args s 0 0 A) d (x_cut (is_X12_gives d) (J d))) : q_Sd p l e R s m args below meth c 3 nW dC dI k g A (MQ below (q_post (dC, dI) k g nW Q A) args s 0 0 A) 0 (b_X12_gives_0 J Q) := by
  unfold b_X12_gives_0
  refine s_aload_n X rfl dX12_gives_0 ?_
  refine s_iconst X ⟨by decide, by decide⟩ dX12_gives_1 ?_
  refine s_callVr X (m_X12_of l) tw_1189 tw_1190 tw_1603 tw_134 tw_1191 rfl (by decide +kernel) ⟨by decide, by decide⟩ dX12_gives_2 ?_
  refine s_iload_n X rfl dX12_gives_5 ?_
  refine s_callSr X (m_X12_has l) tw_1233 tw_1234 tw_134 tw_1235 (by decide +kernel) ⟨by decide, by decide⟩ dX12_gives_6 ?_
  refine s_if_eq X (tgt := 33) dX12_gives_9 (by decide) ?_ ?_
  · exact s_X12_gives_33 X hJ
  · refine s_aload_n X rfl dX12_gives_12 ?_
    refine s_get X (T := TX12) (C := RX12) (N := 45) tu_X12 rfl (by decide) tw_1025 dX12_gives_13 ?_
    refine s_iload_n X rfl dX12_gives_16 ?_
    refine s_icmp_lt X (tgt := 33) dX12_gives_17 (by decide) ?_ ?_
    · exact s_X12_gives_33 X hJ
    · refine s_aload_n X rfl dX12_gives_20 ?_
      refine s_get X (T := TX12) (C := RX12) (N := 45) tu_X12 rfl (by decide) tw_1024 dX12_gives_21 ?_
      refine s_iload_n X rfl dX12_gives_24 ?_
      refine s_iald X dX12_gives_25 ?_
      refine s_iload_n X rfl dX12_gives_26 ?_
      refine s_iadd X dX12_gives_27 ?_
      refine s_bipush X ⟨by decide, by decide⟩ (by decide) dX12_gives_28 ?_
      refine s_icmp_le X (tgt := 35) dX12_gives_30 (by decide) ?_ ?_
      · refine s_aload_n X rfl dX12_gives_35 ?_
        refine s_get X (T := TX12) (C := RX12) (N := 45) tu_X12 rfl (by decide) tw_1024 dX12_gives_36 ?_
        refine s_iload_n X rfl dX12_gives_39 ?_
        refine s_dup2 X dX12_gives_40 ?_
        refine s_iald X dX12_gives_41 ?_
        refine s_iload_n X rfl dX12_gives_42 ?_
        refine s_iadd X dX12_gives_43 ?_
        refine s_iast X dX12_gives_44 ?_
        refine s_nw ?_
        refine s_aload_n X rfl dX12_gives_45 ?_
        refine s_dup X dX12_gives_46 ?_
        refine s_get X (T := TX12) (C := RX12) (N := 45) tu_X12 rfl (by decide) tw_1025 dX12_gives_47 ?_
        refine s_iload_n X rfl dX12_gives_50 ?_
        refine s_isub X dX12_gives_51 ?_
        refine s_put X (T := TX12) (C := RX12) (N := 45) tu_X12 tyX12_ok nmX12 rfl (by decide) tw_1025 rfl (by decide +kernel) q_oki_t dX12_gives_52 ?_
        refine s_nw ?_
        refine s_iconst X ⟨by decide, by decide⟩ dX12_gives_55 ?_
        exact s_zret X dX12_gives_56
      · exact s_X12_gives_33 X hJ

def sp_X12_gives : qS := fun av w Q => ∃ (mco : Int) (mre : Int) (mle : Int) (mbe : Int) (mso : Int) (mva : Int) (mwo : Int) (mwr : Int) (mlf : Int) (mlp : Int) (mfp : Int) (mfd : Int) (mgo : Int) (mbo : Int) (mpe : Int) (mye : Int) (mpr : Int) (mld : Int) (msi : Int) (mse : Int) (tl : Nat → Int) (bs : Nat → Int) (a : Int) (b : Int), av = [q2 0, q1 a, q1 b] ∧ w = [.inr (12, [q1 mco, q2 3, q2 4, q2 5, q2 6, q2 7, q2 2, q2 8, q2 9, q2 10, q1 mre, q1 mle, q1 mbe, q1 mso, q1 mva, q3 mwo, q1 mwr, q1 mlf, q1 mlp, q2 11, q2 12, q1 mfp, q1 mfd, q1 mgo, q1 mbo, q1 mpe, q1 mye, q2 1, q1 mpr, q2 13, q2 14, q2 15, q2 16, q1 mld, q2 17, q1 msi, q2 18, q2 19, q2 20, q2 21, q2 22, q1 mse, q2 23, q2 24, q2 25]), .inl (0, 8, .inl tl), .inl (0, 600, .inl bs)] ∧ (0 ≤ mbo ∧ mbo ≤ 1) ∧ (BI bs) ∧ (0 ≤ a ∧ a ≤ 7) ∧ (∀ (r : Int) (x_tl : Nat → Int) (x_mpr : Int), (r = 0 ∨ r = 1) → Q (some (q1 r)) ([.inr (12, [q1 mco, q2 3, q2 4, q2 5, q2 6, q2 7, q2 2, q2 8, q2 9, q2 10, q1 mre, q1 mle, q1 mbe, q1 mso, q1 mva, q3 mwo, q1 mwr, q1 mlf, q1 mlp, q2 11, q2 12, q1 mfp, q1 mfd, q1 mgo, q1 mbo, q1 mpe, q1 mye, q2 1, q1 x_mpr, q2 13, q2 14, q2 15, q2 16, q1 mld, q2 17, q1 msi, q2 18, q2 19, q2 20, q2 21, q2 22, q1 mse, q2 23, q2 24, q2 25]), .inl (0, 8, .inl x_tl), .inl (0, 600, .inl bs)]))
set_option maxHeartbeats 4000000 in
set_option maxRecDepth 100000 in
theorem m_X12_gives (l : Launch) : q_M l yX12_gives cX12_gives 3 (some .boolean) 1 21 sp_X12_gives := by
  refine q_meth (by decide) (fun av w Q h => by obtain ⟨mco, mre, mle, mbe, mso, mva, mwo, mwr, mlf, mlp, mfp, mfd, mgo, mbo, mpe, mye, mpr, mld, msi, mse, tl, bs, a, b, rfl, rfl, hbo, hbi, ha, hQ⟩ := h; exact Nat.le_of_ble_eq_true rfl) ?_
  intro p e R s m args below meth c dC dI k g A av w Q hsp oka okw X
  obtain ⟨mco, mre, mle, mbe, mso, mva, mwo, mwr, mlf, mlp, mfp, mfd, mgo, mbo, mpe, mye, mpr, mld, msi, mse, tl, bs, a, b, rfl, rfl, hbo, hbi, ha, hQ⟩ := hsp
  have o_a : -2147483648 ≤ a ∧ a ≤ 2147483647 := oka _ (List.mem_of_getElem? (i := 1) rfl)
  have o_b : -2147483648 ≤ b ∧ b ≤ 2147483647 := oka _ (List.mem_of_getElem? (i := 2) rfl)
  refine s_mono (s_X12_gives_0 X (J := fun _ _ _ _ => False) (fun d => s_cutF)) ?_
  rintro lv st w' ⟨rfl, rfl, rfl⟩
  refine Exists.intro [0, 2, 3, 4, 5, 6, 7, 8, 9, 10, 11, 12, 1, 13, 14, 15, 16, 17, 18, 19, 20, 21, 22, 23, 24, 25] (Exists.intro [q2 0, q1 _] (Exists.intro ([.inr (12, [q1 _, q2 2, q2 3, q2 4, q2 5, q2 6, q2 1, q2 7, q2 8, q2 9, q1 _, q1 _, q1 _, q1 _, q1 _, q3 _, q1 _, q1 _, q1 _, q2 10, q2 11, q1 _, q1 _, q1 _, q1 _, q1 _, q1 _, q2 12, q1 _, q2 13, q2 14, q2 15, q2 16, q1 _, q2 17, q1 _, q2 18, q2 19, q2 20, q2 21, q2 22, q1 _, q2 23, q2 24, q2 25]), .inl (0, 600, .inl _)]) (And.intro rfl (And.intro rfl (And.intro rfl (And.intro ⟨⟨_, rfl⟩, rfl⟩ ?_))))))
  refine Exists.intro _ (Exists.intro _ (Exists.intro _ (Exists.intro _ (Exists.intro _ (Exists.intro _ (Exists.intro _ (Exists.intro _ (Exists.intro _ (Exists.intro _ (Exists.intro _ (Exists.intro _ (Exists.intro _ (Exists.intro _ (Exists.intro _ (Exists.intro _ (Exists.intro _ (Exists.intro _ (Exists.intro _ (Exists.intro _ (Exists.intro _ (Exists.intro _ (And.intro rfl (And.intro rfl (And.intro (by first | omega | assumption | exact q_rg_up (by assumption) (by omega) | exact q_rg_up (q_rg_up (by assumption) (by omega)) (by omega) | exact q_rg_cpy (by assumption) (by assumption)) (And.intro (by first | omega | assumption | exact q_rg_up (by assumption) (by omega) | exact q_rg_up (q_rg_up (by assumption) (by omega)) (by omega) | exact q_rg_cpy (by assumption) (by assumption)) (And.intro (by first | omega | assumption | exact q_rg_up (by assumption) (by omega) | exact q_rg_up (q_rg_up (by assumption) (by omega)) (by omega) | exact q_rg_cpy (by assumption) (by assumption)) (?_)))))))))))))))))))))))))))
  intro z2 h2
  obtain ⟨h2, k2⟩ := h2
  clear k2
  refine Exists.intro [] (Exists.intro [q1 _, q1 _] (Exists.intro [] (And.intro rfl (And.intro rfl (And.intro rfl (And.intro trivial ?_))))))
  refine Exists.intro _ (Exists.intro _ (And.intro rfl (And.intro rfl (?_))))
  intro z6 h6
  apply And.intro
  · intro h9
    apply And.intro
    · first | exact Or.inl rfl | exact Or.inr rfl | omega
    exact hQ _ _ _ (by first | omega | assumption | exact q_rg_up (by assumption) (by omega) | exact q_rg_up (q_rg_up (by assumption) (by omega)) (by omega) | exact q_rg_cpy (by assumption) (by assumption))
  · intro h9
    apply And.intro
    · intro h17
      apply And.intro
      · first | exact Or.inl rfl | exact Or.inr rfl | omega
      exact hQ _ _ _ (by first | omega | assumption | exact q_rg_up (by assumption) (by omega) | exact q_rg_up (q_rg_up (by assumption) (by omega)) (by omega) | exact q_rg_cpy (by assumption) (by assumption))
    · intro h17
      apply And.intro
      · exact ⟨by omega, by omega⟩
      intro z25 h25
      intro z27 h27
      first | replace h27 := e_add h27 (by omega) | replace h27 := e_rng h27
      apply And.intro
      · intro h30
        apply And.intro
        · exact ⟨by omega, by omega⟩
        intro z41 h41
        intro z43 h43
        first | replace h43 := e_add h43 (by omega) | replace h43 := e_rng h43
        apply And.intro
        · exact ⟨by omega, by omega⟩
        intro z51 h51
        first | replace h51 := e_sub h51 (by omega) | replace h51 := e_rng h51
        apply And.intro
        · exact trivial
        apply And.intro
        · first | exact Or.inl rfl | exact Or.inr rfl | omega
        exact hQ _ _ _ (by first | omega | assumption | exact q_rg_up (by assumption) (by omega) | exact q_rg_up (q_rg_up (by assumption) (by omega)) (by omega) | exact q_rg_cpy (by assumption) (by assumption))
      · intro h30
        apply And.intro
        · first | exact Or.inl rfl | exact Or.inr rfl | omega
        exact hQ _ _ _ (by first | omega | assumption | exact q_rg_up (by assumption) (by omega) | exact q_rg_up (q_rg_up (by assumption) (by omega)) (by omega) | exact q_rg_cpy (by assumption) (by assumption))

theorem dX12_stretches_0 : decode cX12_stretches 0 = .ok (.aload_n 0, 1) := by decide +kernel
theorem dX12_stretches_1 : decode cX12_stretches 1 = .ok (.getfield 44, 3) := by decide +kernel
theorem dX12_stretches_4 : decode cX12_stretches 4 = .ok (.iload_n 1, 1) := by decide +kernel
theorem dX12_stretches_5 : decode cX12_stretches 5 = .ok (.dup2, 1) := by decide +kernel
theorem dX12_stretches_6 : decode cX12_stretches 6 = .ok (.iaload, 1) := by decide +kernel
theorem dX12_stretches_7 : decode cX12_stretches 7 = .ok (.iconst 0, 1) := by decide +kernel
theorem dX12_stretches_8 : decode cX12_stretches 8 = .ok (.iload_n 2, 1) := by decide +kernel
theorem dX12_stretches_9 : decode cX12_stretches 9 = .ok (.aload_n 0, 1) := by decide +kernel
theorem dX12_stretches_10 : decode cX12_stretches 10 = .ok (.iconst 5, 1) := by decide +kernel
theorem dX12_stretches_11 : decode cX12_stretches 11 = .ok (.iload_n 1, 1) := by decide +kernel
theorem dX12_stretches_12 : decode cX12_stretches 12 = .ok (.iadd, 1) := by decide +kernel
theorem dX12_stretches_13 : decode cX12_stretches 13 = .ok (.invokevirtual 299, 3) := by decide +kernel
theorem dX12_stretches_16 : decode cX12_stretches 16 = .ok (.aload_n 0, 1) := by decide +kernel
theorem dX12_stretches_17 : decode cX12_stretches 17 = .ok (.getfield 44, 3) := by decide +kernel
theorem dX12_stretches_20 : decode cX12_stretches 20 = .ok (.iload_n 1, 1) := by decide +kernel
theorem dX12_stretches_21 : decode cX12_stretches 21 = .ok (.iaload, 1) := by decide +kernel
theorem dX12_stretches_22 : decode cX12_stretches 22 = .ok (.isub, 1) := by decide +kernel
theorem dX12_stretches_23 : decode cX12_stretches 23 = .ok (.invokestatic 327, 3) := by decide +kernel
theorem dX12_stretches_26 : decode cX12_stretches 26 = .ok (.invokestatic 162, 3) := by decide +kernel
theorem dX12_stretches_29 : decode cX12_stretches 29 = .ok (.iadd, 1) := by decide +kernel
theorem dX12_stretches_30 : decode cX12_stretches 30 = .ok (.iastore, 1) := by decide +kernel
theorem dX12_stretches_31 : decode cX12_stretches 31 = .ok (.return_, 1) := by decide +kernel
def is_X12_stretches : Nat → List Nat := fun d => []
set_option maxRecDepth 100000 in
def b_X12_stretches_0 (J : Nat → List qV → List qV → qW → Prop) (Q : qR) : qK := x_aload 0 (x_get 12 27 (x_iload 1 (x_dup2 (x_iald (x_int 0 (x_iload 2 (x_aload 0 (x_int 5 (x_iload 1 (x_iadd (x_callr (some 12) 2 spr_X12_of (x_aload 0 (x_get 12 27 (x_iload 1 (x_iald (x_isub (x_callr none 2 spr_X12_lesser (x_callr none 2 spr_X12_greater (x_iadd (x_iast (x_nw (x_vret Q))))))))))))))))))))))
set_option maxRecDepth 100000 in
theorem s_X12_stretches_0 {p : Program} {l : Launch} {e : Env} {R : Room} {s : State} {m : MethodId} {args : Array Value} {below : List Frame} {meth : Method} {c : Code} {nW : Nat} {dC : Nat → ClassId} {dI : Nat → Nat → Nat} {k : Nat → ClassId} {g : Nat → Nat} {A : Nat → Prop} {J : Nat → List qV → List qV → qW → Prop} {Q : qR} (X : q_X p R s m args meth c cX12_stretches 3 nW 1 21 RX12 none dC dI k g A) (hJ : ∀ d : Nat, q_Sd p l e R s m args below meth c 3 nW dC dI k g A (MQ below (q_post (dC, dI) k g nW Q A) args s 0 0 A) d (x_cut (is_X12_stretches d) (J d))) : q_Sd p l e R s m args below meth c 3 nW dC dI k g A (MQ below (q_post (dC, dI) k g nW Q A) args s 0 0 A) 0 (b_X12_stretches_0 J Q) := by
  unfold b_X12_stretches_0
  refine s_aload_n X rfl dX12_stretches_0 ?_
  refine s_get X (T := TX12) (C := RX12) (N := 45) tu_X12 rfl (by decide) tw_1024 dX12_stretches_1 ?_
  refine s_iload_n X rfl dX12_stretches_4 ?_
  refine s_dup2 X dX12_stretches_5 ?_
  refine s_iald X dX12_stretches_6 ?_
  refine s_iconst X ⟨by decide, by decide⟩ dX12_stretches_7 ?_
  refine s_iload_n X rfl dX12_stretches_8 ?_
  refine s_aload_n X rfl dX12_stretches_9 ?_
  refine s_iconst X ⟨by decide, by decide⟩ dX12_stretches_10 ?_
  refine s_iload_n X rfl dX12_stretches_11 ?_
  refine s_iadd X dX12_stretches_12 ?_
  refine s_callVr X (m_X12_of l) tw_1189 tw_1190 tw_1603 tw_134 tw_1191 rfl (by decide +kernel) ⟨by decide, by decide⟩ dX12_stretches_13 ?_
  refine s_aload_n X rfl dX12_stretches_16 ?_
  refine s_get X (T := TX12) (C := RX12) (N := 45) tu_X12 rfl (by decide) tw_1024 dX12_stretches_17 ?_
  refine s_iload_n X rfl dX12_stretches_20 ?_
  refine s_iald X dX12_stretches_21 ?_
  refine s_isub X dX12_stretches_22 ?_
  refine s_callSr X (m_X12_lesser l) tw_1239 tw_1240 tw_134 tw_1241 (by decide +kernel) ⟨by decide, by decide⟩ dX12_stretches_23 ?_
  refine s_callSr X (m_X12_greater l) tw_1118 tw_1119 tw_134 tw_1120 (by decide +kernel) ⟨by decide, by decide⟩ dX12_stretches_26 ?_
  refine s_iadd X dX12_stretches_29 ?_
  refine s_iast X dX12_stretches_30 ?_
  refine s_nw ?_
  exact s_vret X dX12_stretches_31

def sp_X12_stretches : qS := fun av w Q => ∃ (mco : Int) (mre : Int) (mle : Int) (mbe : Int) (mso : Int) (mva : Int) (mwo : Int) (mwr : Int) (mlf : Int) (mlp : Int) (mfp : Int) (mfd : Int) (mgo : Int) (mbo : Int) (mpe : Int) (mye : Int) (mpr : Int) (mld : Int) (msi : Int) (mse : Int) (tl : Nat → Int) (bs : Nat → Int) (a : Int) (b : Int), av = [q2 0, q1 a, q1 b] ∧ w = [.inr (12, [q1 mco, q2 3, q2 4, q2 5, q2 6, q2 7, q2 2, q2 8, q2 9, q2 10, q1 mre, q1 mle, q1 mbe, q1 mso, q1 mva, q3 mwo, q1 mwr, q1 mlf, q1 mlp, q2 11, q2 12, q1 mfp, q1 mfd, q1 mgo, q1 mbo, q1 mpe, q1 mye, q2 1, q1 mpr, q2 13, q2 14, q2 15, q2 16, q1 mld, q2 17, q1 msi, q2 18, q2 19, q2 20, q2 21, q2 22, q1 mse, q2 23, q2 24, q2 25]), .inl (0, 8, .inl tl), .inl (0, 600, .inl bs)] ∧ (0 ≤ mbo ∧ mbo ≤ 1) ∧ (BI bs) ∧ (0 ≤ a ∧ a ≤ 7) ∧ (∀ (x_tl : Nat → Int), Q none ([.inr (12, [q1 mco, q2 3, q2 4, q2 5, q2 6, q2 7, q2 2, q2 8, q2 9, q2 10, q1 mre, q1 mle, q1 mbe, q1 mso, q1 mva, q3 mwo, q1 mwr, q1 mlf, q1 mlp, q2 11, q2 12, q1 mfp, q1 mfd, q1 mgo, q1 mbo, q1 mpe, q1 mye, q2 1, q1 mpr, q2 13, q2 14, q2 15, q2 16, q1 mld, q2 17, q1 msi, q2 18, q2 19, q2 20, q2 21, q2 22, q1 mse, q2 23, q2 24, q2 25]), .inl (0, 8, .inl x_tl), .inl (0, 600, .inl bs)]))
set_option maxHeartbeats 4000000 in
set_option maxRecDepth 100000 in
theorem m_X12_stretches (l : Launch) : q_M l yX12_stretches cX12_stretches 3 none 1 21 sp_X12_stretches := by
  refine q_meth (by decide) (fun av w Q h => by obtain ⟨mco, mre, mle, mbe, mso, mva, mwo, mwr, mlf, mlp, mfp, mfd, mgo, mbo, mpe, mye, mpr, mld, msi, mse, tl, bs, a, b, rfl, rfl, hbo, hbi, ha, hQ⟩ := h; exact Nat.le_of_ble_eq_true rfl) ?_
  intro p e R s m args below meth c dC dI k g A av w Q hsp oka okw X
  obtain ⟨mco, mre, mle, mbe, mso, mva, mwo, mwr, mlf, mlp, mfp, mfd, mgo, mbo, mpe, mye, mpr, mld, msi, mse, tl, bs, a, b, rfl, rfl, hbo, hbi, ha, hQ⟩ := hsp
  have o_a : -2147483648 ≤ a ∧ a ≤ 2147483647 := oka _ (List.mem_of_getElem? (i := 1) rfl)
  have o_b : -2147483648 ≤ b ∧ b ≤ 2147483647 := oka _ (List.mem_of_getElem? (i := 2) rfl)
  refine s_mono (s_X12_stretches_0 X (J := fun _ _ _ _ => False) (fun d => s_cutF)) ?_
  rintro lv st w' ⟨rfl, rfl, rfl⟩
  apply And.intro
  · exact ⟨by omega, by omega⟩
  intro z6 h6
  intro z12 h12
  first | replace h12 := e_add h12 (by omega) | replace h12 := e_rng h12
  refine Exists.intro [0, 2, 3, 4, 5, 6, 7, 8, 9, 10, 11, 12, 1, 13, 14, 15, 16, 17, 18, 19, 20, 21, 22, 23, 24, 25] (Exists.intro [q2 0, q1 _] (Exists.intro ([.inr (12, [q1 _, q2 2, q2 3, q2 4, q2 5, q2 6, q2 1, q2 7, q2 8, q2 9, q1 _, q1 _, q1 _, q1 _, q1 _, q3 _, q1 _, q1 _, q1 _, q2 10, q2 11, q1 _, q1 _, q1 _, q1 _, q1 _, q1 _, q2 12, q1 _, q2 13, q2 14, q2 15, q2 16, q1 _, q2 17, q1 _, q2 18, q2 19, q2 20, q2 21, q2 22, q1 _, q2 23, q2 24, q2 25]), .inl (0, 600, .inl _)]) (And.intro rfl (And.intro rfl (And.intro rfl (And.intro ⟨⟨_, rfl⟩, rfl⟩ ?_))))))
  refine Exists.intro _ (Exists.intro _ (Exists.intro _ (Exists.intro _ (Exists.intro _ (Exists.intro _ (Exists.intro _ (Exists.intro _ (Exists.intro _ (Exists.intro _ (Exists.intro _ (Exists.intro _ (Exists.intro _ (Exists.intro _ (Exists.intro _ (Exists.intro _ (Exists.intro _ (Exists.intro _ (Exists.intro _ (Exists.intro _ (Exists.intro _ (Exists.intro _ (And.intro rfl (And.intro rfl (And.intro (by first | omega | assumption | exact q_rg_up (by assumption) (by omega) | exact q_rg_up (q_rg_up (by assumption) (by omega)) (by omega) | exact q_rg_cpy (by assumption) (by assumption)) (And.intro (by first | omega | assumption | exact q_rg_up (by assumption) (by omega) | exact q_rg_up (q_rg_up (by assumption) (by omega)) (by omega) | exact q_rg_cpy (by assumption) (by assumption)) (And.intro (by first | omega | assumption | exact q_rg_up (by assumption) (by omega) | exact q_rg_up (q_rg_up (by assumption) (by omega)) (by omega) | exact q_rg_cpy (by assumption) (by assumption)) (?_)))))))))))))))))))))))))))
  intro z13 h13
  obtain ⟨h13, k13⟩ := h13
  first | replace k13 := OFQ_13 k13 (by omega) | replace k13 := OFQ_21 k13 (by omega) | clear k13
  apply And.intro
  · exact ⟨by omega, by omega⟩
  intro z21 h21
  intro z22 h22
  first | replace h22 := e_sub h22 (by omega) | replace h22 := e_rng h22
  refine Exists.intro [] (Exists.intro [q1 _, q1 _] (Exists.intro [] (And.intro rfl (And.intro rfl (And.intro rfl (And.intro trivial ?_))))))
  refine Exists.intro _ (Exists.intro _ (And.intro rfl (And.intro rfl (?_))))
  intro z23 h23
  refine Exists.intro [] (Exists.intro [q1 _, q1 _] (Exists.intro [] (And.intro rfl (And.intro rfl (And.intro rfl (And.intro trivial ?_))))))
  refine Exists.intro _ (Exists.intro _ (And.intro rfl (And.intro rfl (?_))))
  intro z26 h26
  intro z29 h29
  first | replace h29 := e_add h29 (by omega) | replace h29 := e_rng h29
  apply And.intro
  · exact ⟨by omega, by omega⟩
  exact hQ _

theorem dX12_gifts_0 : decode cX12_gifts 0 = .ok (.aload_n 0, 1) := by decide +kernel
theorem dX12_gifts_1 : decode cX12_gifts 1 = .ok (.iload_n 2, 1) := by decide +kernel
theorem dX12_gifts_2 : decode cX12_gifts 2 = .ok (.invokevirtual 309, 3) := by decide +kernel
theorem dX12_gifts_5 : decode cX12_gifts 5 = .ok (.ifCond .eq 33, 3) := by decide +kernel
theorem dX12_gifts_8 : decode cX12_gifts 8 = .ok (.iload_n 1, 1) := by decide +kernel
theorem dX12_gifts_9 : decode cX12_gifts 9 = .ok (.iload_n 2, 1) := by decide +kernel
theorem dX12_gifts_10 : decode cX12_gifts 10 = .ok (.if_icmp .eq 28, 3) := by decide +kernel
theorem dX12_gifts_13 : decode cX12_gifts 13 = .ok (.aload_n 0, 1) := by decide +kernel
theorem dX12_gifts_14 : decode cX12_gifts 14 = .ok (.getfield 44, 3) := by decide +kernel
theorem dX12_gifts_17 : decode cX12_gifts 17 = .ok (.iload_n 1, 1) := by decide +kernel
theorem dX12_gifts_18 : decode cX12_gifts 18 = .ok (.iaload, 1) := by decide +kernel
theorem dX12_gifts_19 : decode cX12_gifts 19 = .ok (.iload_n 3, 1) := by decide +kernel
theorem dX12_gifts_20 : decode cX12_gifts 20 = .ok (.isub, 1) := by decide +kernel
theorem dX12_gifts_21 : decode cX12_gifts 21 = .ok (.iconst 1, 1) := by decide +kernel
theorem dX12_gifts_22 : decode cX12_gifts 22 = .ok (.if_icmp .lt 16, 3) := by decide +kernel
theorem dX12_gifts_25 : decode cX12_gifts 25 = .ok (.aload_n 0, 1) := by decide +kernel
theorem dX12_gifts_26 : decode cX12_gifts 26 = .ok (.getfield 44, 3) := by decide +kernel
theorem dX12_gifts_29 : decode cX12_gifts 29 = .ok (.iload_n 2, 1) := by decide +kernel
theorem dX12_gifts_30 : decode cX12_gifts 30 = .ok (.iaload, 1) := by decide +kernel
theorem dX12_gifts_31 : decode cX12_gifts 31 = .ok (.iload_n 3, 1) := by decide +kernel
theorem dX12_gifts_32 : decode cX12_gifts 32 = .ok (.iadd, 1) := by decide +kernel
theorem dX12_gifts_33 : decode cX12_gifts 33 = .ok (.bipush 99, 2) := by decide +kernel
theorem dX12_gifts_35 : decode cX12_gifts 35 = .ok (.if_icmp .le 5, 3) := by decide +kernel
theorem dX12_gifts_38 : decode cX12_gifts 38 = .ok (.iconst 0, 1) := by decide +kernel
theorem dX12_gifts_39 : decode cX12_gifts 39 = .ok (.ireturn, 1) := by decide +kernel
theorem dX12_gifts_40 : decode cX12_gifts 40 = .ok (.aload_n 0, 1) := by decide +kernel
theorem dX12_gifts_41 : decode cX12_gifts 41 = .ok (.getfield 44, 3) := by decide +kernel
theorem dX12_gifts_44 : decode cX12_gifts 44 = .ok (.iload_n 1, 1) := by decide +kernel
theorem dX12_gifts_45 : decode cX12_gifts 45 = .ok (.dup2, 1) := by decide +kernel
theorem dX12_gifts_46 : decode cX12_gifts 46 = .ok (.iaload, 1) := by decide +kernel
theorem dX12_gifts_47 : decode cX12_gifts 47 = .ok (.iload_n 3, 1) := by decide +kernel
theorem dX12_gifts_48 : decode cX12_gifts 48 = .ok (.isub, 1) := by decide +kernel
theorem dX12_gifts_49 : decode cX12_gifts 49 = .ok (.iastore, 1) := by decide +kernel
theorem dX12_gifts_50 : decode cX12_gifts 50 = .ok (.aload_n 0, 1) := by decide +kernel
theorem dX12_gifts_51 : decode cX12_gifts 51 = .ok (.getfield 44, 3) := by decide +kernel
theorem dX12_gifts_54 : decode cX12_gifts 54 = .ok (.iload_n 2, 1) := by decide +kernel
theorem dX12_gifts_55 : decode cX12_gifts 55 = .ok (.dup2, 1) := by decide +kernel
theorem dX12_gifts_56 : decode cX12_gifts 56 = .ok (.iaload, 1) := by decide +kernel
theorem dX12_gifts_57 : decode cX12_gifts 57 = .ok (.iload_n 3, 1) := by decide +kernel
theorem dX12_gifts_58 : decode cX12_gifts 58 = .ok (.iadd, 1) := by decide +kernel
theorem dX12_gifts_59 : decode cX12_gifts 59 = .ok (.iastore, 1) := by decide +kernel
theorem dX12_gifts_60 : decode cX12_gifts 60 = .ok (.iconst 1, 1) := by decide +kernel
theorem dX12_gifts_61 : decode cX12_gifts 61 = .ok (.ireturn, 1) := by decide +kernel
def is_X12_gifts : Nat → List Nat := fun d => []
set_option maxRecDepth 100000 in
def b_X12_gifts_38 (J : Nat → List qV → List qV → qW → Prop) (Q : qR) : qK := x_int 0 (x_zret Q)
set_option maxRecDepth 100000 in
theorem s_X12_gifts_38 {p : Program} {l : Launch} {e : Env} {R : Room} {s : State} {m : MethodId} {args : Array Value} {below : List Frame} {meth : Method} {c : Code} {nW : Nat} {dC : Nat → ClassId} {dI : Nat → Nat → Nat} {k : Nat → ClassId} {g : Nat → Nat} {A : Nat → Prop} {J : Nat → List qV → List qV → qW → Prop} {Q : qR} (X : q_X p R s m args meth c cX12_gifts 4 nW 2 43 RX12 (some .boolean) dC dI k g A) (hJ : ∀ d : Nat, q_Sd p l e R s m args below meth c 4 nW dC dI k g A (MQ below (q_post (dC, dI) k g nW Q A) args s 0 0 A) d (x_cut (is_X12_gifts d) (J d))) : q_Sd p l e R s m args below meth c 4 nW dC dI k g A (MQ below (q_post (dC, dI) k g nW Q A) args s 0 0 A) 38 (b_X12_gifts_38 J Q) := by
  unfold b_X12_gifts_38
  refine s_iconst X ⟨by decide, by decide⟩ dX12_gifts_38 ?_
  exact s_zret X dX12_gifts_39
set_option maxRecDepth 100000 in
def b_X12_gifts_0 (J : Nat → List qV → List qV → qW → Prop) (Q : qR) : qK := x_aload 0 (x_iload 2 (x_callr (some 12) 2 spr_X12_isPerson (x_if_eq (b_X12_gifts_38 J Q) (x_iload 1 (x_iload 2 (x_icmp_eq (b_X12_gifts_38 J Q) (x_aload 0 (x_get 12 27 (x_iload 1 (x_iald (x_iload 3 (x_isub (x_int 1 (x_icmp_lt (b_X12_gifts_38 J Q) (x_aload 0 (x_get 12 27 (x_iload 2 (x_iald (x_iload 3 (x_iadd (x_int 99 (x_icmp_le (x_aload 0 (x_get 12 27 (x_iload 1 (x_dup2 (x_iald (x_iload 3 (x_isub (x_iast (x_nw (x_aload 0 (x_get 12 27 (x_iload 2 (x_dup2 (x_iald (x_iload 3 (x_iadd (x_iast (x_nw (x_int 1 (x_zret Q)))))))))))))))))))) (b_X12_gifts_38 J Q)))))))))))))))))))))))
set_option maxRecDepth 100000 in
theorem s_X12_gifts_0 {p : Program} {l : Launch} {e : Env} {R : Room} {s : State} {m : MethodId} {args : Array Value} {below : List Frame} {meth : Method} {c : Code} {nW : Nat} {dC : Nat → ClassId} {dI : Nat → Nat → Nat} {k : Nat → ClassId} {g : Nat → Nat} {A : Nat → Prop} {J : Nat → List qV → List qV → qW → Prop} {Q : qR} (X : q_X p R s m args meth c cX12_gifts 4 nW 2 43 RX12 (some .boolean) dC dI k g A) (hJ : ∀ d : Nat, q_Sd p l e R s m args below meth c 4 nW dC dI k g A (MQ below (q_post (dC, dI) k g nW Q A) args s 0 0 A) d (x_cut (is_X12_gifts d) (J d))) : q_Sd p l e R s m args below meth c 4 nW dC dI k g A (MQ below (q_post (dC, dI) k g nW Q A) args s 0 0 A) 0 (b_X12_gifts_0 J Q) := by
  unfold b_X12_gifts_0
  refine s_aload_n X rfl dX12_gifts_0 ?_
  refine s_iload_n X rfl dX12_gifts_1 ?_
  refine s_callVr X (m_X12_isPerson l) tw_1192 tw_1193 tw_1591 tw_134 tw_1194 rfl (by decide +kernel) ⟨by decide, by decide⟩ dX12_gifts_2 ?_
  refine s_if_eq X (tgt := 38) dX12_gifts_5 (by decide) ?_ ?_
  · exact s_X12_gifts_38 X hJ
  · refine s_iload_n X rfl dX12_gifts_8 ?_
    refine s_iload_n X rfl dX12_gifts_9 ?_
    refine s_icmp_eq X (tgt := 38) dX12_gifts_10 (by decide) ?_ ?_
    · exact s_X12_gifts_38 X hJ
    · refine s_aload_n X rfl dX12_gifts_13 ?_
      refine s_get X (T := TX12) (C := RX12) (N := 45) tu_X12 rfl (by decide) tw_1024 dX12_gifts_14 ?_
      refine s_iload_n X rfl dX12_gifts_17 ?_
      refine s_iald X dX12_gifts_18 ?_
      refine s_iload_n X rfl dX12_gifts_19 ?_
      refine s_isub X dX12_gifts_20 ?_
      refine s_iconst X ⟨by decide, by decide⟩ dX12_gifts_21 ?_
      refine s_icmp_lt X (tgt := 38) dX12_gifts_22 (by decide) ?_ ?_
      · exact s_X12_gifts_38 X hJ
      · refine s_aload_n X rfl dX12_gifts_25 ?_
        refine s_get X (T := TX12) (C := RX12) (N := 45) tu_X12 rfl (by decide) tw_1024 dX12_gifts_26 ?_
        refine s_iload_n X rfl dX12_gifts_29 ?_
        refine s_iald X dX12_gifts_30 ?_
        refine s_iload_n X rfl dX12_gifts_31 ?_
        refine s_iadd X dX12_gifts_32 ?_
        refine s_bipush X ⟨by decide, by decide⟩ (by decide) dX12_gifts_33 ?_
        refine s_icmp_le X (tgt := 40) dX12_gifts_35 (by decide) ?_ ?_
        · refine s_aload_n X rfl dX12_gifts_40 ?_
          refine s_get X (T := TX12) (C := RX12) (N := 45) tu_X12 rfl (by decide) tw_1024 dX12_gifts_41 ?_
          refine s_iload_n X rfl dX12_gifts_44 ?_
          refine s_dup2 X dX12_gifts_45 ?_
          refine s_iald X dX12_gifts_46 ?_
          refine s_iload_n X rfl dX12_gifts_47 ?_
          refine s_isub X dX12_gifts_48 ?_
          refine s_iast X dX12_gifts_49 ?_
          refine s_nw ?_
          refine s_aload_n X rfl dX12_gifts_50 ?_
          refine s_get X (T := TX12) (C := RX12) (N := 45) tu_X12 rfl (by decide) tw_1024 dX12_gifts_51 ?_
          refine s_iload_n X rfl dX12_gifts_54 ?_
          refine s_dup2 X dX12_gifts_55 ?_
          refine s_iald X dX12_gifts_56 ?_
          refine s_iload_n X rfl dX12_gifts_57 ?_
          refine s_iadd X dX12_gifts_58 ?_
          refine s_iast X dX12_gifts_59 ?_
          refine s_nw ?_
          refine s_iconst X ⟨by decide, by decide⟩ dX12_gifts_60 ?_
          exact s_zret X dX12_gifts_61
        · exact s_X12_gifts_38 X hJ

def sp_X12_gifts : qS := fun av w Q => ∃ (mco : Int) (mre : Int) (mle : Int) (mbe : Int) (mso : Int) (mva : Int) (mwo : Int) (mwr : Int) (mlf : Int) (mlp : Int) (mfp : Int) (mfd : Int) (mgo : Int) (mbo : Int) (mpe : Int) (mye : Int) (mpr : Int) (mld : Int) (msi : Int) (mse : Int) (tl : Nat → Int) (a : Int) (b : Int) (cc : Int), av = [q2 0, q1 a, q1 b, q1 cc] ∧ w = [.inr (12, [q1 mco, q2 2, q2 3, q2 4, q2 5, q2 6, q2 7, q2 8, q2 9, q2 10, q1 mre, q1 mle, q1 mbe, q1 mso, q1 mva, q3 mwo, q1 mwr, q1 mlf, q1 mlp, q2 11, q2 12, q1 mfp, q1 mfd, q1 mgo, q1 mbo, q1 mpe, q1 mye, q2 1, q1 mpr, q2 13, q2 14, q2 15, q2 16, q1 mld, q2 17, q1 msi, q2 18, q2 19, q2 20, q2 21, q2 22, q1 mse, q2 23, q2 24, q2 25]), .inl (0, 8, .inl tl)] ∧ (0 ≤ mpe ∧ mpe ≤ 8) ∧ (0 ≤ a ∧ a ≤ 7) ∧ (∀ (r : Int) (x_tl : Nat → Int), (r = 0 ∨ r = 1) → Q (some (q1 r)) ([.inr (12, [q1 mco, q2 2, q2 3, q2 4, q2 5, q2 6, q2 7, q2 8, q2 9, q2 10, q1 mre, q1 mle, q1 mbe, q1 mso, q1 mva, q3 mwo, q1 mwr, q1 mlf, q1 mlp, q2 11, q2 12, q1 mfp, q1 mfd, q1 mgo, q1 mbo, q1 mpe, q1 mye, q2 1, q1 mpr, q2 13, q2 14, q2 15, q2 16, q1 mld, q2 17, q1 msi, q2 18, q2 19, q2 20, q2 21, q2 22, q1 mse, q2 23, q2 24, q2 25]), .inl (0, 8, .inl x_tl)]))
set_option maxHeartbeats 4000000 in
set_option maxRecDepth 100000 in
theorem m_X12_gifts (l : Launch) : q_M l yX12_gifts cX12_gifts 4 (some .boolean) 2 43 sp_X12_gifts := by
  refine q_meth (by decide) (fun av w Q h => by obtain ⟨mco, mre, mle, mbe, mso, mva, mwo, mwr, mlf, mlp, mfp, mfd, mgo, mbo, mpe, mye, mpr, mld, msi, mse, tl, a, b, cc, rfl, rfl, hpe, ha, hQ⟩ := h; exact Nat.le_of_ble_eq_true rfl) ?_
  intro p e R s m args below meth c dC dI k g A av w Q hsp oka okw X
  obtain ⟨mco, mre, mle, mbe, mso, mva, mwo, mwr, mlf, mlp, mfp, mfd, mgo, mbo, mpe, mye, mpr, mld, msi, mse, tl, a, b, cc, rfl, rfl, hpe, ha, hQ⟩ := hsp
  have o_a : -2147483648 ≤ a ∧ a ≤ 2147483647 := oka _ (List.mem_of_getElem? (i := 1) rfl)
  have o_b : -2147483648 ≤ b ∧ b ≤ 2147483647 := oka _ (List.mem_of_getElem? (i := 2) rfl)
  have o_cc : -2147483648 ≤ cc ∧ cc ≤ 2147483647 := oka _ (List.mem_of_getElem? (i := 3) rfl)
  refine s_mono (s_X12_gifts_0 X (J := fun _ _ _ _ => False) (fun d => s_cutF)) ?_
  rintro lv st w' ⟨rfl, rfl, rfl⟩
  refine Exists.intro [0, 2, 3, 4, 5, 6, 7, 8, 9, 10, 11, 12, 1, 13, 14, 15, 16, 17, 18, 19, 20, 21, 22, 23, 24, 25] (Exists.intro [q2 0, q1 _] (Exists.intro ([.inr (12, [q1 _, q2 1, q2 2, q2 3, q2 4, q2 5, q2 6, q2 7, q2 8, q2 9, q1 _, q1 _, q1 _, q1 _, q1 _, q3 _, q1 _, q1 _, q1 _, q2 10, q2 11, q1 _, q1 _, q1 _, q1 _, q1 _, q1 _, q2 12, q1 _, q2 13, q2 14, q2 15, q2 16, q1 _, q2 17, q1 _, q2 18, q2 19, q2 20, q2 21, q2 22, q1 _, q2 23, q2 24, q2 25])]) (And.intro rfl (And.intro rfl (And.intro rfl (And.intro ⟨⟨_, rfl⟩, rfl⟩ ?_))))))
  refine Exists.intro _ (Exists.intro _ (Exists.intro _ (Exists.intro _ (Exists.intro _ (Exists.intro _ (Exists.intro _ (Exists.intro _ (Exists.intro _ (Exists.intro _ (Exists.intro _ (Exists.intro _ (Exists.intro _ (Exists.intro _ (Exists.intro _ (Exists.intro _ (Exists.intro _ (Exists.intro _ (Exists.intro _ (Exists.intro _ (Exists.intro _ (And.intro rfl (And.intro rfl (And.intro (by first | omega | assumption | exact q_rg_up (by assumption) (by omega) | exact q_rg_up (q_rg_up (by assumption) (by omega)) (by omega) | exact q_rg_cpy (by assumption) (by assumption)) (?_))))))))))))))))))))))))
  intro z2 h2
  apply And.intro
  · intro h5
    first | replace h2 := dj1 h2 h5 | replace h2 := dj0 h2 h5
    apply And.intro
    · first | exact Or.inl rfl | exact Or.inr rfl | omega
    exact hQ _ _ (by first | omega | assumption | exact q_rg_up (by assumption) (by omega) | exact q_rg_up (q_rg_up (by assumption) (by omega)) (by omega) | exact q_rg_cpy (by assumption) (by assumption))
  · intro h5
    first | replace h2 := dj1 h2 h5 | replace h2 := dj0 h2 h5
    apply And.intro
    · intro h10
      apply And.intro
      · first | exact Or.inl rfl | exact Or.inr rfl | omega
      exact hQ _ _ (by first | omega | assumption | exact q_rg_up (by assumption) (by omega) | exact q_rg_up (q_rg_up (by assumption) (by omega)) (by omega) | exact q_rg_cpy (by assumption) (by assumption))
    · intro h10
      apply And.intro
      · exact ⟨by omega, by omega⟩
      intro z18 h18
      intro z20 h20
      first | replace h20 := e_sub h20 (by omega) | replace h20 := e_rng h20
      apply And.intro
      · intro h22
        apply And.intro
        · first | exact Or.inl rfl | exact Or.inr rfl | omega
        exact hQ _ _ (by first | omega | assumption | exact q_rg_up (by assumption) (by omega) | exact q_rg_up (q_rg_up (by assumption) (by omega)) (by omega) | exact q_rg_cpy (by assumption) (by assumption))
      · intro h22
        apply And.intro
        · exact ⟨by omega, by omega⟩
        intro z30 h30
        intro z32 h32
        first | replace h32 := e_add h32 (by omega) | replace h32 := e_rng h32
        apply And.intro
        · intro h35
          apply And.intro
          · exact ⟨by omega, by omega⟩
          intro z46 h46
          intro z48 h48
          first | replace h48 := e_sub h48 (by omega) | replace h48 := e_rng h48
          apply And.intro
          · exact ⟨by omega, by omega⟩
          apply And.intro
          · exact ⟨by omega, by omega⟩
          intro z56 h56
          intro z58 h58
          first | replace h58 := e_add h58 (by omega) | replace h58 := e_rng h58
          apply And.intro
          · exact ⟨by omega, by omega⟩
          apply And.intro
          · first | exact Or.inl rfl | exact Or.inr rfl | omega
          exact hQ _ _ (by first | omega | assumption | exact q_rg_up (by assumption) (by omega) | exact q_rg_up (q_rg_up (by assumption) (by omega)) (by omega) | exact q_rg_cpy (by assumption) (by assumption))
        · intro h35
          apply And.intro
          · first | exact Or.inl rfl | exact Or.inr rfl | omega
          exact hQ _ _ (by first | omega | assumption | exact q_rg_up (by assumption) (by omega) | exact q_rg_up (q_rg_up (by assumption) (by omega)) (by omega) | exact q_rg_cpy (by assumption) (by assumption))

theorem dX12_does_0 : decode cX12_does 0 = .ok (.aload_n 0, 1) := by decide +kernel
theorem dX12_does_1 : decode cX12_does 1 = .ok (.iload_n 1, 1) := by decide +kernel
theorem dX12_does_2 : decode cX12_does 2 = .ok (.iconst 1, 1) := by decide +kernel
theorem dX12_does_3 : decode cX12_does 3 = .ok (.invokevirtual 321, 3) := by decide +kernel
theorem dX12_does_6 : decode cX12_does 6 = .ok (.istore_n 2, 1) := by decide +kernel
theorem dX12_does_7 : decode cX12_does 7 = .ok (.aload_n 0, 1) := by decide +kernel
theorem dX12_does_8 : decode cX12_does 8 = .ok (.iload_n 1, 1) := by decide +kernel
theorem dX12_does_9 : decode cX12_does 9 = .ok (.iconst 2, 1) := by decide +kernel
theorem dX12_does_10 : decode cX12_does 10 = .ok (.invokevirtual 321, 3) := by decide +kernel
theorem dX12_does_13 : decode cX12_does 13 = .ok (.istore_n 3, 1) := by decide +kernel
theorem dX12_does_14 : decode cX12_does 14 = .ok (.aload_n 0, 1) := by decide +kernel
theorem dX12_does_15 : decode cX12_does 15 = .ok (.iload_n 2, 1) := by decide +kernel
theorem dX12_does_16 : decode cX12_does 16 = .ok (.invokevirtual 309, 3) := by decide +kernel
theorem dX12_does_19 : decode cX12_does 19 = .ok (.ifCond .ne 5, 3) := by decide +kernel
theorem dX12_does_22 : decode cX12_does 22 = .ok (.iconst 0, 1) := by decide +kernel
theorem dX12_does_23 : decode cX12_does 23 = .ok (.ireturn, 1) := by decide +kernel
theorem dX12_does_24 : decode cX12_does 24 = .ok (.aload_n 0, 1) := by decide +kernel
theorem dX12_does_25 : decode cX12_does 25 = .ok (.iload_n 1, 1) := by decide +kernel
theorem dX12_does_26 : decode cX12_does 26 = .ok (.iconst 0, 1) := by decide +kernel
theorem dX12_does_27 : decode cX12_does 27 = .ok (.invokevirtual 321, 3) := by decide +kernel
theorem dX12_does_30 : decode cX12_does 30 = .ok (.tableswitch 73 0 3 #[30, 44, 58, 65], 30) := by decide +kernel
theorem dX12_does_60 : decode cX12_does 60 = .ok (.aload_n 0, 1) := by decide +kernel
theorem dX12_does_61 : decode cX12_does 61 = .ok (.iload_n 2, 1) := by decide +kernel
theorem dX12_does_62 : decode cX12_does 62 = .ok (.aload_n 0, 1) := by decide +kernel
theorem dX12_does_63 : decode cX12_does 63 = .ok (.bipush 21, 2) := by decide +kernel
theorem dX12_does_65 : decode cX12_does 65 = .ok (.iload_n 3, 1) := by decide +kernel
theorem dX12_does_66 : decode cX12_does 66 = .ok (.iadd, 1) := by decide +kernel
theorem dX12_does_67 : decode cX12_does 67 = .ok (.invokevirtual 299, 3) := by decide +kernel
theorem dX12_does_70 : decode cX12_does 70 = .ok (.invokevirtual 330, 3) := by decide +kernel
theorem dX12_does_73 : decode cX12_does 73 = .ok (.ireturn, 1) := by decide +kernel
theorem dX12_does_74 : decode cX12_does 74 = .ok (.aload_n 0, 1) := by decide +kernel
theorem dX12_does_75 : decode cX12_does 75 = .ok (.iload_n 2, 1) := by decide +kernel
theorem dX12_does_76 : decode cX12_does 76 = .ok (.aload_n 0, 1) := by decide +kernel
theorem dX12_does_77 : decode cX12_does 77 = .ok (.bipush 21, 2) := by decide +kernel
theorem dX12_does_79 : decode cX12_does 79 = .ok (.iload_n 3, 1) := by decide +kernel
theorem dX12_does_80 : decode cX12_does 80 = .ok (.iadd, 1) := by decide +kernel
theorem dX12_does_81 : decode cX12_does 81 = .ok (.invokevirtual 299, 3) := by decide +kernel
theorem dX12_does_84 : decode cX12_does 84 = .ok (.invokevirtual 333, 3) := by decide +kernel
theorem dX12_does_87 : decode cX12_does 87 = .ok (.ireturn, 1) := by decide +kernel
theorem dX12_does_88 : decode cX12_does 88 = .ok (.aload_n 0, 1) := by decide +kernel
theorem dX12_does_89 : decode cX12_does 89 = .ok (.iload_n 2, 1) := by decide +kernel
theorem dX12_does_90 : decode cX12_does 90 = .ok (.iload_n 3, 1) := by decide +kernel
theorem dX12_does_91 : decode cX12_does 91 = .ok (.invokevirtual 336, 3) := by decide +kernel
theorem dX12_does_94 : decode cX12_does 94 = .ok (.ireturn, 1) := by decide +kernel
theorem dX12_does_95 : decode cX12_does 95 = .ok (.aload_n 0, 1) := by decide +kernel
theorem dX12_does_96 : decode cX12_does 96 = .ok (.iload_n 2, 1) := by decide +kernel
theorem dX12_does_97 : decode cX12_does 97 = .ok (.iload_n 3, 1) := by decide +kernel
theorem dX12_does_98 : decode cX12_does 98 = .ok (.invokevirtual 339, 3) := by decide +kernel
theorem dX12_does_101 : decode cX12_does 101 = .ok (.iconst 1, 1) := by decide +kernel
theorem dX12_does_102 : decode cX12_does 102 = .ok (.ireturn, 1) := by decide +kernel
theorem dX12_does_103 : decode cX12_does 103 = .ok (.aload_n 0, 1) := by decide +kernel
theorem dX12_does_104 : decode cX12_does 104 = .ok (.iload_n 2, 1) := by decide +kernel
theorem dX12_does_105 : decode cX12_does 105 = .ok (.iload_n 3, 1) := by decide +kernel
theorem dX12_does_106 : decode cX12_does 106 = .ok (.aload_n 0, 1) := by decide +kernel
theorem dX12_does_107 : decode cX12_does 107 = .ok (.iload_n 1, 1) := by decide +kernel
theorem dX12_does_108 : decode cX12_does 108 = .ok (.iconst 3, 1) := by decide +kernel
theorem dX12_does_109 : decode cX12_does 109 = .ok (.invokevirtual 321, 3) := by decide +kernel
theorem dX12_does_112 : decode cX12_does 112 = .ok (.invokevirtual 342, 3) := by decide +kernel
theorem dX12_does_115 : decode cX12_does 115 = .ok (.ireturn, 1) := by decide +kernel
def is_X12_does : Nat → List Nat := fun d => []
set_option maxRecDepth 100000 in
def b_X12_does_101 (J : Nat → List qV → List qV → qW → Prop) (Q : qR) : qK := x_int 1 (x_zret Q)
set_option maxRecDepth 100000 in
theorem s_X12_does_101 {p : Program} {l : Launch} {e : Env} {R : Room} {s : State} {m : MethodId} {args : Array Value} {below : List Frame} {meth : Method} {c : Code} {nW : Nat} {dC : Nat → ClassId} {dI : Nat → Nat → Nat} {k : Nat → ClassId} {g : Nat → Nat} {A : Nat → Prop} {J : Nat → List qV → List qV → qW → Prop} {Q : qR} (X : q_X p R s m args meth c cX12_does 4 nW 3 66 RX12 (some .boolean) dC dI k g A) (hJ : ∀ d : Nat, q_Sd p l e R s m args below meth c 4 nW dC dI k g A (MQ below (q_post (dC, dI) k g nW Q A) args s 0 0 A) d (x_cut (is_X12_does d) (J d))) : q_Sd p l e R s m args below meth c 4 nW dC dI k g A (MQ below (q_post (dC, dI) k g nW Q A) args s 0 0 A) 101 (b_X12_does_101 J Q) := by
  unfold b_X12_does_101
  refine s_iconst X ⟨by decide, by decide⟩ dX12_does_101 ?_
  exact s_zret X dX12_does_102
set_option maxRecDepth 100000 in
def b_X12_does_63 (J : Nat → List qV → List qV → qW → Prop) (Q : qR) : qK := x_int 21 (x_iload 3 (x_iadd (x_callr (some 12) 2 spr_X12_of (x_call (some 12) 3 sp_X12_fines (x_nw (x_zret Q))))))
set_option maxRecDepth 100000 in
theorem s_X12_does_63 {p : Program} {l : Launch} {e : Env} {R : Room} {s : State} {m : MethodId} {args : Array Value} {below : List Frame} {meth : Method} {c : Code} {nW : Nat} {dC : Nat → ClassId} {dI : Nat → Nat → Nat} {k : Nat → ClassId} {g : Nat → Nat} {A : Nat → Prop} {J : Nat → List qV → List qV → qW → Prop} {Q : qR} (X : q_X p R s m args meth c cX12_does 4 nW 3 66 RX12 (some .boolean) dC dI k g A) (hJ : ∀ d : Nat, q_Sd p l e R s m args below meth c 4 nW dC dI k g A (MQ below (q_post (dC, dI) k g nW Q A) args s 0 0 A) d (x_cut (is_X12_does d) (J d))) : q_Sd p l e R s m args below meth c 4 nW dC dI k g A (MQ below (q_post (dC, dI) k g nW Q A) args s 0 0 A) 63 (b_X12_does_63 J Q) := by
  unfold b_X12_does_63
  refine s_bipush X ⟨by decide, by decide⟩ (by decide) dX12_does_63 ?_
  refine s_iload_n X rfl dX12_does_65 ?_
  refine s_iadd X dX12_does_66 ?_
  refine s_callVr X (m_X12_of l) tw_1189 tw_1190 tw_1603 tw_134 tw_1191 rfl (by decide +kernel) ⟨by decide, by decide⟩ dX12_does_67 ?_
  refine s_callV X (m_X12_fines l) tw_1224 tw_1225 tw_1576 tw_134 tw_1226 rfl (by decide +kernel) ⟨by decide, by decide⟩ dX12_does_70 ?_
  refine s_nw ?_
  exact s_zret X dX12_does_73
set_option maxRecDepth 100000 in
def b_X12_does_0 (J : Nat → List qV → List qV → qW → Prop) (Q : qR) : qK := x_aload 0 (x_iload 1 (x_int 1 (x_callr (some 12) 3 spr_X12_deedOf (x_istore 2 (x_aload 0 (x_iload 1 (x_int 2 (x_callr (some 12) 3 spr_X12_deedOf (x_istore 3 (x_aload 0 (x_iload 2 (x_callr (some 12) 2 spr_X12_isPerson (x_if_ne (x_aload 0 (x_iload 1 (x_int 0 (x_callr (some 12) 3 spr_X12_deedOf (x_sw 0 3 [x_aload 0 (x_iload 2 (x_aload 0 (b_X12_does_63 J Q))), x_aload 0 (x_iload 2 (x_aload 0 (x_int 21 (x_iload 3 (x_iadd (x_callr (some 12) 2 spr_X12_of (x_call (some 12) 3 sp_X12_bails (x_nw (x_zret Q))))))))), x_aload 0 (x_iload 2 (x_iload 3 (x_call (some 12) 3 sp_X12_gives (x_nw (x_zret Q))))), x_aload 0 (x_iload 2 (x_iload 3 (x_call (some 12) 3 sp_X12_stretches (x_nw (b_X12_does_101 J Q)))))] (x_aload 0 (x_iload 2 (x_iload 3 (x_aload 0 (x_iload 1 (x_int 3 (x_callr (some 12) 3 spr_X12_deedOf (x_call (some 12) 4 sp_X12_gifts (x_nw (x_zret Q))))))))))))))) (x_int 0 (x_zret Q)))))))))))))))
set_option maxRecDepth 100000 in
theorem s_X12_does_0 {p : Program} {l : Launch} {e : Env} {R : Room} {s : State} {m : MethodId} {args : Array Value} {below : List Frame} {meth : Method} {c : Code} {nW : Nat} {dC : Nat → ClassId} {dI : Nat → Nat → Nat} {k : Nat → ClassId} {g : Nat → Nat} {A : Nat → Prop} {J : Nat → List qV → List qV → qW → Prop} {Q : qR} (X : q_X p R s m args meth c cX12_does 4 nW 3 66 RX12 (some .boolean) dC dI k g A) (hJ : ∀ d : Nat, q_Sd p l e R s m args below meth c 4 nW dC dI k g A (MQ below (q_post (dC, dI) k g nW Q A) args s 0 0 A) d (x_cut (is_X12_does d) (J d))) : q_Sd p l e R s m args below meth c 4 nW dC dI k g A (MQ below (q_post (dC, dI) k g nW Q A) args s 0 0 A) 0 (b_X12_does_0 J Q) := by
  unfold b_X12_does_0
  refine s_aload_n X rfl dX12_does_0 ?_
  refine s_iload_n X rfl dX12_does_1 ?_
  refine s_iconst X ⟨by decide, by decide⟩ dX12_does_2 ?_
  refine s_callVr X (m_X12_deedOf l) tw_1205 tw_1206 tw_1558 tw_134 tw_1207 rfl (by decide +kernel) ⟨by decide, by decide⟩ dX12_does_3 ?_
  refine s_istore_n X rfl (by decide) dX12_does_6 ?_
  refine s_aload_n X rfl dX12_does_7 ?_
  refine s_iload_n X rfl dX12_does_8 ?_
  refine s_iconst X ⟨by decide, by decide⟩ dX12_does_9 ?_
  refine s_callVr X (m_X12_deedOf l) tw_1205 tw_1206 tw_1558 tw_134 tw_1207 rfl (by decide +kernel) ⟨by decide, by decide⟩ dX12_does_10 ?_
  refine s_istore_n X rfl (by decide) dX12_does_13 ?_
  refine s_aload_n X rfl dX12_does_14 ?_
  refine s_iload_n X rfl dX12_does_15 ?_
  refine s_callVr X (m_X12_isPerson l) tw_1192 tw_1193 tw_1591 tw_134 tw_1194 rfl (by decide +kernel) ⟨by decide, by decide⟩ dX12_does_16 ?_
  refine s_if_ne X (tgt := 24) dX12_does_19 (by decide) ?_ ?_
  · refine s_aload_n X rfl dX12_does_24 ?_
    refine s_iload_n X rfl dX12_does_25 ?_
    refine s_iconst X ⟨by decide, by decide⟩ dX12_does_26 ?_
    refine s_callVr X (m_X12_deedOf l) tw_1205 tw_1206 tw_1558 tw_134 tw_1207 rfl (by decide +kernel) ⟨by decide, by decide⟩ dX12_does_27 ?_
    refine s_sw X (ts := [60, 74, 88, 95]) (td := 103) dX12_does_30 (by decide) (by decide) (by decide) rfl ?_ ?_
    · intro i t K ht hK
      match i, ht, hK with
      | 0, ht, hK =>
        cases ht
        cases hK
        refine s_aload_n X rfl dX12_does_60 ?_
        refine s_iload_n X rfl dX12_does_61 ?_
        refine s_aload_n X rfl dX12_does_62 ?_
        exact s_X12_does_63 X hJ
      | 1, ht, hK =>
        cases ht
        cases hK
        refine s_aload_n X rfl dX12_does_74 ?_
        refine s_iload_n X rfl dX12_does_75 ?_
        refine s_aload_n X rfl dX12_does_76 ?_
        refine s_bipush X ⟨by decide, by decide⟩ (by decide) dX12_does_77 ?_
        refine s_iload_n X rfl dX12_does_79 ?_
        refine s_iadd X dX12_does_80 ?_
        refine s_callVr X (m_X12_of l) tw_1189 tw_1190 tw_1603 tw_134 tw_1191 rfl (by decide +kernel) ⟨by decide, by decide⟩ dX12_does_81 ?_
        refine s_callV X (m_X12_bails l) tw_1227 tw_1228 tw_1548 tw_134 tw_1229 rfl (by decide +kernel) ⟨by decide, by decide⟩ dX12_does_84 ?_
        refine s_nw ?_
        exact s_zret X dX12_does_87
      | 2, ht, hK =>
        cases ht
        cases hK
        refine s_aload_n X rfl dX12_does_88 ?_
        refine s_iload_n X rfl dX12_does_89 ?_
        refine s_iload_n X rfl dX12_does_90 ?_
        refine s_callV X (m_X12_gives l) tw_1230 tw_1231 tw_1581 tw_134 tw_1232 rfl (by decide +kernel) ⟨by decide, by decide⟩ dX12_does_91 ?_
        refine s_nw ?_
        exact s_zret X dX12_does_94
      | 3, ht, hK =>
        cases ht
        cases hK
        refine s_aload_n X rfl dX12_does_95 ?_
        refine s_iload_n X rfl dX12_does_96 ?_
        refine s_iload_n X rfl dX12_does_97 ?_
        refine s_callV X (m_X12_stretches l) tw_1236 tw_1237 tw_1619 tw_134 tw_1238 rfl (by decide +kernel) ⟨by decide, by decide⟩ dX12_does_98 ?_
        refine s_nw ?_
        exact s_X12_does_101 X hJ
      | i + 4, ht, hK => exact absurd ht (by simp)
    · refine s_aload_n X rfl dX12_does_103 ?_
      refine s_iload_n X rfl dX12_does_104 ?_
      refine s_iload_n X rfl dX12_does_105 ?_
      refine s_aload_n X rfl dX12_does_106 ?_
      refine s_iload_n X rfl dX12_does_107 ?_
      refine s_iconst X ⟨by decide, by decide⟩ dX12_does_108 ?_
      refine s_callVr X (m_X12_deedOf l) tw_1205 tw_1206 tw_1558 tw_134 tw_1207 rfl (by decide +kernel) ⟨by decide, by decide⟩ dX12_does_109 ?_
      refine s_callV X (m_X12_gifts l) tw_1242 tw_1243 tw_1580 tw_134 tw_1244 rfl (by decide +kernel) ⟨by decide, by decide⟩ dX12_does_112 ?_
      refine s_nw ?_
      exact s_zret X dX12_does_115
  · refine s_iconst X ⟨by decide, by decide⟩ dX12_does_22 ?_
    exact s_zret X dX12_does_23

def sp_X12_does : qS := fun av w Q => ∃ (mco : Int) (mre : Int) (mle : Int) (mbe : Int) (mso : Int) (mva : Int) (mwo : Int) (mwr : Int) (mlf : Int) (mlp : Int) (mfp : Int) (mfd : Int) (mgo : Int) (mbo : Int) (mpe : Int) (mye : Int) (mpr : Int) (mld : Int) (msi : Int) (mse : Int) (tl : Nat → Int) (bs : Nat → Int) (ys : Nat → Int) (a : Int), av = [q2 0, q1 a] ∧ w = [.inr (12, [q1 mco, q2 4, q2 5, q2 6, q2 7, q2 8, q2 2, q2 3, q2 9, q2 10, q1 mre, q1 mle, q1 mbe, q1 mso, q1 mva, q3 mwo, q1 mwr, q1 mlf, q1 mlp, q2 11, q2 12, q1 mfp, q1 mfd, q1 mgo, q1 mbo, q1 mpe, q1 mye, q2 1, q1 mpr, q2 13, q2 14, q2 15, q2 16, q1 mld, q2 17, q1 msi, q2 18, q2 19, q2 20, q2 21, q2 22, q1 mse, q2 23, q2 24, q2 25]), .inl (0, 8, .inl tl), .inl (0, 600, .inl bs), .inl (0, 1288, .inl ys)] ∧ (0 ≤ mbo ∧ mbo ≤ 1) ∧ (0 ≤ mpe ∧ mpe ≤ 8) ∧ (BI bs) ∧ (0 ≤ mye ∧ mye ≤ 1) ∧ (YI ys) ∧ (0 ≤ a ∧ a ≤ 39) ∧ (∀ (r : Int) (x_tl : Nat → Int) (x_mpr : Int), (r = 0 ∨ r = 1) → Q (some (q1 r)) ([.inr (12, [q1 mco, q2 4, q2 5, q2 6, q2 7, q2 8, q2 2, q2 3, q2 9, q2 10, q1 mre, q1 mle, q1 mbe, q1 mso, q1 mva, q3 mwo, q1 mwr, q1 mlf, q1 mlp, q2 11, q2 12, q1 mfp, q1 mfd, q1 mgo, q1 mbo, q1 mpe, q1 mye, q2 1, q1 x_mpr, q2 13, q2 14, q2 15, q2 16, q1 mld, q2 17, q1 msi, q2 18, q2 19, q2 20, q2 21, q2 22, q1 mse, q2 23, q2 24, q2 25]), .inl (0, 8, .inl x_tl), .inl (0, 600, .inl bs), .inl (0, 1288, .inl ys)]))
set_option maxHeartbeats 4000000 in
set_option maxRecDepth 100000 in
theorem m_X12_does (l : Launch) : q_M l yX12_does cX12_does 4 (some .boolean) 3 66 sp_X12_does := by
  refine q_meth (by decide) (fun av w Q h => by obtain ⟨mco, mre, mle, mbe, mso, mva, mwo, mwr, mlf, mlp, mfp, mfd, mgo, mbo, mpe, mye, mpr, mld, msi, mse, tl, bs, ys, a, rfl, rfl, hbo, hpe, hbi, hye, hyi, ha, hQ⟩ := h; exact Nat.le_of_ble_eq_true rfl) ?_
  intro p e R s m args below meth c dC dI k g A av w Q hsp oka okw X
  obtain ⟨mco, mre, mle, mbe, mso, mva, mwo, mwr, mlf, mlp, mfp, mfd, mgo, mbo, mpe, mye, mpr, mld, msi, mse, tl, bs, ys, a, rfl, rfl, hbo, hpe, hbi, hye, hyi, ha, hQ⟩ := hsp
  have o_a : -2147483648 ≤ a ∧ a ≤ 2147483647 := oka _ (List.mem_of_getElem? (i := 1) rfl)
  refine s_mono (s_X12_does_0 X (J := fun _ _ _ _ => False) (fun d => s_cutF)) ?_
  rintro lv st w' ⟨rfl, rfl, rfl⟩
  refine Exists.intro [0, 3, 4, 5, 6, 7, 8, 2, 9, 10, 11, 12, 1, 13, 14, 15, 16, 17, 18, 19, 20, 21, 22, 23, 24, 25] (Exists.intro [q2 0, q1 _, q1 _] (Exists.intro ([.inr (12, [q1 _, q2 2, q2 3, q2 4, q2 5, q2 6, q2 7, q2 1, q2 8, q2 9, q1 _, q1 _, q1 _, q1 _, q1 _, q3 _, q1 _, q1 _, q1 _, q2 10, q2 11, q1 _, q1 _, q1 _, q1 _, q1 _, q1 _, q2 12, q1 _, q2 13, q2 14, q2 15, q2 16, q1 _, q2 17, q1 _, q2 18, q2 19, q2 20, q2 21, q2 22, q1 _, q2 23, q2 24, q2 25]), .inl (0, 1288, .inl _)]) (And.intro rfl (And.intro rfl (And.intro rfl (And.intro ⟨⟨_, rfl⟩, rfl⟩ ?_))))))
  refine Exists.intro _ (Exists.intro _ (Exists.intro _ (Exists.intro _ (Exists.intro _ (Exists.intro _ (Exists.intro _ (Exists.intro _ (Exists.intro _ (Exists.intro _ (Exists.intro _ (Exists.intro _ (Exists.intro _ (Exists.intro _ (Exists.intro _ (Exists.intro _ (Exists.intro _ (Exists.intro _ (Exists.intro _ (Exists.intro _ (Exists.intro _ (Exists.intro _ (Exists.intro _ (And.intro rfl (And.intro rfl (And.intro (by first | omega | assumption | exact q_rg_up (by assumption) (by omega) | exact q_rg_up (q_rg_up (by assumption) (by omega)) (by omega) | exact q_rg_cpy (by assumption) (by assumption)) (And.intro (by first | omega | assumption | exact q_rg_up (by assumption) (by omega) | exact q_rg_up (q_rg_up (by assumption) (by omega)) (by omega) | exact q_rg_cpy (by assumption) (by assumption)) (?_)))))))))))))))))))))))))))
  intro z3 h3
  refine Exists.intro [0, 3, 4, 5, 6, 7, 8, 2, 9, 10, 11, 12, 1, 13, 14, 15, 16, 17, 18, 19, 20, 21, 22, 23, 24, 25] (Exists.intro [q2 0, q1 _, q1 _] (Exists.intro ([.inr (12, [q1 _, q2 2, q2 3, q2 4, q2 5, q2 6, q2 7, q2 1, q2 8, q2 9, q1 _, q1 _, q1 _, q1 _, q1 _, q3 _, q1 _, q1 _, q1 _, q2 10, q2 11, q1 _, q1 _, q1 _, q1 _, q1 _, q1 _, q2 12, q1 _, q2 13, q2 14, q2 15, q2 16, q1 _, q2 17, q1 _, q2 18, q2 19, q2 20, q2 21, q2 22, q1 _, q2 23, q2 24, q2 25]), .inl (0, 1288, .inl _)]) (And.intro rfl (And.intro rfl (And.intro rfl (And.intro ⟨⟨_, rfl⟩, rfl⟩ ?_))))))
  refine Exists.intro _ (Exists.intro _ (Exists.intro _ (Exists.intro _ (Exists.intro _ (Exists.intro _ (Exists.intro _ (Exists.intro _ (Exists.intro _ (Exists.intro _ (Exists.intro _ (Exists.intro _ (Exists.intro _ (Exists.intro _ (Exists.intro _ (Exists.intro _ (Exists.intro _ (Exists.intro _ (Exists.intro _ (Exists.intro _ (Exists.intro _ (Exists.intro _ (Exists.intro _ (And.intro rfl (And.intro rfl (And.intro (by first | omega | assumption | exact q_rg_up (by assumption) (by omega) | exact q_rg_up (q_rg_up (by assumption) (by omega)) (by omega) | exact q_rg_cpy (by assumption) (by assumption)) (And.intro (by first | omega | assumption | exact q_rg_up (by assumption) (by omega) | exact q_rg_up (q_rg_up (by assumption) (by omega)) (by omega) | exact q_rg_cpy (by assumption) (by assumption)) (?_)))))))))))))))))))))))))))
  intro z10 h10
  refine Exists.intro [0, 4, 5, 6, 7, 8, 2, 3, 9, 10, 11, 12, 1, 13, 14, 15, 16, 17, 18, 19, 20, 21, 22, 23, 24, 25] (Exists.intro [q2 0, q1 _] (Exists.intro ([.inr (12, [q1 _, q2 1, q2 2, q2 3, q2 4, q2 5, q2 6, q2 7, q2 8, q2 9, q1 _, q1 _, q1 _, q1 _, q1 _, q3 _, q1 _, q1 _, q1 _, q2 10, q2 11, q1 _, q1 _, q1 _, q1 _, q1 _, q1 _, q2 12, q1 _, q2 13, q2 14, q2 15, q2 16, q1 _, q2 17, q1 _, q2 18, q2 19, q2 20, q2 21, q2 22, q1 _, q2 23, q2 24, q2 25])]) (And.intro rfl (And.intro rfl (And.intro rfl (And.intro ⟨⟨_, rfl⟩, rfl⟩ ?_))))))
  refine Exists.intro _ (Exists.intro _ (Exists.intro _ (Exists.intro _ (Exists.intro _ (Exists.intro _ (Exists.intro _ (Exists.intro _ (Exists.intro _ (Exists.intro _ (Exists.intro _ (Exists.intro _ (Exists.intro _ (Exists.intro _ (Exists.intro _ (Exists.intro _ (Exists.intro _ (Exists.intro _ (Exists.intro _ (Exists.intro _ (Exists.intro _ (And.intro rfl (And.intro rfl (And.intro (by first | omega | assumption | exact q_rg_up (by assumption) (by omega) | exact q_rg_up (q_rg_up (by assumption) (by omega)) (by omega) | exact q_rg_cpy (by assumption) (by assumption)) (?_))))))))))))))))))))))))
  intro z16 h16
  apply And.intro
  · intro h19
    first | replace h16 := dj1 h16 h19 | replace h16 := dj0 h16 h19
    refine Exists.intro [0, 3, 4, 5, 6, 7, 8, 2, 9, 10, 11, 12, 1, 13, 14, 15, 16, 17, 18, 19, 20, 21, 22, 23, 24, 25] (Exists.intro [q2 0, q1 _, q1 _] (Exists.intro ([.inr (12, [q1 _, q2 2, q2 3, q2 4, q2 5, q2 6, q2 7, q2 1, q2 8, q2 9, q1 _, q1 _, q1 _, q1 _, q1 _, q3 _, q1 _, q1 _, q1 _, q2 10, q2 11, q1 _, q1 _, q1 _, q1 _, q1 _, q1 _, q2 12, q1 _, q2 13, q2 14, q2 15, q2 16, q1 _, q2 17, q1 _, q2 18, q2 19, q2 20, q2 21, q2 22, q1 _, q2 23, q2 24, q2 25]), .inl (0, 1288, .inl _)]) (And.intro rfl (And.intro rfl (And.intro rfl (And.intro ⟨⟨_, rfl⟩, rfl⟩ ?_))))))
    refine Exists.intro _ (Exists.intro _ (Exists.intro _ (Exists.intro _ (Exists.intro _ (Exists.intro _ (Exists.intro _ (Exists.intro _ (Exists.intro _ (Exists.intro _ (Exists.intro _ (Exists.intro _ (Exists.intro _ (Exists.intro _ (Exists.intro _ (Exists.intro _ (Exists.intro _ (Exists.intro _ (Exists.intro _ (Exists.intro _ (Exists.intro _ (Exists.intro _ (Exists.intro _ (And.intro rfl (And.intro rfl (And.intro (by first | omega | assumption | exact q_rg_up (by assumption) (by omega) | exact q_rg_up (q_rg_up (by assumption) (by omega)) (by omega) | exact q_rg_cpy (by assumption) (by assumption)) (And.intro (by first | omega | assumption | exact q_rg_up (by assumption) (by omega) | exact q_rg_up (q_rg_up (by assumption) (by omega)) (by omega) | exact q_rg_cpy (by assumption) (by assumption)) (?_)))))))))))))))))))))))))))
    intro z27 h27
    have y27 : (z27 = 0 ∨ z27 = 1) → 0 ≤ z10 ∧ z10 ≤ 3 := YI_of hyi hye (by omega) h27 h10 (by omega) (by omega)
    apply And.intro
    · apply And.intro
      · intro h30
        intro z66 h66
        first | replace h66 := e_add h66 (by omega) | replace h66 := e_rng h66
        refine Exists.intro [0, 2, 4, 5, 6, 7, 8, 3, 9, 10, 11, 12, 1, 13, 14, 15, 16, 17, 18, 19, 20, 21, 22, 23, 24, 25] (Exists.intro [q2 0, q1 _] (Exists.intro ([.inr (12, [q1 _, q2 2, q2 3, q2 4, q2 5, q2 6, q2 1, q2 7, q2 8, q2 9, q1 _, q1 _, q1 _, q1 _, q1 _, q3 _, q1 _, q1 _, q1 _, q2 10, q2 11, q1 _, q1 _, q1 _, q1 _, q1 _, q1 _, q2 12, q1 _, q2 13, q2 14, q2 15, q2 16, q1 _, q2 17, q1 _, q2 18, q2 19, q2 20, q2 21, q2 22, q1 _, q2 23, q2 24, q2 25]), .inl (0, 600, .inl _)]) (And.intro rfl (And.intro rfl (And.intro rfl (And.intro ⟨⟨_, rfl⟩, rfl⟩ ?_))))))
        refine Exists.intro _ (Exists.intro _ (Exists.intro _ (Exists.intro _ (Exists.intro _ (Exists.intro _ (Exists.intro _ (Exists.intro _ (Exists.intro _ (Exists.intro _ (Exists.intro _ (Exists.intro _ (Exists.intro _ (Exists.intro _ (Exists.intro _ (Exists.intro _ (Exists.intro _ (Exists.intro _ (Exists.intro _ (Exists.intro _ (Exists.intro _ (Exists.intro _ (And.intro rfl (And.intro rfl (And.intro (by first | omega | assumption | exact q_rg_up (by assumption) (by omega) | exact q_rg_up (q_rg_up (by assumption) (by omega)) (by omega) | exact q_rg_cpy (by assumption) (by assumption)) (And.intro (by first | omega | assumption | exact q_rg_up (by assumption) (by omega) | exact q_rg_up (q_rg_up (by assumption) (by omega)) (by omega) | exact q_rg_cpy (by assumption) (by assumption)) (And.intro (by first | omega | assumption | exact q_rg_up (by assumption) (by omega) | exact q_rg_up (q_rg_up (by assumption) (by omega)) (by omega) | exact q_rg_cpy (by assumption) (by assumption)) (?_)))))))))))))))))))))))))))
        intro z67 h67
        obtain ⟨h67, k67⟩ := h67
        first | replace k67 := OFQ_13 k67 (by omega) | replace k67 := OFQ_21 k67 (by omega) | clear k67
        refine Exists.intro [0, 1, 4, 5, 6, 7, 8, 2, 3, 9, 10, 11, 12, 13, 14, 15, 16, 17, 18, 19, 20, 21, 22, 23, 24, 25] (Exists.intro [q2 0, q1 _, q1 _] (Exists.intro ([.inr (12, [q1 _, q2 2, q2 3, q2 4, q2 5, q2 6, q2 7, q2 8, q2 9, q2 10, q1 _, q1 _, q1 _, q1 _, q1 _, q3 _, q1 _, q1 _, q1 _, q2 11, q2 12, q1 _, q1 _, q1 _, q1 _, q1 _, q1 _, q2 1, q1 _, q2 13, q2 14, q2 15, q2 16, q1 _, q2 17, q1 _, q2 18, q2 19, q2 20, q2 21, q2 22, q1 _, q2 23, q2 24, q2 25]), .inl (0, 8, .inl _)]) (And.intro rfl (And.intro rfl (And.intro rfl (And.intro ⟨⟨_, rfl⟩, rfl⟩ ?_))))))
        refine Exists.intro _ (Exists.intro _ (Exists.intro _ (Exists.intro _ (Exists.intro _ (Exists.intro _ (Exists.intro _ (Exists.intro _ (Exists.intro _ (Exists.intro _ (Exists.intro _ (Exists.intro _ (Exists.intro _ (Exists.intro _ (Exists.intro _ (Exists.intro _ (Exists.intro _ (Exists.intro _ (Exists.intro _ (Exists.intro _ (Exists.intro _ (Exists.intro _ (Exists.intro _ (And.intro rfl (And.intro rfl (And.intro (by first | omega | assumption | exact q_rg_up (by assumption) (by omega) | exact q_rg_up (q_rg_up (by assumption) (by omega)) (by omega) | exact q_rg_cpy (by assumption) (by assumption)) (?_))))))))))))))))))))))))))
        intro z70 x_tl_70 x_mpr_70 h70
        apply And.intro
        · first | exact Or.inl rfl | exact Or.inr rfl | omega
        exact hQ _ _ _ (by first | omega | assumption | exact q_rg_up (by assumption) (by omega) | exact q_rg_up (q_rg_up (by assumption) (by omega)) (by omega) | exact q_rg_cpy (by assumption) (by assumption))
      apply And.intro
      · intro h30
        intro z80 h80
        first | replace h80 := e_add h80 (by omega) | replace h80 := e_rng h80
        refine Exists.intro [0, 2, 4, 5, 6, 7, 8, 3, 9, 10, 11, 12, 1, 13, 14, 15, 16, 17, 18, 19, 20, 21, 22, 23, 24, 25] (Exists.intro [q2 0, q1 _] (Exists.intro ([.inr (12, [q1 _, q2 2, q2 3, q2 4, q2 5, q2 6, q2 1, q2 7, q2 8, q2 9, q1 _, q1 _, q1 _, q1 _, q1 _, q3 _, q1 _, q1 _, q1 _, q2 10, q2 11, q1 _, q1 _, q1 _, q1 _, q1 _, q1 _, q2 12, q1 _, q2 13, q2 14, q2 15, q2 16, q1 _, q2 17, q1 _, q2 18, q2 19, q2 20, q2 21, q2 22, q1 _, q2 23, q2 24, q2 25]), .inl (0, 600, .inl _)]) (And.intro rfl (And.intro rfl (And.intro rfl (And.intro ⟨⟨_, rfl⟩, rfl⟩ ?_))))))
        refine Exists.intro _ (Exists.intro _ (Exists.intro _ (Exists.intro _ (Exists.intro _ (Exists.intro _ (Exists.intro _ (Exists.intro _ (Exists.intro _ (Exists.intro _ (Exists.intro _ (Exists.intro _ (Exists.intro _ (Exists.intro _ (Exists.intro _ (Exists.intro _ (Exists.intro _ (Exists.intro _ (Exists.intro _ (Exists.intro _ (Exists.intro _ (Exists.intro _ (And.intro rfl (And.intro rfl (And.intro (by first | omega | assumption | exact q_rg_up (by assumption) (by omega) | exact q_rg_up (q_rg_up (by assumption) (by omega)) (by omega) | exact q_rg_cpy (by assumption) (by assumption)) (And.intro (by first | omega | assumption | exact q_rg_up (by assumption) (by omega) | exact q_rg_up (q_rg_up (by assumption) (by omega)) (by omega) | exact q_rg_cpy (by assumption) (by assumption)) (And.intro (by first | omega | assumption | exact q_rg_up (by assumption) (by omega) | exact q_rg_up (q_rg_up (by assumption) (by omega)) (by omega) | exact q_rg_cpy (by assumption) (by assumption)) (?_)))))))))))))))))))))))))))
        intro z81 h81
        obtain ⟨h81, k81⟩ := h81
        first | replace k81 := OFQ_13 k81 (by omega) | replace k81 := OFQ_21 k81 (by omega) | clear k81
        refine Exists.intro [0, 1, 2, 4, 5, 6, 7, 8, 3, 9, 10, 11, 12, 13, 14, 15, 16, 17, 18, 19, 20, 21, 22, 23, 24, 25] (Exists.intro [q2 0, q1 _, q1 _] (Exists.intro ([.inr (12, [q1 _, q2 3, q2 4, q2 5, q2 6, q2 7, q2 2, q2 8, q2 9, q2 10, q1 _, q1 _, q1 _, q1 _, q1 _, q3 _, q1 _, q1 _, q1 _, q2 11, q2 12, q1 _, q1 _, q1 _, q1 _, q1 _, q1 _, q2 1, q1 _, q2 13, q2 14, q2 15, q2 16, q1 _, q2 17, q1 _, q2 18, q2 19, q2 20, q2 21, q2 22, q1 _, q2 23, q2 24, q2 25]), .inl (0, 8, .inl _), .inl (0, 600, .inl _)]) (And.intro rfl (And.intro rfl (And.intro rfl (And.intro ⟨⟨_, rfl⟩, rfl⟩ ?_))))))
        refine Exists.intro _ (Exists.intro _ (Exists.intro _ (Exists.intro _ (Exists.intro _ (Exists.intro _ (Exists.intro _ (Exists.intro _ (Exists.intro _ (Exists.intro _ (Exists.intro _ (Exists.intro _ (Exists.intro _ (Exists.intro _ (Exists.intro _ (Exists.intro _ (Exists.intro _ (Exists.intro _ (Exists.intro _ (Exists.intro _ (Exists.intro _ (Exists.intro _ (Exists.intro _ (Exists.intro _ (And.intro rfl (And.intro rfl (And.intro (by first | omega | assumption | exact q_rg_up (by assumption) (by omega) | exact q_rg_up (q_rg_up (by assumption) (by omega)) (by omega) | exact q_rg_cpy (by assumption) (by assumption)) (And.intro (by first | omega | assumption | exact q_rg_up (by assumption) (by omega) | exact q_rg_up (q_rg_up (by assumption) (by omega)) (by omega) | exact q_rg_cpy (by assumption) (by assumption)) (And.intro (by first | omega | assumption | exact q_rg_up (by assumption) (by omega) | exact q_rg_up (q_rg_up (by assumption) (by omega)) (by omega) | exact q_rg_cpy (by assumption) (by assumption)) (?_)))))))))))))))))))))))))))))
        intro z84 x_tl_84 x_mpr_84 h84
        apply And.intro
        · first | exact Or.inl rfl | exact Or.inr rfl | omega
        exact hQ _ _ _ (by first | omega | assumption | exact q_rg_up (by assumption) (by omega) | exact q_rg_up (q_rg_up (by assumption) (by omega)) (by omega) | exact q_rg_cpy (by assumption) (by assumption))
      apply And.intro
      · intro h30
        refine Exists.intro [0, 1, 2, 4, 5, 6, 7, 8, 3, 9, 10, 11, 12, 13, 14, 15, 16, 17, 18, 19, 20, 21, 22, 23, 24, 25] (Exists.intro [q2 0, q1 _, q1 _] (Exists.intro ([.inr (12, [q1 _, q2 3, q2 4, q2 5, q2 6, q2 7, q2 2, q2 8, q2 9, q2 10, q1 _, q1 _, q1 _, q1 _, q1 _, q3 _, q1 _, q1 _, q1 _, q2 11, q2 12, q1 _, q1 _, q1 _, q1 _, q1 _, q1 _, q2 1, q1 _, q2 13, q2 14, q2 15, q2 16, q1 _, q2 17, q1 _, q2 18, q2 19, q2 20, q2 21, q2 22, q1 _, q2 23, q2 24, q2 25]), .inl (0, 8, .inl _), .inl (0, 600, .inl _)]) (And.intro rfl (And.intro rfl (And.intro rfl (And.intro ⟨⟨_, rfl⟩, rfl⟩ ?_))))))
        refine Exists.intro _ (Exists.intro _ (Exists.intro _ (Exists.intro _ (Exists.intro _ (Exists.intro _ (Exists.intro _ (Exists.intro _ (Exists.intro _ (Exists.intro _ (Exists.intro _ (Exists.intro _ (Exists.intro _ (Exists.intro _ (Exists.intro _ (Exists.intro _ (Exists.intro _ (Exists.intro _ (Exists.intro _ (Exists.intro _ (Exists.intro _ (Exists.intro _ (Exists.intro _ (Exists.intro _ (And.intro rfl (And.intro rfl (And.intro (by first | omega | assumption | exact q_rg_up (by assumption) (by omega) | exact q_rg_up (q_rg_up (by assumption) (by omega)) (by omega) | exact q_rg_cpy (by assumption) (by assumption)) (And.intro (by first | omega | assumption | exact q_rg_up (by assumption) (by omega) | exact q_rg_up (q_rg_up (by assumption) (by omega)) (by omega) | exact q_rg_cpy (by assumption) (by assumption)) (And.intro (by first | omega | assumption | exact q_rg_up (by assumption) (by omega) | exact q_rg_up (q_rg_up (by assumption) (by omega)) (by omega) | exact q_rg_cpy (by assumption) (by assumption)) (?_)))))))))))))))))))))))))))))
        intro z91 x_tl_91 x_mpr_91 h91
        apply And.intro
        · first | exact Or.inl rfl | exact Or.inr rfl | omega
        exact hQ _ _ _ (by first | omega | assumption | exact q_rg_up (by assumption) (by omega) | exact q_rg_up (q_rg_up (by assumption) (by omega)) (by omega) | exact q_rg_cpy (by assumption) (by assumption))
      apply And.intro
      · intro h30
        refine Exists.intro [0, 1, 2, 4, 5, 6, 7, 8, 3, 9, 10, 11, 12, 13, 14, 15, 16, 17, 18, 19, 20, 21, 22, 23, 24, 25] (Exists.intro [q2 0, q1 _, q1 _] (Exists.intro ([.inr (12, [q1 _, q2 3, q2 4, q2 5, q2 6, q2 7, q2 2, q2 8, q2 9, q2 10, q1 _, q1 _, q1 _, q1 _, q1 _, q3 _, q1 _, q1 _, q1 _, q2 11, q2 12, q1 _, q1 _, q1 _, q1 _, q1 _, q1 _, q2 1, q1 _, q2 13, q2 14, q2 15, q2 16, q1 _, q2 17, q1 _, q2 18, q2 19, q2 20, q2 21, q2 22, q1 _, q2 23, q2 24, q2 25]), .inl (0, 8, .inl _), .inl (0, 600, .inl _)]) (And.intro rfl (And.intro rfl (And.intro rfl (And.intro ⟨⟨_, rfl⟩, rfl⟩ ?_))))))
        refine Exists.intro _ (Exists.intro _ (Exists.intro _ (Exists.intro _ (Exists.intro _ (Exists.intro _ (Exists.intro _ (Exists.intro _ (Exists.intro _ (Exists.intro _ (Exists.intro _ (Exists.intro _ (Exists.intro _ (Exists.intro _ (Exists.intro _ (Exists.intro _ (Exists.intro _ (Exists.intro _ (Exists.intro _ (Exists.intro _ (Exists.intro _ (Exists.intro _ (Exists.intro _ (Exists.intro _ (And.intro rfl (And.intro rfl (And.intro (by first | omega | assumption | exact q_rg_up (by assumption) (by omega) | exact q_rg_up (q_rg_up (by assumption) (by omega)) (by omega) | exact q_rg_cpy (by assumption) (by assumption)) (And.intro (by first | omega | assumption | exact q_rg_up (by assumption) (by omega) | exact q_rg_up (q_rg_up (by assumption) (by omega)) (by omega) | exact q_rg_cpy (by assumption) (by assumption)) (And.intro (by first | omega | assumption | exact q_rg_up (by assumption) (by omega) | exact q_rg_up (q_rg_up (by assumption) (by omega)) (by omega) | exact q_rg_cpy (by assumption) (by assumption)) (?_)))))))))))))))))))))))))))))
        intro x_tl_98
        apply And.intro
        · first | exact Or.inl rfl | exact Or.inr rfl | omega
        exact hQ _ _ _ (by first | omega | assumption | exact q_rg_up (by assumption) (by omega) | exact q_rg_up (q_rg_up (by assumption) (by omega)) (by omega) | exact q_rg_cpy (by assumption) (by assumption))
      exact trivial
    · intro h30
      refine Exists.intro [0, 3, 4, 5, 6, 7, 8, 2, 9, 10, 11, 12, 1, 13, 14, 15, 16, 17, 18, 19, 20, 21, 22, 23, 24, 25] (Exists.intro [q2 0, q1 _, q1 _] (Exists.intro ([.inr (12, [q1 _, q2 2, q2 3, q2 4, q2 5, q2 6, q2 7, q2 1, q2 8, q2 9, q1 _, q1 _, q1 _, q1 _, q1 _, q3 _, q1 _, q1 _, q1 _, q2 10, q2 11, q1 _, q1 _, q1 _, q1 _, q1 _, q1 _, q2 12, q1 _, q2 13, q2 14, q2 15, q2 16, q1 _, q2 17, q1 _, q2 18, q2 19, q2 20, q2 21, q2 22, q1 _, q2 23, q2 24, q2 25]), .inl (0, 1288, .inl _)]) (And.intro rfl (And.intro rfl (And.intro rfl (And.intro ⟨⟨_, rfl⟩, rfl⟩ ?_))))))
      refine Exists.intro _ (Exists.intro _ (Exists.intro _ (Exists.intro _ (Exists.intro _ (Exists.intro _ (Exists.intro _ (Exists.intro _ (Exists.intro _ (Exists.intro _ (Exists.intro _ (Exists.intro _ (Exists.intro _ (Exists.intro _ (Exists.intro _ (Exists.intro _ (Exists.intro _ (Exists.intro _ (Exists.intro _ (Exists.intro _ (Exists.intro _ (Exists.intro _ (Exists.intro _ (And.intro rfl (And.intro rfl (And.intro (by first | omega | assumption | exact q_rg_up (by assumption) (by omega) | exact q_rg_up (q_rg_up (by assumption) (by omega)) (by omega) | exact q_rg_cpy (by assumption) (by assumption)) (And.intro (by first | omega | assumption | exact q_rg_up (by assumption) (by omega) | exact q_rg_up (q_rg_up (by assumption) (by omega)) (by omega) | exact q_rg_cpy (by assumption) (by assumption)) (?_)))))))))))))))))))))))))))
      intro z109 h109
      refine Exists.intro [0, 1, 4, 5, 6, 7, 8, 2, 3, 9, 10, 11, 12, 13, 14, 15, 16, 17, 18, 19, 20, 21, 22, 23, 24, 25] (Exists.intro [q2 0, q1 _, q1 _, q1 _] (Exists.intro ([.inr (12, [q1 _, q2 2, q2 3, q2 4, q2 5, q2 6, q2 7, q2 8, q2 9, q2 10, q1 _, q1 _, q1 _, q1 _, q1 _, q3 _, q1 _, q1 _, q1 _, q2 11, q2 12, q1 _, q1 _, q1 _, q1 _, q1 _, q1 _, q2 1, q1 _, q2 13, q2 14, q2 15, q2 16, q1 _, q2 17, q1 _, q2 18, q2 19, q2 20, q2 21, q2 22, q1 _, q2 23, q2 24, q2 25]), .inl (0, 8, .inl _)]) (And.intro rfl (And.intro rfl (And.intro rfl (And.intro ⟨⟨_, rfl⟩, rfl⟩ ?_))))))
      refine Exists.intro _ (Exists.intro _ (Exists.intro _ (Exists.intro _ (Exists.intro _ (Exists.intro _ (Exists.intro _ (Exists.intro _ (Exists.intro _ (Exists.intro _ (Exists.intro _ (Exists.intro _ (Exists.intro _ (Exists.intro _ (Exists.intro _ (Exists.intro _ (Exists.intro _ (Exists.intro _ (Exists.intro _ (Exists.intro _ (Exists.intro _ (Exists.intro _ (Exists.intro _ (Exists.intro _ (And.intro rfl (And.intro rfl (And.intro (by first | omega | assumption | exact q_rg_up (by assumption) (by omega) | exact q_rg_up (q_rg_up (by assumption) (by omega)) (by omega) | exact q_rg_cpy (by assumption) (by assumption)) (And.intro (by first | omega | assumption | exact q_rg_up (by assumption) (by omega) | exact q_rg_up (q_rg_up (by assumption) (by omega)) (by omega) | exact q_rg_cpy (by assumption) (by assumption)) (?_))))))))))))))))))))))))))))
      intro z112 x_tl_112 h112
      apply And.intro
      · first | exact Or.inl rfl | exact Or.inr rfl | omega
      exact hQ _ _ _ (by first | omega | assumption | exact q_rg_up (by assumption) (by omega) | exact q_rg_up (q_rg_up (by assumption) (by omega)) (by omega) | exact q_rg_cpy (by assumption) (by assumption))
  · intro h19
    first | replace h16 := dj1 h16 h19 | replace h16 := dj0 h16 h19
    apply And.intro
    · first | exact Or.inl rfl | exact Or.inr rfl | omega
    exact hQ _ _ _ (by first | omega | assumption | exact q_rg_up (by assumption) (by omega) | exact q_rg_up (q_rg_up (by assumption) (by omega)) (by omega) | exact q_rg_cpy (by assumption) (by assumption))

theorem dX12_play_0 : decode cX12_play 0 = .ok (.aload_n 0, 1) := by decide +kernel
theorem dX12_play_1 : decode cX12_play 1 = .ok (.invokevirtual 345, 3) := by decide +kernel
theorem dX12_play_4 : decode cX12_play 4 = .ok (.iconst 0, 1) := by decide +kernel
theorem dX12_play_5 : decode cX12_play 5 = .ok (.istore_n 2, 1) := by decide +kernel
theorem dX12_play_6 : decode cX12_play 6 = .ok (.iload_n 2, 1) := by decide +kernel
theorem dX12_play_7 : decode cX12_play 7 = .ok (.iload_n 1, 1) := by decide +kernel
theorem dX12_play_8 : decode cX12_play 8 = .ok (.if_icmp .ge 17, 3) := by decide +kernel
theorem dX12_play_11 : decode cX12_play 11 = .ok (.aload_n 0, 1) := by decide +kernel
theorem dX12_play_12 : decode cX12_play 12 = .ok (.iload_n 2, 1) := by decide +kernel
theorem dX12_play_13 : decode cX12_play 13 = .ok (.invokevirtual 348, 3) := by decide +kernel
theorem dX12_play_16 : decode cX12_play 16 = .ok (.ifCond .eq 9, 3) := by decide +kernel
theorem dX12_play_19 : decode cX12_play 19 = .ok (.iinc 2 1, 3) := by decide +kernel
theorem dX12_play_22 : decode cX12_play 22 = .ok (.goto (-16), 3) := by decide +kernel
theorem dX12_play_25 : decode cX12_play 25 = .ok (.iload_n 2, 1) := by decide +kernel
theorem dX12_play_26 : decode cX12_play 26 = .ok (.ireturn, 1) := by decide +kernel
def is_X12_play : Nat → List Nat := fun d => if d = 6 then [0, 1, 2] else []
set_option maxRecDepth 100000 in
def b_X12_play_25 (J : Nat → List qV → List qV → qW → Prop) (Q : qR) : qK := x_iload 2 (x_iret Q)
set_option maxRecDepth 100000 in
theorem s_X12_play_25 {p : Program} {l : Launch} {e : Env} {R : Room} {s : State} {m : MethodId} {args : Array Value} {below : List Frame} {meth : Method} {c : Code} {nW : Nat} {dC : Nat → ClassId} {dI : Nat → Nat → Nat} {k : Nat → ClassId} {g : Nat → Nat} {A : Nat → Prop} {J : Nat → List qV → List qV → qW → Prop} {Q : qR} (X : q_X p R s m args meth c cX12_play 3 nW 4 89 RX12 (some .int) dC dI k g A) (hJ : ∀ d : Nat, q_Sd p l e R s m args below meth c 3 nW dC dI k g A (MQ below (q_post (dC, dI) k g nW Q A) args s 0 0 A) d (x_cut (is_X12_play d) (J d))) : q_Sd p l e R s m args below meth c 3 nW dC dI k g A (MQ below (q_post (dC, dI) k g nW Q A) args s 0 0 A) 25 (b_X12_play_25 J Q) := by
  unfold b_X12_play_25
  refine s_iload_n X rfl dX12_play_25 ?_
  exact s_iret X dX12_play_26
set_option maxRecDepth 100000 in
def b_X12_play_6 (J : Nat → List qV → List qV → qW → Prop) (Q : qR) : qK := x_iload 2 (x_iload 1 (x_icmp_ge (b_X12_play_25 J Q) (x_aload 0 (x_iload 2 (x_call (some 12) 2 sp_X12_does (x_nw (x_if_eq (b_X12_play_25 J Q) (x_iinc 2 1 (x_cut [0, 1, 2] (J 6))))))))))
set_option maxRecDepth 100000 in
theorem s_X12_play_6 {p : Program} {l : Launch} {e : Env} {R : Room} {s : State} {m : MethodId} {args : Array Value} {below : List Frame} {meth : Method} {c : Code} {nW : Nat} {dC : Nat → ClassId} {dI : Nat → Nat → Nat} {k : Nat → ClassId} {g : Nat → Nat} {A : Nat → Prop} {J : Nat → List qV → List qV → qW → Prop} {Q : qR} (X : q_X p R s m args meth c cX12_play 3 nW 4 89 RX12 (some .int) dC dI k g A) (hJ : ∀ d : Nat, q_Sd p l e R s m args below meth c 3 nW dC dI k g A (MQ below (q_post (dC, dI) k g nW Q A) args s 0 0 A) d (x_cut (is_X12_play d) (J d))) : q_Sd p l e R s m args below meth c 3 nW dC dI k g A (MQ below (q_post (dC, dI) k g nW Q A) args s 0 0 A) 6 (b_X12_play_6 J Q) := by
  unfold b_X12_play_6
  refine s_iload_n X rfl dX12_play_6 ?_
  refine s_iload_n X rfl dX12_play_7 ?_
  refine s_icmp_ge X (tgt := 25) dX12_play_8 (by decide) ?_ ?_
  · exact s_X12_play_25 X hJ
  · refine s_aload_n X rfl dX12_play_11 ?_
    refine s_iload_n X rfl dX12_play_12 ?_
    refine s_callV X (m_X12_does l) tw_1221 tw_1222 tw_1561 tw_134 tw_1223 rfl (by decide +kernel) ⟨by decide, by decide⟩ dX12_play_13 ?_
    refine s_nw ?_
    refine s_if_eq X (tgt := 25) dX12_play_16 (by decide) ?_ ?_
    · exact s_X12_play_25 X hJ
    · refine s_iinc X (by decide) dX12_play_19 ?_
      refine s_goto X (tgt := 6) dX12_play_22 (by decide) ?_
      exact hJ 6
set_option maxRecDepth 100000 in
def b_X12_play_0 (J : Nat → List qV → List qV → qW → Prop) (Q : qR) : qK := x_aload 0 (x_call (some 12) 1 sp_X12_begin (x_nw (x_int 0 (x_istore 2 (x_cut [0, 1, 2] (J 6))))))
set_option maxRecDepth 100000 in
theorem s_X12_play_0 {p : Program} {l : Launch} {e : Env} {R : Room} {s : State} {m : MethodId} {args : Array Value} {below : List Frame} {meth : Method} {c : Code} {nW : Nat} {dC : Nat → ClassId} {dI : Nat → Nat → Nat} {k : Nat → ClassId} {g : Nat → Nat} {A : Nat → Prop} {J : Nat → List qV → List qV → qW → Prop} {Q : qR} (X : q_X p R s m args meth c cX12_play 3 nW 4 89 RX12 (some .int) dC dI k g A) (hJ : ∀ d : Nat, q_Sd p l e R s m args below meth c 3 nW dC dI k g A (MQ below (q_post (dC, dI) k g nW Q A) args s 0 0 A) d (x_cut (is_X12_play d) (J d))) : q_Sd p l e R s m args below meth c 3 nW dC dI k g A (MQ below (q_post (dC, dI) k g nW Q A) args s 0 0 A) 0 (b_X12_play_0 J Q) := by
  unfold b_X12_play_0
  refine s_aload_n X rfl dX12_play_0 ?_
  refine s_callV X (m_X12_begin l) tw_1218 tw_1219 tw_1549 tw_134 tw_1220 rfl (by decide +kernel) ⟨by decide, by decide⟩ dX12_play_1 ?_
  refine s_nw ?_
  refine s_iconst X ⟨by decide, by decide⟩ dX12_play_4 ?_
  refine s_istore_n X rfl (by decide) dX12_play_5 ?_
  exact hJ 6

def sp_X12_play : qS := fun av w Q => ∃ (mco : Int) (mre : Int) (mle : Int) (mbe : Int) (mso : Int) (mva : Int) (mwo : Int) (mwr : Int) (mlf : Int) (mlp : Int) (mfp : Int) (mfd : Int) (mgo : Int) (mbo : Int) (mpe : Int) (mye : Int) (mpr : Int) (mld : Int) (msi : Int) (mse : Int) (tl : Nat → Int) (bs : Nat → Int) (ys : Nat → Int) (a : Int), av = [q2 0, q1 a] ∧ w = [.inr (12, [q1 mco, q2 4, q2 5, q2 6, q2 7, q2 8, q2 2, q2 3, q2 9, q2 10, q1 mre, q1 mle, q1 mbe, q1 mso, q1 mva, q3 mwo, q1 mwr, q1 mlf, q1 mlp, q2 11, q2 12, q1 mfp, q1 mfd, q1 mgo, q1 mbo, q1 mpe, q1 mye, q2 1, q1 mpr, q2 13, q2 14, q2 15, q2 16, q1 mld, q2 17, q1 msi, q2 18, q2 19, q2 20, q2 21, q2 22, q1 mse, q2 23, q2 24, q2 25]), .inl (0, 8, .inl tl), .inl (0, 600, .inl bs), .inl (0, 1288, .inl ys)] ∧ (0 ≤ mbo ∧ mbo ≤ 1) ∧ (0 ≤ mpe ∧ mpe ≤ 8) ∧ (BI bs) ∧ (0 ≤ mye ∧ mye ≤ 1) ∧ (YI ys) ∧ (a ≤ 40) ∧ (∀ (r : Int) (x_tl : Nat → Int) (x_mpr : Int), (0 ≤ r ∧ r ≤ 40) → Q (some (q1 r)) ([.inr (12, [q1 mco, q2 4, q2 5, q2 6, q2 7, q2 8, q2 2, q2 3, q2 9, q2 10, q1 mre, q1 mle, q1 mbe, q1 mso, q1 mva, q3 mwo, q1 mwr, q1 mlf, q1 mlp, q2 11, q2 12, q1 mfp, q1 mfd, q1 mgo, q1 mbo, q1 mpe, q1 mye, q2 1, q1 x_mpr, q2 13, q2 14, q2 15, q2 16, q1 mld, q2 17, q1 msi, q2 18, q2 19, q2 20, q2 21, q2 22, q1 mse, q2 23, q2 24, q2 25]), .inl (0, 8, .inl x_tl), .inl (0, 600, .inl bs), .inl (0, 1288, .inl ys)]))
def I_X12_play (mco : Int) (mre : Int) (mle : Int) (mbe : Int) (mso : Int) (mva : Int) (mwo : Int) (mwr : Int) (mlf : Int) (mlp : Int) (mfp : Int) (mfd : Int) (mgo : Int) (mbo : Int) (mpe : Int) (mye : Int) (mpr : Int) (mld : Int) (msi : Int) (mse : Int) (tl : Nat → Int) (bs : Nat → Int) (ys : Nat → Int) (a : Int) : Nat → Nat → List qV → List qV → qW → Prop := fun dz mz vz sz wz => if dz = 6 then (∃ (y_tl : Nat → Int) (y_mpr : Int) (v2 : Int), vz = [q2 0, q1 a, q1 v2] ∧ sz = [] ∧ wz = [.inr (12, [q1 mco, q2 4, q2 5, q2 6, q2 7, q2 8, q2 2, q2 3, q2 9, q2 10, q1 mre, q1 mle, q1 mbe, q1 mso, q1 mva, q3 mwo, q1 mwr, q1 mlf, q1 mlp, q2 11, q2 12, q1 mfp, q1 mfd, q1 mgo, q1 mbo, q1 mpe, q1 mye, q2 1, q1 y_mpr, q2 13, q2 14, q2 15, q2 16, q1 mld, q2 17, q1 msi, q2 18, q2 19, q2 20, q2 21, q2 22, q1 mse, q2 23, q2 24, q2 25]), .inl (0, 8, .inl y_tl), .inl (0, 600, .inl bs), .inl (0, 1288, .inl ys)] ∧ mz = (40 - v2).toNat ∧ (0 ≤ v2 ∧ v2 ≤ 40)) else False
set_option maxHeartbeats 4000000 in
set_option maxRecDepth 100000 in
theorem m_X12_play (l : Launch) : q_M l yX12_play cX12_play 3 (some .int) 4 89 sp_X12_play := by
  refine q_meth (by decide) (fun av w Q h => by obtain ⟨mco, mre, mle, mbe, mso, mva, mwo, mwr, mlf, mlp, mfp, mfd, mgo, mbo, mpe, mye, mpr, mld, msi, mse, tl, bs, ys, a, rfl, rfl, hbo, hpe, hbi, hye, hyi, ha, hQ⟩ := h; exact Nat.le_of_ble_eq_true rfl) ?_
  intro p e R s m args below meth c dC dI k g A av w Q hsp oka okw X
  obtain ⟨mco, mre, mle, mbe, mso, mva, mwo, mwr, mlf, mlp, mfp, mfd, mgo, mbo, mpe, mye, mpr, mld, msi, mse, tl, bs, ys, a, rfl, rfl, hbo, hpe, hbi, hye, hyi, ha, hQ⟩ := hsp
  have o_a : -2147483648 ≤ a ∧ a ≤ 2147483647 := oka _ (List.mem_of_getElem? (i := 1) rfl)
  refine s_mono (s_X12_play_0 X (J := fun dz vz sz wz => ∃ mz, I_X12_play mco mre mle mbe mso mva mwo mwr mlf mlp mfp mfd mgo mbo mpe mye mpr mld msi mse tl bs ys a dz mz vz sz wz) (q_loopn (I_X12_play mco mre mle mbe mso mva mwo mwr mlf mlp mfp mfd mgo mbo mpe mye mpr mld msi mse tl bs ys a) (fun dz J => if dz = 6 then b_X12_play_6 J Q else q_F) ?hs ?hv)) ?_
  case hs =>
    intro d J hJ
    by_cases h6 : d = 6
    · subst h6; exact s_X12_play_6 X hJ
    simp only [h6, if_false]
    exact s_F
  case hv =>
    intro dz mz vz sz wz hI okv oks okw hlen
    by_cases h6 : dz = 6
    · subst h6
      obtain ⟨y_tl, y_mpr, v2, rfl, rfl, rfl, hn, hp⟩ := hI
      apply And.intro
      · intro h8
        exact hQ _ _ _ (by first | omega | assumption | exact q_rg_up (by assumption) (by omega) | exact q_rg_up (q_rg_up (by assumption) (by omega)) (by omega) | exact q_rg_cpy (by assumption) (by assumption))
      · intro h8
        refine Exists.intro [0, 1, 2, 3, 4, 5, 6, 7, 8, 9, 10, 11, 12, 13, 14, 15, 16, 17, 18, 19, 20, 21, 22, 23, 24, 25] (Exists.intro [q2 0, q1 _] (Exists.intro ([.inr (12, [q1 _, q2 4, q2 5, q2 6, q2 7, q2 8, q2 2, q2 3, q2 9, q2 10, q1 _, q1 _, q1 _, q1 _, q1 _, q3 _, q1 _, q1 _, q1 _, q2 11, q2 12, q1 _, q1 _, q1 _, q1 _, q1 _, q1 _, q2 1, q1 _, q2 13, q2 14, q2 15, q2 16, q1 _, q2 17, q1 _, q2 18, q2 19, q2 20, q2 21, q2 22, q1 _, q2 23, q2 24, q2 25]), .inl (0, 8, .inl _), .inl (0, 600, .inl _), .inl (0, 1288, .inl _)]) (And.intro rfl (And.intro rfl (And.intro rfl (And.intro ⟨⟨_, rfl⟩, rfl⟩ ?_))))))
        refine Exists.intro _ (Exists.intro _ (Exists.intro _ (Exists.intro _ (Exists.intro _ (Exists.intro _ (Exists.intro _ (Exists.intro _ (Exists.intro _ (Exists.intro _ (Exists.intro _ (Exists.intro _ (Exists.intro _ (Exists.intro _ (Exists.intro _ (Exists.intro _ (Exists.intro _ (Exists.intro _ (Exists.intro _ (Exists.intro _ (Exists.intro _ (Exists.intro _ (Exists.intro _ (Exists.intro _ (And.intro rfl (And.intro rfl (And.intro (by first | omega | assumption | exact q_rg_up (by assumption) (by omega) | exact q_rg_up (q_rg_up (by assumption) (by omega)) (by omega) | exact q_rg_cpy (by assumption) (by assumption)) (And.intro (by first | omega | assumption | exact q_rg_up (by assumption) (by omega) | exact q_rg_up (q_rg_up (by assumption) (by omega)) (by omega) | exact q_rg_cpy (by assumption) (by assumption)) (And.intro (by first | omega | assumption | exact q_rg_up (by assumption) (by omega) | exact q_rg_up (q_rg_up (by assumption) (by omega)) (by omega) | exact q_rg_cpy (by assumption) (by assumption)) (And.intro (by first | omega | assumption | exact q_rg_up (by assumption) (by omega) | exact q_rg_up (q_rg_up (by assumption) (by omega)) (by omega) | exact q_rg_cpy (by assumption) (by assumption)) (And.intro (by first | omega | assumption | exact q_rg_up (by assumption) (by omega) | exact q_rg_up (q_rg_up (by assumption) (by omega)) (by omega) | exact q_rg_cpy (by assumption) (by assumption)) (And.intro (by first | omega | assumption | exact q_rg_up (by assumption) (by omega) | exact q_rg_up (q_rg_up (by assumption) (by omega)) (by omega) | exact q_rg_cpy (by assumption) (by assumption)) (?_))))))))))))))))))))))))))))))))
        intro z13 x_tl_13 x_mpr_13 h13
        apply And.intro
        · intro h16
          exact hQ _ _ _ (by first | omega | assumption | exact q_rg_up (by assumption) (by omega) | exact q_rg_up (q_rg_up (by assumption) (by omega)) (by omega) | exact q_rg_cpy (by assumption) (by assumption))
        · intro h16
          intro z19 h19
          first | replace h19 := e_add h19 (by omega) | replace h19 := e_rng h19
          exact ⟨_, ⟨_, _, _, rfl, rfl, rfl, rfl, (by first | omega | assumption | exact q_rg_up (by assumption) (by omega) | exact q_rg_up (q_rg_up (by assumption) (by omega)) (by omega) | exact q_rg_cpy (by assumption) (by assumption))⟩, by omega⟩
    simp only [I_X12_play, h6, if_false] at hI
  rintro lv st w' ⟨rfl, rfl, rfl⟩
  refine Exists.intro [0, 1, 2, 4, 5, 6, 7, 8, 3, 9, 10, 11, 12, 13, 14, 15, 16, 17, 18, 19, 20, 21, 22, 23, 24, 25] (Exists.intro [q2 0] (Exists.intro ([.inr (12, [q1 _, q2 3, q2 4, q2 5, q2 6, q2 7, q2 2, q2 8, q2 9, q2 10, q1 _, q1 _, q1 _, q1 _, q1 _, q3 _, q1 _, q1 _, q1 _, q2 11, q2 12, q1 _, q1 _, q1 _, q1 _, q1 _, q1 _, q2 1, q1 _, q2 13, q2 14, q2 15, q2 16, q1 _, q2 17, q1 _, q2 18, q2 19, q2 20, q2 21, q2 22, q1 _, q2 23, q2 24, q2 25]), .inl (0, 8, .inl _), .inl (0, 600, .inl _)]) (And.intro rfl (And.intro rfl (And.intro rfl (And.intro ⟨⟨_, rfl⟩, rfl⟩ ?_))))))
  refine Exists.intro _ (Exists.intro _ (Exists.intro _ (Exists.intro _ (Exists.intro _ (Exists.intro _ (Exists.intro _ (Exists.intro _ (Exists.intro _ (Exists.intro _ (Exists.intro _ (Exists.intro _ (Exists.intro _ (Exists.intro _ (Exists.intro _ (Exists.intro _ (Exists.intro _ (Exists.intro _ (Exists.intro _ (Exists.intro _ (Exists.intro _ (Exists.intro _ (And.intro rfl (And.intro rfl (And.intro (by first | omega | assumption | exact q_rg_up (by assumption) (by omega) | exact q_rg_up (q_rg_up (by assumption) (by omega)) (by omega) | exact q_rg_cpy (by assumption) (by assumption)) (And.intro (by first | omega | assumption | exact q_rg_up (by assumption) (by omega) | exact q_rg_up (q_rg_up (by assumption) (by omega)) (by omega) | exact q_rg_cpy (by assumption) (by assumption)) (?_))))))))))))))))))))))))))
  intro x_tl_1 x_mpr_1
  exact ⟨_, _, _, _, rfl, rfl, rfl, rfl, (by first | omega | assumption | exact q_rg_up (by assumption) (by omega) | exact q_rg_up (q_rg_up (by assumption) (by omega)) (by omega) | exact q_rg_cpy (by assumption) (by assumption))⟩

theorem dX12_layAll_0 : decode cX12_layAll 0 = .ok (.aload_n 0, 1) := by decide +kernel
theorem dX12_layAll_1 : decode cX12_layAll 1 = .ok (.iload_n 2, 1) := by decide +kernel
theorem dX12_layAll_2 : decode cX12_layAll 2 = .ok (.invokevirtual 315, 3) := by decide +kernel
theorem dX12_layAll_5 : decode cX12_layAll 5 = .ok (.ifCond .eq 15, 3) := by decide +kernel
theorem dX12_layAll_8 : decode cX12_layAll 8 = .ok (.aload_n 0, 1) := by decide +kernel
theorem dX12_layAll_9 : decode cX12_layAll 9 = .ok (.iload_n 1, 1) := by decide +kernel
theorem dX12_layAll_10 : decode cX12_layAll 10 = .ok (.invokevirtual 306, 3) := by decide +kernel
theorem dX12_layAll_13 : decode cX12_layAll 13 = .ok (.ifCond .eq 7, 3) := by decide +kernel
theorem dX12_layAll_16 : decode cX12_layAll 16 = .ok (.iconst 1, 1) := by decide +kernel
theorem dX12_layAll_17 : decode cX12_layAll 17 = .ok (.goto 4, 3) := by decide +kernel
theorem dX12_layAll_20 : decode cX12_layAll 20 = .ok (.iconst 0, 1) := by decide +kernel
theorem dX12_layAll_21 : decode cX12_layAll 21 = .ok (.ireturn, 1) := by decide +kernel
def is_X12_layAll : Nat → List Nat := fun d => []
set_option maxRecDepth 100000 in
def b_X12_layAll_21 (J : Nat → List qV → List qV → qW → Prop) (Q : qR) : qK := x_zret Q
set_option maxRecDepth 100000 in
theorem s_X12_layAll_21 {p : Program} {l : Launch} {e : Env} {R : Room} {s : State} {m : MethodId} {args : Array Value} {below : List Frame} {meth : Method} {c : Code} {nW : Nat} {dC : Nat → ClassId} {dI : Nat → Nat → Nat} {k : Nat → ClassId} {g : Nat → Nat} {A : Nat → Prop} {J : Nat → List qV → List qV → qW → Prop} {Q : qR} (X : q_X p R s m args meth c cX12_layAll 3 nW 3 65 RX12 (some .boolean) dC dI k g A) (hJ : ∀ d : Nat, q_Sd p l e R s m args below meth c 3 nW dC dI k g A (MQ below (q_post (dC, dI) k g nW Q A) args s 0 0 A) d (x_cut (is_X12_layAll d) (J d))) : q_Sd p l e R s m args below meth c 3 nW dC dI k g A (MQ below (q_post (dC, dI) k g nW Q A) args s 0 0 A) 21 (b_X12_layAll_21 J Q) := by
  unfold b_X12_layAll_21
  exact s_zret X dX12_layAll_21
set_option maxRecDepth 100000 in
def b_X12_layAll_20 (J : Nat → List qV → List qV → qW → Prop) (Q : qR) : qK := x_int 0 (b_X12_layAll_21 J Q)
set_option maxRecDepth 100000 in
theorem s_X12_layAll_20 {p : Program} {l : Launch} {e : Env} {R : Room} {s : State} {m : MethodId} {args : Array Value} {below : List Frame} {meth : Method} {c : Code} {nW : Nat} {dC : Nat → ClassId} {dI : Nat → Nat → Nat} {k : Nat → ClassId} {g : Nat → Nat} {A : Nat → Prop} {J : Nat → List qV → List qV → qW → Prop} {Q : qR} (X : q_X p R s m args meth c cX12_layAll 3 nW 3 65 RX12 (some .boolean) dC dI k g A) (hJ : ∀ d : Nat, q_Sd p l e R s m args below meth c 3 nW dC dI k g A (MQ below (q_post (dC, dI) k g nW Q A) args s 0 0 A) d (x_cut (is_X12_layAll d) (J d))) : q_Sd p l e R s m args below meth c 3 nW dC dI k g A (MQ below (q_post (dC, dI) k g nW Q A) args s 0 0 A) 20 (b_X12_layAll_20 J Q) := by
  unfold b_X12_layAll_20
  refine s_iconst X ⟨by decide, by decide⟩ dX12_layAll_20 ?_
  exact s_X12_layAll_21 X hJ
set_option maxRecDepth 100000 in
def b_X12_layAll_0 (J : Nat → List qV → List qV → qW → Prop) (Q : qR) : qK := x_aload 0 (x_iload 2 (x_call (some 12) 2 sp_X12_hasYear (x_nw (x_if_eq (b_X12_layAll_20 J Q) (x_aload 0 (x_iload 1 (x_call (some 12) 2 sp_X12_hand (x_nw (x_if_eq (b_X12_layAll_20 J Q) (x_int 1 (b_X12_layAll_21 J Q)))))))))))
set_option maxRecDepth 100000 in
theorem s_X12_layAll_0 {p : Program} {l : Launch} {e : Env} {R : Room} {s : State} {m : MethodId} {args : Array Value} {below : List Frame} {meth : Method} {c : Code} {nW : Nat} {dC : Nat → ClassId} {dI : Nat → Nat → Nat} {k : Nat → ClassId} {g : Nat → Nat} {A : Nat → Prop} {J : Nat → List qV → List qV → qW → Prop} {Q : qR} (X : q_X p R s m args meth c cX12_layAll 3 nW 3 65 RX12 (some .boolean) dC dI k g A) (hJ : ∀ d : Nat, q_Sd p l e R s m args below meth c 3 nW dC dI k g A (MQ below (q_post (dC, dI) k g nW Q A) args s 0 0 A) d (x_cut (is_X12_layAll d) (J d))) : q_Sd p l e R s m args below meth c 3 nW dC dI k g A (MQ below (q_post (dC, dI) k g nW Q A) args s 0 0 A) 0 (b_X12_layAll_0 J Q) := by
  unfold b_X12_layAll_0
  refine s_aload_n X rfl dX12_layAll_0 ?_
  refine s_iload_n X rfl dX12_layAll_1 ?_
  refine s_callV X (m_X12_hasYear l) tw_1199 tw_1200 tw_1589 tw_134 tw_1201 rfl (by decide +kernel) ⟨by decide, by decide⟩ dX12_layAll_2 ?_
  refine s_nw ?_
  refine s_if_eq X (tgt := 20) dX12_layAll_5 (by decide) ?_ ?_
  · exact s_X12_layAll_20 X hJ
  · refine s_aload_n X rfl dX12_layAll_8 ?_
    refine s_iload_n X rfl dX12_layAll_9 ?_
    refine s_callV X (m_X12_hand l) tw_1186 tw_1187 tw_1585 tw_134 tw_1188 rfl (by decide +kernel) ⟨by decide, by decide⟩ dX12_layAll_10 ?_
    refine s_nw ?_
    refine s_if_eq X (tgt := 20) dX12_layAll_13 (by decide) ?_ ?_
    · exact s_X12_layAll_20 X hJ
    · refine s_iconst X ⟨by decide, by decide⟩ dX12_layAll_16 ?_
      refine s_goto X (tgt := 21) dX12_layAll_17 (by decide) ?_
      exact s_X12_layAll_21 X hJ

def sp_X12_layAll : qS := fun av w Q => ∃ (mco : Int) (mre : Int) (mle : Int) (mbe : Int) (mso : Int) (mva : Int) (mwo : Int) (mwr : Int) (mlf : Int) (mlp : Int) (mfp : Int) (mfd : Int) (mgo : Int) (mbo : Int) (mpe : Int) (mye : Int) (mpr : Int) (mld : Int) (msi : Int) (mse : Int) (mn : Nat → Int) (bs : Nat → Int) (a : Int) (b : Int), av = [q2 0, q1 a, q1 b] ∧ w = [.inr (12, [q1 mco, q2 3, q2 4, q2 5, q2 6, q2 1, q2 2, q2 7, q2 8, q2 9, q1 mre, q1 mle, q1 mbe, q1 mso, q1 mva, q3 mwo, q1 mwr, q1 mlf, q1 mlp, q2 10, q2 11, q1 mfp, q1 mfd, q1 mgo, q1 mbo, q1 mpe, q1 mye, q2 12, q1 mpr, q2 13, q2 14, q2 15, q2 16, q1 mld, q2 17, q1 msi, q2 18, q2 19, q2 20, q2 21, q2 22, q1 mse, q2 23, q2 24, q2 25]), .inl (0, 16, .inl mn), .inl (0, 600, .inl bs)] ∧ (q_rg 0 2 mn) ∧ (BI bs) ∧ (∀ (r : Int) (x_mye : Int) (x_mbo : Int) (x_mpe : Int), (r = 1 ∧ (0 ≤ x_mye ∧ x_mye ≤ 1 ∧ 0 ≤ x_mbo ∧ x_mbo ≤ 1 ∧ 0 ≤ x_mpe ∧ x_mpe ≤ 8 ∧ x_mpe = ofR bs x_mbo 0) ∨ r = 0 ∧ r ≤ 0) → Q (some (q1 r)) ([.inr (12, [q1 mco, q2 3, q2 4, q2 5, q2 6, q2 1, q2 2, q2 7, q2 8, q2 9, q1 mre, q1 mle, q1 mbe, q1 mso, q1 mva, q3 mwo, q1 mwr, q1 mlf, q1 mlp, q2 10, q2 11, q1 mfp, q1 mfd, q1 mgo, q1 x_mbo, q1 x_mpe, q1 x_mye, q2 12, q1 mpr, q2 13, q2 14, q2 15, q2 16, q1 mld, q2 17, q1 msi, q2 18, q2 19, q2 20, q2 21, q2 22, q1 mse, q2 23, q2 24, q2 25]), .inl (0, 16, .inl mn), .inl (0, 600, .inl bs)]))
set_option maxHeartbeats 4000000 in
set_option maxRecDepth 100000 in
theorem m_X12_layAll (l : Launch) : q_M l yX12_layAll cX12_layAll 3 (some .boolean) 3 65 sp_X12_layAll := by
  refine q_meth (by decide) (fun av w Q h => by obtain ⟨mco, mre, mle, mbe, mso, mva, mwo, mwr, mlf, mlp, mfp, mfd, mgo, mbo, mpe, mye, mpr, mld, msi, mse, mn, bs, a, b, rfl, rfl, hmn, hbi, hQ⟩ := h; exact Nat.le_of_ble_eq_true rfl) ?_
  intro p e R s m args below meth c dC dI k g A av w Q hsp oka okw X
  obtain ⟨mco, mre, mle, mbe, mso, mva, mwo, mwr, mlf, mlp, mfp, mfd, mgo, mbo, mpe, mye, mpr, mld, msi, mse, mn, bs, a, b, rfl, rfl, hmn, hbi, hQ⟩ := hsp
  have o_a : -2147483648 ≤ a ∧ a ≤ 2147483647 := oka _ (List.mem_of_getElem? (i := 1) rfl)
  have o_b : -2147483648 ≤ b ∧ b ≤ 2147483647 := oka _ (List.mem_of_getElem? (i := 2) rfl)
  refine s_mono (s_X12_layAll_0 X (J := fun _ _ _ _ => False) (fun d => s_cutF)) ?_
  rintro lv st w' ⟨rfl, rfl, rfl⟩
  refine Exists.intro [0, 1, 3, 4, 5, 6, 2, 7, 8, 9, 10, 11, 12, 13, 14, 15, 16, 17, 18, 19, 20, 21, 22, 23, 24, 25] (Exists.intro [q2 0, q1 _] (Exists.intro ([.inr (12, [q1 _, q2 2, q2 3, q2 4, q2 5, q2 1, q2 6, q2 7, q2 8, q2 9, q1 _, q1 _, q1 _, q1 _, q1 _, q3 _, q1 _, q1 _, q1 _, q2 10, q2 11, q1 _, q1 _, q1 _, q1 _, q1 _, q1 _, q2 12, q1 _, q2 13, q2 14, q2 15, q2 16, q1 _, q2 17, q1 _, q2 18, q2 19, q2 20, q2 21, q2 22, q1 _, q2 23, q2 24, q2 25]), .inl (0, 16, .inl _)]) (And.intro rfl (And.intro rfl (And.intro rfl (And.intro ⟨⟨_, rfl⟩, rfl⟩ ?_))))))
  refine Exists.intro _ (Exists.intro _ (Exists.intro _ (Exists.intro _ (Exists.intro _ (Exists.intro _ (Exists.intro _ (Exists.intro _ (Exists.intro _ (Exists.intro _ (Exists.intro _ (Exists.intro _ (Exists.intro _ (Exists.intro _ (Exists.intro _ (Exists.intro _ (Exists.intro _ (Exists.intro _ (Exists.intro _ (Exists.intro _ (Exists.intro _ (Exists.intro _ (And.intro rfl (And.intro rfl (And.intro (by first | omega | assumption | exact q_rg_up (by assumption) (by omega) | exact q_rg_up (q_rg_up (by assumption) (by omega)) (by omega) | exact q_rg_cpy (by assumption) (by assumption)) (?_)))))))))))))))))))))))))
  intro z2 x_mye_2 h2
  apply And.intro
  · intro h5
    first | replace h2 := dj1 h2 h5 | replace h2 := dj0 h2 h5
    apply And.intro
    · first | exact Or.inl rfl | exact Or.inr rfl | omega
    exact hQ _ _ _ _ (by first | omega | assumption | exact q_rg_up (by assumption) (by omega) | exact q_rg_up (q_rg_up (by assumption) (by omega)) (by omega) | exact q_rg_cpy (by assumption) (by assumption))
  · intro h5
    first | replace h2 := dj1 h2 h5 | replace h2 := dj0 h2 h5
    refine Exists.intro [0, 1, 2, 3, 4, 5, 6, 7, 8, 9, 10, 11, 12, 13, 14, 15, 16, 17, 18, 19, 20, 21, 22, 23, 24, 25] (Exists.intro [q2 0, q1 _] (Exists.intro ([.inr (12, [q1 _, q2 3, q2 4, q2 5, q2 6, q2 1, q2 2, q2 7, q2 8, q2 9, q1 _, q1 _, q1 _, q1 _, q1 _, q3 _, q1 _, q1 _, q1 _, q2 10, q2 11, q1 _, q1 _, q1 _, q1 _, q1 _, q1 _, q2 12, q1 _, q2 13, q2 14, q2 15, q2 16, q1 _, q2 17, q1 _, q2 18, q2 19, q2 20, q2 21, q2 22, q1 _, q2 23, q2 24, q2 25]), .inl (0, 16, .inl _), .inl (0, 600, .inl _)]) (And.intro rfl (And.intro rfl (And.intro rfl (And.intro ⟨⟨_, rfl⟩, rfl⟩ ?_))))))
    refine Exists.intro _ (Exists.intro _ (Exists.intro _ (Exists.intro _ (Exists.intro _ (Exists.intro _ (Exists.intro _ (Exists.intro _ (Exists.intro _ (Exists.intro _ (Exists.intro _ (Exists.intro _ (Exists.intro _ (Exists.intro _ (Exists.intro _ (Exists.intro _ (Exists.intro _ (Exists.intro _ (Exists.intro _ (Exists.intro _ (Exists.intro _ (Exists.intro _ (Exists.intro _ (And.intro rfl (And.intro rfl (And.intro (by first | omega | assumption | exact q_rg_up (by assumption) (by omega) | exact q_rg_up (q_rg_up (by assumption) (by omega)) (by omega) | exact q_rg_cpy (by assumption) (by assumption)) (And.intro (by first | omega | assumption | exact q_rg_up (by assumption) (by omega) | exact q_rg_up (q_rg_up (by assumption) (by omega)) (by omega) | exact q_rg_cpy (by assumption) (by assumption)) (?_)))))))))))))))))))))))))))
    intro z10 x_mbo_10 x_mpe_10 h10
    apply And.intro
    · intro h13
      first | replace h10 := dj1 h10 h13 | replace h10 := dj0 h10 h13
      apply And.intro
      · first | exact Or.inl rfl | exact Or.inr rfl | omega
      exact hQ _ _ _ _ (by first | omega | assumption | exact q_rg_up (by assumption) (by omega) | exact q_rg_up (q_rg_up (by assumption) (by omega)) (by omega) | exact q_rg_cpy (by assumption) (by assumption))
    · intro h13
      first | replace h10 := dj1 h10 h13 | replace h10 := dj0 h10 h13
      apply And.intro
      · first | exact Or.inl rfl | exact Or.inr rfl | omega
      exact hQ _ _ _ _ (by first | omega | assumption | exact q_rg_up (by assumption) (by omega) | exact q_rg_up (q_rg_up (by assumption) (by omega)) (by omega) | exact q_rg_cpy (by assumption) (by assumption))

theorem dX12_stop_0 : decode cX12_stop 0 = .ok (.aload_n 0, 1) := by decide +kernel
theorem dX12_stop_1 : decode cX12_stop 1 = .ok (.iconst 0, 1) := by decide +kernel
theorem dX12_stop_2 : decode cX12_stop 2 = .ok (.putfield 88, 3) := by decide +kernel
theorem dX12_stop_5 : decode cX12_stop 5 = .ok (.aload_n 0, 1) := by decide +kernel
theorem dX12_stop_6 : decode cX12_stop 6 = .ok (.iload_n 1, 1) := by decide +kernel
theorem dX12_stop_7 : decode cX12_stop 7 = .ok (.iload_n 2, 1) := by decide +kernel
theorem dX12_stop_8 : decode cX12_stop 8 = .ok (.invokevirtual 351, 3) := by decide +kernel
theorem dX12_stop_11 : decode cX12_stop 11 = .ok (.ifCond .eq 14, 3) := by decide +kernel
theorem dX12_stop_14 : decode cX12_stop 14 = .ok (.aload_n 0, 1) := by decide +kernel
theorem dX12_stop_15 : decode cX12_stop 15 = .ok (.aload_n 0, 1) := by decide +kernel
theorem dX12_stop_16 : decode cX12_stop 16 = .ok (.invokevirtual 318, 3) := by decide +kernel
theorem dX12_stop_19 : decode cX12_stop 19 = .ok (.invokevirtual 354, 3) := by decide +kernel
theorem dX12_stop_22 : decode cX12_stop 22 = .ok (.goto 4, 3) := by decide +kernel
theorem dX12_stop_25 : decode cX12_stop 25 = .ok (.iconst (-1), 1) := by decide +kernel
theorem dX12_stop_26 : decode cX12_stop 26 = .ok (.ireturn, 1) := by decide +kernel
def is_X12_stop : Nat → List Nat := fun d => []
set_option maxRecDepth 100000 in
def b_X12_stop_26 (J : Nat → List qV → List qV → qW → Prop) (Q : qR) : qK := x_iret Q
set_option maxRecDepth 100000 in
theorem s_X12_stop_26 {p : Program} {l : Launch} {e : Env} {R : Room} {s : State} {m : MethodId} {args : Array Value} {below : List Frame} {meth : Method} {c : Code} {nW : Nat} {dC : Nat → ClassId} {dI : Nat → Nat → Nat} {k : Nat → ClassId} {g : Nat → Nat} {A : Nat → Prop} {J : Nat → List qV → List qV → qW → Prop} {Q : qR} (X : q_X p R s m args meth c cX12_stop 3 nW 5 111 RX12 (some .int) dC dI k g A) (hJ : ∀ d : Nat, q_Sd p l e R s m args below meth c 3 nW dC dI k g A (MQ below (q_post (dC, dI) k g nW Q A) args s 0 0 A) d (x_cut (is_X12_stop d) (J d))) : q_Sd p l e R s m args below meth c 3 nW dC dI k g A (MQ below (q_post (dC, dI) k g nW Q A) args s 0 0 A) 26 (b_X12_stop_26 J Q) := by
  unfold b_X12_stop_26
  exact s_iret X dX12_stop_26
set_option maxRecDepth 100000 in
def b_X12_stop_0 (J : Nat → List qV → List qV → qW → Prop) (Q : qR) : qK := x_aload 0 (x_int 0 (x_put 12 0 q_oki (x_nw (x_aload 0 (x_iload 1 (x_iload 2 (x_call (some 12) 3 sp_X12_layAll (x_nw (x_if_eq (x_int (-1) (b_X12_stop_26 J Q)) (x_aload 0 (x_aload 0 (x_callr (some 12) 1 spr_X12_deeds (x_call (some 12) 2 sp_X12_play (x_nw (b_X12_stop_26 J Q)))))))))))))))
set_option maxRecDepth 100000 in
theorem s_X12_stop_0 {p : Program} {l : Launch} {e : Env} {R : Room} {s : State} {m : MethodId} {args : Array Value} {below : List Frame} {meth : Method} {c : Code} {nW : Nat} {dC : Nat → ClassId} {dI : Nat → Nat → Nat} {k : Nat → ClassId} {g : Nat → Nat} {A : Nat → Prop} {J : Nat → List qV → List qV → qW → Prop} {Q : qR} (X : q_X p R s m args meth c cX12_stop 3 nW 5 111 RX12 (some .int) dC dI k g A) (hJ : ∀ d : Nat, q_Sd p l e R s m args below meth c 3 nW dC dI k g A (MQ below (q_post (dC, dI) k g nW Q A) args s 0 0 A) d (x_cut (is_X12_stop d) (J d))) : q_Sd p l e R s m args below meth c 3 nW dC dI k g A (MQ below (q_post (dC, dI) k g nW Q A) args s 0 0 A) 0 (b_X12_stop_0 J Q) := by
  unfold b_X12_stop_0
  refine s_aload_n X rfl dX12_stop_0 ?_
  refine s_iconst X ⟨by decide, by decide⟩ dX12_stop_1 ?_
  refine s_put X (T := TX12) (C := RX12) (N := 45) tu_X12 tyX12_ok nmX12 rfl (by decide) tw_997 rfl (by decide +kernel) q_oki_t dX12_stop_2 ?_
  refine s_nw ?_
  refine s_aload_n X rfl dX12_stop_5 ?_
  refine s_iload_n X rfl dX12_stop_6 ?_
  refine s_iload_n X rfl dX12_stop_7 ?_
  refine s_callV X (m_X12_layAll l) tw_1212 tw_1213 tw_1595 tw_134 tw_1214 rfl (by decide +kernel) ⟨by decide, by decide⟩ dX12_stop_8 ?_
  refine s_nw ?_
  refine s_if_eq X (tgt := 25) dX12_stop_11 (by decide) ?_ ?_
  · refine s_iconst X ⟨by decide, by decide⟩ dX12_stop_25 ?_
    exact s_X12_stop_26 X hJ
  · refine s_aload_n X rfl dX12_stop_14 ?_
    refine s_aload_n X rfl dX12_stop_15 ?_
    refine s_callVr X (m_X12_deeds l) tw_1202 tw_1203 tw_1559 tw_134 tw_1204 rfl (by decide +kernel) ⟨by decide, by decide⟩ dX12_stop_16 ?_
    refine s_callV X (m_X12_play l) tw_1215 tw_1216 tw_1608 tw_134 tw_1217 rfl (by decide +kernel) ⟨by decide, by decide⟩ dX12_stop_19 ?_
    refine s_nw ?_
    refine s_goto X (tgt := 26) dX12_stop_22 (by decide) ?_
    exact s_X12_stop_26 X hJ

def sp_X12_stop : qS := fun av w Q => ∃ (mco : Int) (mre : Int) (mle : Int) (mbe : Int) (mso : Int) (mva : Int) (mwo : Int) (mwr : Int) (mlf : Int) (mlp : Int) (mfp : Int) (mfd : Int) (mgo : Int) (mbo : Int) (mpe : Int) (mye : Int) (mpr : Int) (mld : Int) (msi : Int) (mse : Int) (mn : Nat → Int) (bs : Nat → Int) (ys : Nat → Int) (tl : Nat → Int) (a : Int) (b : Int), av = [q2 0, q1 a, q1 b] ∧ w = [.inr (12, [q1 mco, q2 5, q2 6, q2 7, q2 8, q2 1, q2 2, q2 3, q2 9, q2 10, q1 mre, q1 mle, q1 mbe, q1 mso, q1 mva, q3 mwo, q1 mwr, q1 mlf, q1 mlp, q2 11, q2 12, q1 mfp, q1 mfd, q1 mgo, q1 mbo, q1 mpe, q1 mye, q2 4, q1 mpr, q2 13, q2 14, q2 15, q2 16, q1 mld, q2 17, q1 msi, q2 18, q2 19, q2 20, q2 21, q2 22, q1 mse, q2 23, q2 24, q2 25]), .inl (0, 16, .inl mn), .inl (0, 600, .inl bs), .inl (0, 1288, .inl ys), .inl (0, 8, .inl tl)] ∧ (q_rg 0 2 mn) ∧ (BI bs) ∧ (YI ys) ∧ (∀ (r : Int) (x_mco : Int) (x_mye : Int) (x_mbo : Int) (x_mpe : Int) (x_tl : Nat → Int) (x_mpr : Int), Q (some (q1 r)) ([.inr (12, [q1 x_mco, q2 5, q2 6, q2 7, q2 8, q2 1, q2 2, q2 3, q2 9, q2 10, q1 mre, q1 mle, q1 mbe, q1 mso, q1 mva, q3 mwo, q1 mwr, q1 mlf, q1 mlp, q2 11, q2 12, q1 mfp, q1 mfd, q1 mgo, q1 x_mbo, q1 x_mpe, q1 x_mye, q2 4, q1 x_mpr, q2 13, q2 14, q2 15, q2 16, q1 mld, q2 17, q1 msi, q2 18, q2 19, q2 20, q2 21, q2 22, q1 mse, q2 23, q2 24, q2 25]), .inl (0, 16, .inl mn), .inl (0, 600, .inl bs), .inl (0, 1288, .inl ys), .inl (0, 8, .inl x_tl)]))
set_option maxHeartbeats 4000000 in
set_option maxRecDepth 100000 in
theorem m_X12_stop (l : Launch) : q_M l yX12_stop cX12_stop 3 (some .int) 5 111 sp_X12_stop := by
  refine q_meth (by decide) (fun av w Q h => by obtain ⟨mco, mre, mle, mbe, mso, mva, mwo, mwr, mlf, mlp, mfp, mfd, mgo, mbo, mpe, mye, mpr, mld, msi, mse, mn, bs, ys, tl, a, b, rfl, rfl, hmn, hbi, hyi, hQ⟩ := h; exact Nat.le_of_ble_eq_true rfl) ?_
  intro p e R s m args below meth c dC dI k g A av w Q hsp oka okw X
  obtain ⟨mco, mre, mle, mbe, mso, mva, mwo, mwr, mlf, mlp, mfp, mfd, mgo, mbo, mpe, mye, mpr, mld, msi, mse, mn, bs, ys, tl, a, b, rfl, rfl, hmn, hbi, hyi, hQ⟩ := hsp
  have o_a : -2147483648 ≤ a ∧ a ≤ 2147483647 := oka _ (List.mem_of_getElem? (i := 1) rfl)
  have o_b : -2147483648 ≤ b ∧ b ≤ 2147483647 := oka _ (List.mem_of_getElem? (i := 2) rfl)
  refine s_mono (s_X12_stop_0 X (J := fun _ _ _ _ => False) (fun d => s_cutF)) ?_
  rintro lv st w' ⟨rfl, rfl, rfl⟩
  apply And.intro
  · exact trivial
  refine Exists.intro [0, 1, 2, 5, 6, 7, 8, 3, 9, 10, 11, 12, 4, 13, 14, 15, 16, 17, 18, 19, 20, 21, 22, 23, 24, 25] (Exists.intro [q2 0, q1 _, q1 _] (Exists.intro ([.inr (12, [q1 _, q2 3, q2 4, q2 5, q2 6, q2 1, q2 2, q2 7, q2 8, q2 9, q1 _, q1 _, q1 _, q1 _, q1 _, q3 _, q1 _, q1 _, q1 _, q2 10, q2 11, q1 _, q1 _, q1 _, q1 _, q1 _, q1 _, q2 12, q1 _, q2 13, q2 14, q2 15, q2 16, q1 _, q2 17, q1 _, q2 18, q2 19, q2 20, q2 21, q2 22, q1 _, q2 23, q2 24, q2 25]), .inl (0, 16, .inl _), .inl (0, 600, .inl _)]) (And.intro rfl (And.intro rfl (And.intro rfl (And.intro ⟨⟨_, rfl⟩, rfl⟩ ?_))))))
  refine Exists.intro _ (Exists.intro _ (Exists.intro _ (Exists.intro _ (Exists.intro _ (Exists.intro _ (Exists.intro _ (Exists.intro _ (Exists.intro _ (Exists.intro _ (Exists.intro _ (Exists.intro _ (Exists.intro _ (Exists.intro _ (Exists.intro _ (Exists.intro _ (Exists.intro _ (Exists.intro _ (Exists.intro _ (Exists.intro _ (Exists.intro _ (Exists.intro _ (Exists.intro _ (Exists.intro _ (And.intro rfl (And.intro rfl (And.intro (by first | omega | assumption | exact q_rg_up (by assumption) (by omega) | exact q_rg_up (q_rg_up (by assumption) (by omega)) (by omega) | exact q_rg_cpy (by assumption) (by assumption)) (And.intro (by first | omega | assumption | exact q_rg_up (by assumption) (by omega) | exact q_rg_up (q_rg_up (by assumption) (by omega)) (by omega) | exact q_rg_cpy (by assumption) (by assumption)) (?_))))))))))))))))))))))))))))
  intro z8 x_mye_8 x_mbo_8 x_mpe_8 h8
  apply And.intro
  · intro h11
    first | replace h8 := dj1 h8 h11 | replace h8 := dj0 h8 h11
    exact hQ _ _ _ _ _ _ _
  · intro h11
    first | replace h8 := dj1 h8 h11 | replace h8 := dj0 h8 h11
    refine Exists.intro [0, 3, 5, 6, 7, 8, 1, 2, 9, 10, 11, 12, 4, 13, 14, 15, 16, 17, 18, 19, 20, 21, 22, 23, 24, 25] (Exists.intro [q2 0] (Exists.intro ([.inr (12, [q1 _, q2 2, q2 3, q2 4, q2 5, q2 6, q2 7, q2 1, q2 8, q2 9, q1 _, q1 _, q1 _, q1 _, q1 _, q3 _, q1 _, q1 _, q1 _, q2 10, q2 11, q1 _, q1 _, q1 _, q1 _, q1 _, q1 _, q2 12, q1 _, q2 13, q2 14, q2 15, q2 16, q1 _, q2 17, q1 _, q2 18, q2 19, q2 20, q2 21, q2 22, q1 _, q2 23, q2 24, q2 25]), .inl (0, 1288, .inl _)]) (And.intro rfl (And.intro rfl (And.intro rfl (And.intro ⟨⟨_, rfl⟩, rfl⟩ ?_))))))
    refine Exists.intro _ (Exists.intro _ (Exists.intro _ (Exists.intro _ (Exists.intro _ (Exists.intro _ (Exists.intro _ (Exists.intro _ (Exists.intro _ (Exists.intro _ (Exists.intro _ (Exists.intro _ (Exists.intro _ (Exists.intro _ (Exists.intro _ (Exists.intro _ (Exists.intro _ (Exists.intro _ (Exists.intro _ (Exists.intro _ (Exists.intro _ (And.intro rfl (And.intro rfl (And.intro (by first | omega | assumption | exact q_rg_up (by assumption) (by omega) | exact q_rg_up (q_rg_up (by assumption) (by omega)) (by omega) | exact q_rg_cpy (by assumption) (by assumption)) (And.intro (by first | omega | assumption | exact q_rg_up (by assumption) (by omega) | exact q_rg_up (q_rg_up (by assumption) (by omega)) (by omega) | exact q_rg_cpy (by assumption) (by assumption)) (?_)))))))))))))))))))))))))
    intro z16 h16
    refine Exists.intro [0, 4, 2, 3, 5, 6, 7, 8, 1, 9, 10, 11, 12, 13, 14, 15, 16, 17, 18, 19, 20, 21, 22, 23, 24, 25] (Exists.intro [q2 0, q1 _] (Exists.intro ([.inr (12, [q1 _, q2 4, q2 5, q2 6, q2 7, q2 8, q2 2, q2 3, q2 9, q2 10, q1 _, q1 _, q1 _, q1 _, q1 _, q3 _, q1 _, q1 _, q1 _, q2 11, q2 12, q1 _, q1 _, q1 _, q1 _, q1 _, q1 _, q2 1, q1 _, q2 13, q2 14, q2 15, q2 16, q1 _, q2 17, q1 _, q2 18, q2 19, q2 20, q2 21, q2 22, q1 _, q2 23, q2 24, q2 25]), .inl (0, 8, .inl _), .inl (0, 600, .inl _), .inl (0, 1288, .inl _)]) (And.intro rfl (And.intro rfl (And.intro rfl (And.intro ⟨⟨_, rfl⟩, rfl⟩ ?_))))))
    refine Exists.intro _ (Exists.intro _ (Exists.intro _ (Exists.intro _ (Exists.intro _ (Exists.intro _ (Exists.intro _ (Exists.intro _ (Exists.intro _ (Exists.intro _ (Exists.intro _ (Exists.intro _ (Exists.intro _ (Exists.intro _ (Exists.intro _ (Exists.intro _ (Exists.intro _ (Exists.intro _ (Exists.intro _ (Exists.intro _ (Exists.intro _ (Exists.intro _ (Exists.intro _ (Exists.intro _ (And.intro rfl (And.intro rfl (And.intro (by first | omega | assumption | exact q_rg_up (by assumption) (by omega) | exact q_rg_up (q_rg_up (by assumption) (by omega)) (by omega) | exact q_rg_cpy (by assumption) (by assumption)) (And.intro (by first | omega | assumption | exact q_rg_up (by assumption) (by omega) | exact q_rg_up (q_rg_up (by assumption) (by omega)) (by omega) | exact q_rg_cpy (by assumption) (by assumption)) (And.intro (by first | omega | assumption | exact q_rg_up (by assumption) (by omega) | exact q_rg_up (q_rg_up (by assumption) (by omega)) (by omega) | exact q_rg_cpy (by assumption) (by assumption)) (And.intro (by first | omega | assumption | exact q_rg_up (by assumption) (by omega) | exact q_rg_up (q_rg_up (by assumption) (by omega)) (by omega) | exact q_rg_cpy (by assumption) (by assumption)) (And.intro (by first | omega | assumption | exact q_rg_up (by assumption) (by omega) | exact q_rg_up (q_rg_up (by assumption) (by omega)) (by omega) | exact q_rg_cpy (by assumption) (by assumption)) (And.intro (by first | omega | assumption | exact q_rg_up (by assumption) (by omega) | exact q_rg_up (q_rg_up (by assumption) (by omega)) (by omega) | exact q_rg_cpy (by assumption) (by assumption)) (?_))))))))))))))))))))))))))))))))
    intro z19 x_tl_19 x_mpr_19 h19
    exact hQ _ _ _ _ _ _ _

theorem dX12_ranked_0 : decode cX12_ranked 0 = .ok (.iconst 0, 1) := by decide +kernel
theorem dX12_ranked_1 : decode cX12_ranked 1 = .ok (.istore_n 2, 1) := by decide +kernel
theorem dX12_ranked_2 : decode cX12_ranked 2 = .ok (.iload_n 2, 1) := by decide +kernel
theorem dX12_ranked_3 : decode cX12_ranked 3 = .ok (.aload_n 0, 1) := by decide +kernel
theorem dX12_ranked_4 : decode cX12_ranked 4 = .ok (.getfield 303, 3) := by decide +kernel
theorem dX12_ranked_7 : decode cX12_ranked 7 = .ok (.if_icmp .ge 82, 3) := by decide +kernel
theorem dX12_ranked_10 : decode cX12_ranked 10 = .ok (.iconst 0, 1) := by decide +kernel
theorem dX12_ranked_11 : decode cX12_ranked 11 = .ok (.istore_n 3, 1) := by decide +kernel
theorem dX12_ranked_12 : decode cX12_ranked 12 = .ok (.iconst 0, 1) := by decide +kernel
theorem dX12_ranked_13 : decode cX12_ranked 13 = .ok (.istore 4, 2) := by decide +kernel
theorem dX12_ranked_15 : decode cX12_ranked 15 = .ok (.iload 4, 2) := by decide +kernel
theorem dX12_ranked_17 : decode cX12_ranked 17 = .ok (.aload_n 0, 1) := by decide +kernel
theorem dX12_ranked_18 : decode cX12_ranked 18 = .ok (.getfield 303, 3) := by decide +kernel
theorem dX12_ranked_21 : decode cX12_ranked 21 = .ok (.if_icmp .ge 55, 3) := by decide +kernel
theorem dX12_ranked_24 : decode cX12_ranked 24 = .ok (.iload_n 3, 1) := by decide +kernel
theorem dX12_ranked_25 : decode cX12_ranked 25 = .ok (.aload_n 0, 1) := by decide +kernel
theorem dX12_ranked_26 : decode cX12_ranked 26 = .ok (.getfield 44, 3) := by decide +kernel
theorem dX12_ranked_29 : decode cX12_ranked 29 = .ok (.iload 4, 2) := by decide +kernel
theorem dX12_ranked_31 : decode cX12_ranked 31 = .ok (.iaload, 1) := by decide +kernel
theorem dX12_ranked_32 : decode cX12_ranked 32 = .ok (.aload_n 0, 1) := by decide +kernel
theorem dX12_ranked_33 : decode cX12_ranked 33 = .ok (.getfield 44, 3) := by decide +kernel
theorem dX12_ranked_36 : decode cX12_ranked 36 = .ok (.iload_n 2, 1) := by decide +kernel
theorem dX12_ranked_37 : decode cX12_ranked 37 = .ok (.iaload, 1) := by decide +kernel
theorem dX12_ranked_38 : decode cX12_ranked 38 = .ok (.if_icmp .gt 25, 3) := by decide +kernel
theorem dX12_ranked_41 : decode cX12_ranked 41 = .ok (.aload_n 0, 1) := by decide +kernel
theorem dX12_ranked_42 : decode cX12_ranked 42 = .ok (.getfield 44, 3) := by decide +kernel
theorem dX12_ranked_45 : decode cX12_ranked 45 = .ok (.iload 4, 2) := by decide +kernel
theorem dX12_ranked_47 : decode cX12_ranked 47 = .ok (.iaload, 1) := by decide +kernel
theorem dX12_ranked_48 : decode cX12_ranked 48 = .ok (.aload_n 0, 1) := by decide +kernel
theorem dX12_ranked_49 : decode cX12_ranked 49 = .ok (.getfield 44, 3) := by decide +kernel
theorem dX12_ranked_52 : decode cX12_ranked 52 = .ok (.iload_n 2, 1) := by decide +kernel
theorem dX12_ranked_53 : decode cX12_ranked 53 = .ok (.iaload, 1) := by decide +kernel
theorem dX12_ranked_54 : decode cX12_ranked 54 = .ok (.if_icmp .ne 13, 3) := by decide +kernel
theorem dX12_ranked_57 : decode cX12_ranked 57 = .ok (.iload 4, 2) := by decide +kernel
theorem dX12_ranked_59 : decode cX12_ranked 59 = .ok (.iload_n 2, 1) := by decide +kernel
theorem dX12_ranked_60 : decode cX12_ranked 60 = .ok (.if_icmp .ge 7, 3) := by decide +kernel
theorem dX12_ranked_63 : decode cX12_ranked 63 = .ok (.iconst 1, 1) := by decide +kernel
theorem dX12_ranked_64 : decode cX12_ranked 64 = .ok (.goto 4, 3) := by decide +kernel
theorem dX12_ranked_67 : decode cX12_ranked 67 = .ok (.iconst 0, 1) := by decide +kernel
theorem dX12_ranked_68 : decode cX12_ranked 68 = .ok (.iadd, 1) := by decide +kernel
theorem dX12_ranked_69 : decode cX12_ranked 69 = .ok (.istore_n 3, 1) := by decide +kernel
theorem dX12_ranked_70 : decode cX12_ranked 70 = .ok (.iinc 4 1, 3) := by decide +kernel
theorem dX12_ranked_73 : decode cX12_ranked 73 = .ok (.goto (-58), 3) := by decide +kernel
theorem dX12_ranked_76 : decode cX12_ranked 76 = .ok (.iload_n 3, 1) := by decide +kernel
theorem dX12_ranked_77 : decode cX12_ranked 77 = .ok (.iload_n 1, 1) := by decide +kernel
theorem dX12_ranked_78 : decode cX12_ranked 78 = .ok (.if_icmp .ne 5, 3) := by decide +kernel
theorem dX12_ranked_81 : decode cX12_ranked 81 = .ok (.iload_n 2, 1) := by decide +kernel
theorem dX12_ranked_82 : decode cX12_ranked 82 = .ok (.ireturn, 1) := by decide +kernel
theorem dX12_ranked_83 : decode cX12_ranked 83 = .ok (.iinc 2 1, 3) := by decide +kernel
theorem dX12_ranked_86 : decode cX12_ranked 86 = .ok (.goto (-84), 3) := by decide +kernel
theorem dX12_ranked_89 : decode cX12_ranked 89 = .ok (.bipush (-2), 2) := by decide +kernel
theorem dX12_ranked_91 : decode cX12_ranked 91 = .ok (.ireturn, 1) := by decide +kernel
def is_X12_ranked : Nat → List Nat := fun d => if d = 2 then [0, 1, 2] else if d = 15 then [0, 1, 2, 3, 4] else []
set_option maxRecDepth 100000 in
def b_X12_ranked_68 (J : Nat → List qV → List qV → qW → Prop) (Q : qR) : qK := x_iadd (x_istore 3 (x_iinc 4 1 (x_cut [0, 1, 2, 3, 4] (J 15))))
set_option maxRecDepth 100000 in
theorem s_X12_ranked_68 {p : Program} {l : Launch} {e : Env} {R : Room} {s : State} {m : MethodId} {args : Array Value} {below : List Frame} {meth : Method} {c : Code} {nW : Nat} {dC : Nat → ClassId} {dI : Nat → Nat → Nat} {k : Nat → ClassId} {g : Nat → Nat} {A : Nat → Prop} {J : Nat → List qV → List qV → qW → Prop} {Q : qR} (X : q_X p R s m args meth c cX12_ranked 5 nW 0 0 RX12 (some .int) dC dI k g A) (hJ : ∀ d : Nat, q_Sd p l e R s m args below meth c 5 nW dC dI k g A (MQ below (q_post (dC, dI) k g nW Q A) args s 0 0 A) d (x_cut (is_X12_ranked d) (J d))) : q_Sd p l e R s m args below meth c 5 nW dC dI k g A (MQ below (q_post (dC, dI) k g nW Q A) args s 0 0 A) 68 (b_X12_ranked_68 J Q) := by
  unfold b_X12_ranked_68
  refine s_iadd X dX12_ranked_68 ?_
  refine s_istore_n X rfl (by decide) dX12_ranked_69 ?_
  refine s_iinc X (by decide) dX12_ranked_70 ?_
  refine s_goto X (tgt := 15) dX12_ranked_73 (by decide) ?_
  exact hJ 15
set_option maxRecDepth 100000 in
def b_X12_ranked_67 (J : Nat → List qV → List qV → qW → Prop) (Q : qR) : qK := x_int 0 (b_X12_ranked_68 J Q)
set_option maxRecDepth 100000 in
theorem s_X12_ranked_67 {p : Program} {l : Launch} {e : Env} {R : Room} {s : State} {m : MethodId} {args : Array Value} {below : List Frame} {meth : Method} {c : Code} {nW : Nat} {dC : Nat → ClassId} {dI : Nat → Nat → Nat} {k : Nat → ClassId} {g : Nat → Nat} {A : Nat → Prop} {J : Nat → List qV → List qV → qW → Prop} {Q : qR} (X : q_X p R s m args meth c cX12_ranked 5 nW 0 0 RX12 (some .int) dC dI k g A) (hJ : ∀ d : Nat, q_Sd p l e R s m args below meth c 5 nW dC dI k g A (MQ below (q_post (dC, dI) k g nW Q A) args s 0 0 A) d (x_cut (is_X12_ranked d) (J d))) : q_Sd p l e R s m args below meth c 5 nW dC dI k g A (MQ below (q_post (dC, dI) k g nW Q A) args s 0 0 A) 67 (b_X12_ranked_67 J Q) := by
  unfold b_X12_ranked_67
  refine s_iconst X ⟨by decide, by decide⟩ dX12_ranked_67 ?_
  exact s_X12_ranked_68 X hJ
set_option maxRecDepth 100000 in
def b_X12_ranked_63 (J : Nat → List qV → List qV → qW → Prop) (Q : qR) : qK := x_int 1 (b_X12_ranked_68 J Q)
set_option maxRecDepth 100000 in
theorem s_X12_ranked_63 {p : Program} {l : Launch} {e : Env} {R : Room} {s : State} {m : MethodId} {args : Array Value} {below : List Frame} {meth : Method} {c : Code} {nW : Nat} {dC : Nat → ClassId} {dI : Nat → Nat → Nat} {k : Nat → ClassId} {g : Nat → Nat} {A : Nat → Prop} {J : Nat → List qV → List qV → qW → Prop} {Q : qR} (X : q_X p R s m args meth c cX12_ranked 5 nW 0 0 RX12 (some .int) dC dI k g A) (hJ : ∀ d : Nat, q_Sd p l e R s m args below meth c 5 nW dC dI k g A (MQ below (q_post (dC, dI) k g nW Q A) args s 0 0 A) d (x_cut (is_X12_ranked d) (J d))) : q_Sd p l e R s m args below meth c 5 nW dC dI k g A (MQ below (q_post (dC, dI) k g nW Q A) args s 0 0 A) 63 (b_X12_ranked_63 J Q) := by
  unfold b_X12_ranked_63
  refine s_iconst X ⟨by decide, by decide⟩ dX12_ranked_63 ?_
  refine s_goto X (tgt := 68) dX12_ranked_64 (by decide) ?_
  exact s_X12_ranked_68 X hJ
set_option maxRecDepth 100000 in
def b_X12_ranked_59 (J : Nat → List qV → List qV → qW → Prop) (Q : qR) : qK := x_iload 2 (x_icmp_ge (b_X12_ranked_67 J Q) (b_X12_ranked_63 J Q))
set_option maxRecDepth 100000 in
theorem s_X12_ranked_59 {p : Program} {l : Launch} {e : Env} {R : Room} {s : State} {m : MethodId} {args : Array Value} {below : List Frame} {meth : Method} {c : Code} {nW : Nat} {dC : Nat → ClassId} {dI : Nat → Nat → Nat} {k : Nat → ClassId} {g : Nat → Nat} {A : Nat → Prop} {J : Nat → List qV → List qV → qW → Prop} {Q : qR} (X : q_X p R s m args meth c cX12_ranked 5 nW 0 0 RX12 (some .int) dC dI k g A) (hJ : ∀ d : Nat, q_Sd p l e R s m args below meth c 5 nW dC dI k g A (MQ below (q_post (dC, dI) k g nW Q A) args s 0 0 A) d (x_cut (is_X12_ranked d) (J d))) : q_Sd p l e R s m args below meth c 5 nW dC dI k g A (MQ below (q_post (dC, dI) k g nW Q A) args s 0 0 A) 59 (b_X12_ranked_59 J Q) := by
  unfold b_X12_ranked_59
  refine s_iload_n X rfl dX12_ranked_59 ?_
  refine s_icmp_ge X (tgt := 67) dX12_ranked_60 (by decide) ?_ ?_
  · exact s_X12_ranked_67 X hJ
  · exact s_X12_ranked_63 X hJ
set_option maxRecDepth 100000 in
def b_X12_ranked_15 (J : Nat → List qV → List qV → qW → Prop) (Q : qR) : qK := x_iload 4 (x_aload 0 (x_get 12 25 (x_icmp_ge (x_iload 3 (x_iload 1 (x_icmp_ne (x_iinc 2 1 (x_cut [0, 1, 2] (J 2))) (x_iload 2 (x_iret Q))))) (x_iload 3 (x_aload 0 (x_get 12 27 (x_iload 4 (x_iald (x_aload 0 (x_get 12 27 (x_iload 2 (x_iald (x_icmp_gt (b_X12_ranked_63 J Q) (x_aload 0 (x_get 12 27 (x_iload 4 (x_iald (x_aload 0 (x_get 12 27 (x_iload 2 (x_iald (x_icmp_ne (b_X12_ranked_67 J Q) (x_iload 4 (b_X12_ranked_59 J Q))))))))))))))))))))))))
set_option maxRecDepth 100000 in
theorem s_X12_ranked_15 {p : Program} {l : Launch} {e : Env} {R : Room} {s : State} {m : MethodId} {args : Array Value} {below : List Frame} {meth : Method} {c : Code} {nW : Nat} {dC : Nat → ClassId} {dI : Nat → Nat → Nat} {k : Nat → ClassId} {g : Nat → Nat} {A : Nat → Prop} {J : Nat → List qV → List qV → qW → Prop} {Q : qR} (X : q_X p R s m args meth c cX12_ranked 5 nW 0 0 RX12 (some .int) dC dI k g A) (hJ : ∀ d : Nat, q_Sd p l e R s m args below meth c 5 nW dC dI k g A (MQ below (q_post (dC, dI) k g nW Q A) args s 0 0 A) d (x_cut (is_X12_ranked d) (J d))) : q_Sd p l e R s m args below meth c 5 nW dC dI k g A (MQ below (q_post (dC, dI) k g nW Q A) args s 0 0 A) 15 (b_X12_ranked_15 J Q) := by
  unfold b_X12_ranked_15
  refine s_iload X dX12_ranked_15 ?_
  refine s_aload_n X rfl dX12_ranked_17 ?_
  refine s_get X (T := TX12) (C := RX12) (N := 45) tu_X12 rfl (by decide) tw_1022 dX12_ranked_18 ?_
  refine s_icmp_ge X (tgt := 76) dX12_ranked_21 (by decide) ?_ ?_
  · refine s_iload_n X rfl dX12_ranked_76 ?_
    refine s_iload_n X rfl dX12_ranked_77 ?_
    refine s_icmp_ne X (tgt := 83) dX12_ranked_78 (by decide) ?_ ?_
    · refine s_iinc X (by decide) dX12_ranked_83 ?_
      refine s_goto X (tgt := 2) dX12_ranked_86 (by decide) ?_
      exact hJ 2
    · refine s_iload_n X rfl dX12_ranked_81 ?_
      exact s_iret X dX12_ranked_82
  · refine s_iload_n X rfl dX12_ranked_24 ?_
    refine s_aload_n X rfl dX12_ranked_25 ?_
    refine s_get X (T := TX12) (C := RX12) (N := 45) tu_X12 rfl (by decide) tw_1024 dX12_ranked_26 ?_
    refine s_iload X dX12_ranked_29 ?_
    refine s_iald X dX12_ranked_31 ?_
    refine s_aload_n X rfl dX12_ranked_32 ?_
    refine s_get X (T := TX12) (C := RX12) (N := 45) tu_X12 rfl (by decide) tw_1024 dX12_ranked_33 ?_
    refine s_iload_n X rfl dX12_ranked_36 ?_
    refine s_iald X dX12_ranked_37 ?_
    refine s_icmp_gt X (tgt := 63) dX12_ranked_38 (by decide) ?_ ?_
    · exact s_X12_ranked_63 X hJ
    · refine s_aload_n X rfl dX12_ranked_41 ?_
      refine s_get X (T := TX12) (C := RX12) (N := 45) tu_X12 rfl (by decide) tw_1024 dX12_ranked_42 ?_
      refine s_iload X dX12_ranked_45 ?_
      refine s_iald X dX12_ranked_47 ?_
      refine s_aload_n X rfl dX12_ranked_48 ?_
      refine s_get X (T := TX12) (C := RX12) (N := 45) tu_X12 rfl (by decide) tw_1024 dX12_ranked_49 ?_
      refine s_iload_n X rfl dX12_ranked_52 ?_
      refine s_iald X dX12_ranked_53 ?_
      refine s_icmp_ne X (tgt := 67) dX12_ranked_54 (by decide) ?_ ?_
      · exact s_X12_ranked_67 X hJ
      · refine s_iload X dX12_ranked_57 ?_
        exact s_X12_ranked_59 X hJ
set_option maxRecDepth 100000 in
def b_X12_ranked_2 (J : Nat → List qV → List qV → qW → Prop) (Q : qR) : qK := x_iload 2 (x_aload 0 (x_get 12 25 (x_icmp_ge (x_int (-2) (x_iret Q)) (x_int 0 (x_istore 3 (x_int 0 (x_istore 4 (x_cut [0, 1, 2, 3, 4] (J 15)))))))))
set_option maxRecDepth 100000 in
theorem s_X12_ranked_2 {p : Program} {l : Launch} {e : Env} {R : Room} {s : State} {m : MethodId} {args : Array Value} {below : List Frame} {meth : Method} {c : Code} {nW : Nat} {dC : Nat → ClassId} {dI : Nat → Nat → Nat} {k : Nat → ClassId} {g : Nat → Nat} {A : Nat → Prop} {J : Nat → List qV → List qV → qW → Prop} {Q : qR} (X : q_X p R s m args meth c cX12_ranked 5 nW 0 0 RX12 (some .int) dC dI k g A) (hJ : ∀ d : Nat, q_Sd p l e R s m args below meth c 5 nW dC dI k g A (MQ below (q_post (dC, dI) k g nW Q A) args s 0 0 A) d (x_cut (is_X12_ranked d) (J d))) : q_Sd p l e R s m args below meth c 5 nW dC dI k g A (MQ below (q_post (dC, dI) k g nW Q A) args s 0 0 A) 2 (b_X12_ranked_2 J Q) := by
  unfold b_X12_ranked_2
  refine s_iload_n X rfl dX12_ranked_2 ?_
  refine s_aload_n X rfl dX12_ranked_3 ?_
  refine s_get X (T := TX12) (C := RX12) (N := 45) tu_X12 rfl (by decide) tw_1022 dX12_ranked_4 ?_
  refine s_icmp_ge X (tgt := 89) dX12_ranked_7 (by decide) ?_ ?_
  · refine s_bipush X ⟨by decide, by decide⟩ (by decide) dX12_ranked_89 ?_
    exact s_iret X dX12_ranked_91
  · refine s_iconst X ⟨by decide, by decide⟩ dX12_ranked_10 ?_
    refine s_istore_n X rfl (by decide) dX12_ranked_11 ?_
    refine s_iconst X ⟨by decide, by decide⟩ dX12_ranked_12 ?_
    refine s_istore X (by decide) dX12_ranked_13 ?_
    exact hJ 15
set_option maxRecDepth 100000 in
def b_X12_ranked_0 (J : Nat → List qV → List qV → qW → Prop) (Q : qR) : qK := x_int 0 (x_istore 2 (x_cut [0, 1, 2] (J 2)))
set_option maxRecDepth 100000 in
theorem s_X12_ranked_0 {p : Program} {l : Launch} {e : Env} {R : Room} {s : State} {m : MethodId} {args : Array Value} {below : List Frame} {meth : Method} {c : Code} {nW : Nat} {dC : Nat → ClassId} {dI : Nat → Nat → Nat} {k : Nat → ClassId} {g : Nat → Nat} {A : Nat → Prop} {J : Nat → List qV → List qV → qW → Prop} {Q : qR} (X : q_X p R s m args meth c cX12_ranked 5 nW 0 0 RX12 (some .int) dC dI k g A) (hJ : ∀ d : Nat, q_Sd p l e R s m args below meth c 5 nW dC dI k g A (MQ below (q_post (dC, dI) k g nW Q A) args s 0 0 A) d (x_cut (is_X12_ranked d) (J d))) : q_Sd p l e R s m args below meth c 5 nW dC dI k g A (MQ below (q_post (dC, dI) k g nW Q A) args s 0 0 A) 0 (b_X12_ranked_0 J Q) := by
  unfold b_X12_ranked_0
  refine s_iconst X ⟨by decide, by decide⟩ dX12_ranked_0 ?_
  refine s_istore_n X rfl (by decide) dX12_ranked_1 ?_
  exact hJ 2

def spr_X12_ranked : List qV → qW → (Option qV → Prop) → Prop := fun av w Q => ∃ (mco : Int) (mre : Int) (mle : Int) (mbe : Int) (mso : Int) (mva : Int) (mwo : Int) (mwr : Int) (mlf : Int) (mlp : Int) (mfp : Int) (mfd : Int) (mgo : Int) (mbo : Int) (mpe : Int) (mye : Int) (mpr : Int) (mld : Int) (msi : Int) (mse : Int) (tl : Nat → Int) (a : Int), av = [q2 0, q1 a] ∧ w = [.inr (12, [q1 mco, q2 2, q2 3, q2 4, q2 5, q2 6, q2 7, q2 8, q2 9, q2 10, q1 mre, q1 mle, q1 mbe, q1 mso, q1 mva, q3 mwo, q1 mwr, q1 mlf, q1 mlp, q2 11, q2 12, q1 mfp, q1 mfd, q1 mgo, q1 mbo, q1 mpe, q1 mye, q2 1, q1 mpr, q2 13, q2 14, q2 15, q2 16, q1 mld, q2 17, q1 msi, q2 18, q2 19, q2 20, q2 21, q2 22, q1 mse, q2 23, q2 24, q2 25]), .inl (0, 8, .inl tl)] ∧ (0 ≤ mpe ∧ mpe ≤ 8) ∧ (∀ (r : Int) , (-2 ≤ r ∧ r ≤ 7 ∧ (0 ≤ a → a < mpe → 0 ≤ r)) → Q (some (q1 r)))
def sp_X12_ranked : qS := fun av w Q => spr_X12_ranked av w (fun r => Q r w)
def I_X12_ranked (mco : Int) (mre : Int) (mle : Int) (mbe : Int) (mso : Int) (mva : Int) (mwo : Int) (mwr : Int) (mlf : Int) (mlp : Int) (mfp : Int) (mfd : Int) (mgo : Int) (mbo : Int) (mpe : Int) (mye : Int) (mpr : Int) (mld : Int) (msi : Int) (mse : Int) (tl : Nat → Int) (a : Int) : Nat → Nat → List qV → List qV → qW → Prop := fun dz mz vz sz wz => if dz = 2 then (∃ (v2 : Int), vz = [q2 0, q1 a, q1 v2] ∧ sz = [] ∧ wz = [.inr (12, [q1 mco, q2 2, q2 3, q2 4, q2 5, q2 6, q2 7, q2 8, q2 9, q2 10, q1 mre, q1 mle, q1 mbe, q1 mso, q1 mva, q3 mwo, q1 mwr, q1 mlf, q1 mlp, q2 11, q2 12, q1 mfp, q1 mfd, q1 mgo, q1 mbo, q1 mpe, q1 mye, q2 1, q1 mpr, q2 13, q2 14, q2 15, q2 16, q1 mld, q2 17, q1 msi, q2 18, q2 19, q2 20, q2 21, q2 22, q1 mse, q2 23, q2 24, q2 25]), .inl (0, 8, .inl tl)] ∧ mz = 100 * (mpe - v2).toNat ∧ (0 ≤ v2 ∧ v2 ≤ mpe) ∧ (∀ p : Nat, (p : Int) < v2 → ¬ cnA tl p mpe.toNat = a)) else if dz = 15 then (∃ (v2 : Int) (v3 : Int) (v4 : Int), vz = [q2 0, q1 a, q1 v2, q1 v3, q1 v4] ∧ sz = [] ∧ wz = [.inr (12, [q1 mco, q2 2, q2 3, q2 4, q2 5, q2 6, q2 7, q2 8, q2 9, q2 10, q1 mre, q1 mle, q1 mbe, q1 mso, q1 mva, q3 mwo, q1 mwr, q1 mlf, q1 mlp, q2 11, q2 12, q1 mfp, q1 mfd, q1 mgo, q1 mbo, q1 mpe, q1 mye, q2 1, q1 mpr, q2 13, q2 14, q2 15, q2 16, q1 mld, q2 17, q1 msi, q2 18, q2 19, q2 20, q2 21, q2 22, q1 mse, q2 23, q2 24, q2 25]), .inl (0, 8, .inl tl)] ∧ mz = 100 * (mpe - v2).toNat - 50 + (mpe - v4).toNat ∧ (0 ≤ v2 ∧ v2 < mpe ∧ 0 ≤ v4 ∧ v4 ≤ mpe) ∧ (v3 = cnA tl v2 v4.toNat) ∧ (∀ p : Nat, (p : Int) < v2 → ¬ cnA tl p mpe.toNat = a)) else False
set_option maxHeartbeats 4000000 in
set_option maxRecDepth 100000 in
theorem m_X12_ranked (l : Launch) : q_M l yX12_ranked cX12_ranked 5 (some .int) 0 0 sp_X12_ranked := by
  refine q_meth (by decide) (fun av w Q h => by obtain ⟨mco, mre, mle, mbe, mso, mva, mwo, mwr, mlf, mlp, mfp, mfd, mgo, mbo, mpe, mye, mpr, mld, msi, mse, tl, a, rfl, rfl, hpe, hQ⟩ := h; exact Nat.le_of_ble_eq_true rfl) ?_
  intro p e R s m args below meth c dC dI k g A av w Q hsp oka okw X
  obtain ⟨mco, mre, mle, mbe, mso, mva, mwo, mwr, mlf, mlp, mfp, mfd, mgo, mbo, mpe, mye, mpr, mld, msi, mse, tl, a, rfl, rfl, hpe, hQ⟩ := hsp
  have o_a : -2147483648 ≤ a ∧ a ≤ 2147483647 := oka _ (List.mem_of_getElem? (i := 1) rfl)
  refine s_mono (s_X12_ranked_0 X (J := fun dz vz sz wz => ∃ mz, I_X12_ranked mco mre mle mbe mso mva mwo mwr mlf mlp mfp mfd mgo mbo mpe mye mpr mld msi mse tl a dz mz vz sz wz) (q_loopn (I_X12_ranked mco mre mle mbe mso mva mwo mwr mlf mlp mfp mfd mgo mbo mpe mye mpr mld msi mse tl a) (fun dz J => if dz = 2 then b_X12_ranked_2 J Q else if dz = 15 then b_X12_ranked_15 J Q else q_F) ?hs ?hv)) ?_
  case hs =>
    intro d J hJ
    by_cases h2 : d = 2
    · subst h2; exact s_X12_ranked_2 X hJ
    by_cases h15 : d = 15
    · subst h15; exact s_X12_ranked_15 X hJ
    simp only [h2, h15, if_false]
    exact s_F
  case hv =>
    intro dz mz vz sz wz hI okv oks okw hlen
    by_cases h2 : dz = 2
    · subst h2
      obtain ⟨v2, rfl, rfl, rfl, hn, hp, hq⟩ := hI
      apply And.intro
      · intro h7
        exact hQ _ ⟨by omega, by omega, (by first | omega | (intro e8 e9; exact (rk_e hq (by omega) e8 e9).elim))⟩
      · intro h7
        exact ⟨_, ⟨_, _, _, rfl, rfl, rfl, rfl, (by first | omega | assumption | exact q_rg_up (by assumption) (by omega) | exact q_rg_up (q_rg_up (by assumption) (by omega)) (by omega) | exact q_rg_cpy (by assumption) (by assumption)), (by first | exact rk_s hc (by omega) (by omega) h68 (by rw [if_pos (by omega)]) | exact rk_s hc (by omega) (by omega) h68 (by rw [if_neg (by omega)]) | rfl), (by first | omega | assumption | exact q_rg_up (by assumption) (by omega) | exact q_rg_up (q_rg_up (by assumption) (by omega)) (by omega) | exact q_rg_cpy (by assumption) (by assumption))⟩, by omega⟩
    by_cases h15 : dz = 15
    · subst h15
      obtain ⟨v2, v3, v4, rfl, rfl, rfl, hn, hp, hc, hq⟩ := hI
      have d9 := cnA_rg (t := tl) (p := v2.toNat) v4.toNat
      rw [show ((v2.toNat : Nat) : Int) = v2 by omega, ← hc] at d9
      apply And.intro
      · intro h21
        apply And.intro
        · intro h78
          intro z83 h83
          first | replace h83 := e_add h83 (by omega) | replace h83 := e_rng h83
          exact ⟨_, ⟨_, rfl, rfl, rfl, rfl, (by first | omega | assumption | exact q_rg_up (by assumption) (by omega) | exact q_rg_up (q_rg_up (by assumption) (by omega)) (by omega) | exact q_rg_cpy (by assumption) (by assumption)), (by first | exact rk_q hq hc (by omega) (by omega) (by omega) (by omega) | (intro p hp9; exfalso; omega))⟩, by omega⟩
        · intro h78
          exact hQ _ ⟨by omega, by omega, (by first | omega | (intro e8 e9; exact (rk_e hq (by omega) e8 e9).elim))⟩
      · intro h21
        apply And.intro
        · exact ⟨by omega, by omega⟩
        intro z31 h31
        apply And.intro
        · exact ⟨by omega, by omega⟩
        intro z37 h37
        apply And.intro
        · intro h38
          intro z68 h68
          first | replace h68 := e_add h68 (by omega) | replace h68 := e_rng h68
          intro z70 h70
          first | replace h70 := e_add h70 (by omega) | replace h70 := e_rng h70
          exact ⟨_, ⟨_, _, _, rfl, rfl, rfl, rfl, (by first | omega | assumption | exact q_rg_up (by assumption) (by omega) | exact q_rg_up (q_rg_up (by assumption) (by omega)) (by omega) | exact q_rg_cpy (by assumption) (by assumption)), (by first | exact rk_s hc (by omega) (by omega) h68 (by rw [if_pos (by omega)]) | exact rk_s hc (by omega) (by omega) h68 (by rw [if_neg (by omega)]) | rfl), (by first | omega | assumption | exact q_rg_up (by assumption) (by omega) | exact q_rg_up (q_rg_up (by assumption) (by omega)) (by omega) | exact q_rg_cpy (by assumption) (by assumption))⟩, by omega⟩
        · intro h38
          apply And.intro
          · exact ⟨by omega, by omega⟩
          intro z47 h47
          apply And.intro
          · exact ⟨by omega, by omega⟩
          intro z53 h53
          apply And.intro
          · intro h54
            intro z68 h68
            first | replace h68 := e_add h68 (by omega) | replace h68 := e_rng h68
            intro z70 h70
            first | replace h70 := e_add h70 (by omega) | replace h70 := e_rng h70
            exact ⟨_, ⟨_, _, _, rfl, rfl, rfl, rfl, (by first | omega | assumption | exact q_rg_up (by assumption) (by omega) | exact q_rg_up (q_rg_up (by assumption) (by omega)) (by omega) | exact q_rg_cpy (by assumption) (by assumption)), (by first | exact rk_s hc (by omega) (by omega) h68 (by rw [if_pos (by omega)]) | exact rk_s hc (by omega) (by omega) h68 (by rw [if_neg (by omega)]) | rfl), (by first | omega | assumption | exact q_rg_up (by assumption) (by omega) | exact q_rg_up (q_rg_up (by assumption) (by omega)) (by omega) | exact q_rg_cpy (by assumption) (by assumption))⟩, by omega⟩
          · intro h54
            apply And.intro
            · intro h60
              intro z68 h68
              first | replace h68 := e_add h68 (by omega) | replace h68 := e_rng h68
              intro z70 h70
              first | replace h70 := e_add h70 (by omega) | replace h70 := e_rng h70
              exact ⟨_, ⟨_, _, _, rfl, rfl, rfl, rfl, (by first | omega | assumption | exact q_rg_up (by assumption) (by omega) | exact q_rg_up (q_rg_up (by assumption) (by omega)) (by omega) | exact q_rg_cpy (by assumption) (by assumption)), (by first | exact rk_s hc (by omega) (by omega) h68 (by rw [if_pos (by omega)]) | exact rk_s hc (by omega) (by omega) h68 (by rw [if_neg (by omega)]) | rfl), (by first | omega | assumption | exact q_rg_up (by assumption) (by omega) | exact q_rg_up (q_rg_up (by assumption) (by omega)) (by omega) | exact q_rg_cpy (by assumption) (by assumption))⟩, by omega⟩
            · intro h60
              intro z68 h68
              first | replace h68 := e_add h68 (by omega) | replace h68 := e_rng h68
              intro z70 h70
              first | replace h70 := e_add h70 (by omega) | replace h70 := e_rng h70
              exact ⟨_, ⟨_, _, _, rfl, rfl, rfl, rfl, (by first | omega | assumption | exact q_rg_up (by assumption) (by omega) | exact q_rg_up (q_rg_up (by assumption) (by omega)) (by omega) | exact q_rg_cpy (by assumption) (by assumption)), (by first | exact rk_s hc (by omega) (by omega) h68 (by rw [if_pos (by omega)]) | exact rk_s hc (by omega) (by omega) h68 (by rw [if_neg (by omega)]) | rfl), (by first | omega | assumption | exact q_rg_up (by assumption) (by omega) | exact q_rg_up (q_rg_up (by assumption) (by omega)) (by omega) | exact q_rg_cpy (by assumption) (by assumption))⟩, by omega⟩
    simp only [I_X12_ranked, h2, h15, if_false] at hI
  rintro lv st w' ⟨rfl, rfl, rfl⟩
  exact ⟨_, _, rfl, rfl, rfl, rfl, (by first | omega | assumption | exact q_rg_up (by assumption) (by omega) | exact q_rg_up (q_rg_up (by assumption) (by omega)) (by omega) | exact q_rg_cpy (by assumption) (by assumption)), (by first | exact rk_q hq hc (by omega) (by omega) (by omega) (by omega) | (intro p hp9; exfalso; omega))⟩

theorem dX12_ups_0 : decode cX12_ups 0 = .ok (.iconst 0, 1) := by decide +kernel
theorem dX12_ups_1 : decode cX12_ups 1 = .ok (.istore_n 1, 1) := by decide +kernel
theorem dX12_ups_2 : decode cX12_ups 2 = .ok (.iconst 0, 1) := by decide +kernel
theorem dX12_ups_3 : decode cX12_ups 3 = .ok (.istore_n 2, 1) := by decide +kernel
theorem dX12_ups_4 : decode cX12_ups 4 = .ok (.iload_n 2, 1) := by decide +kernel
theorem dX12_ups_5 : decode cX12_ups 5 = .ok (.aload_n 0, 1) := by decide +kernel
theorem dX12_ups_6 : decode cX12_ups 6 = .ok (.getfield 303, 3) := by decide +kernel
theorem dX12_ups_9 : decode cX12_ups 9 = .ok (.if_icmp .ge 72, 3) := by decide +kernel
theorem dX12_ups_12 : decode cX12_ups 12 = .ok (.iconst 0, 1) := by decide +kernel
theorem dX12_ups_13 : decode cX12_ups 13 = .ok (.istore_n 3, 1) := by decide +kernel
theorem dX12_ups_14 : decode cX12_ups 14 = .ok (.iload_n 3, 1) := by decide +kernel
theorem dX12_ups_15 : decode cX12_ups 15 = .ok (.aload_n 0, 1) := by decide +kernel
theorem dX12_ups_16 : decode cX12_ups 16 = .ok (.getfield 303, 3) := by decide +kernel
theorem dX12_ups_19 : decode cX12_ups 19 = .ok (.if_icmp .ge 56, 3) := by decide +kernel
theorem dX12_ups_22 : decode cX12_ups 22 = .ok (.iload_n 1, 1) := by decide +kernel
theorem dX12_ups_23 : decode cX12_ups 23 = .ok (.aload_n 0, 1) := by decide +kernel
theorem dX12_ups_24 : decode cX12_ups 24 = .ok (.iconst 1, 1) := by decide +kernel
theorem dX12_ups_25 : decode cX12_ups 25 = .ok (.invokevirtual 299, 3) := by decide +kernel
theorem dX12_ups_28 : decode cX12_ups 28 = .ok (.iload_n 2, 1) := by decide +kernel
theorem dX12_ups_29 : decode cX12_ups 29 = .ok (.invokestatic 92, 3) := by decide +kernel
theorem dX12_ups_32 : decode cX12_ups 32 = .ok (.ifCond .eq 34, 3) := by decide +kernel
theorem dX12_ups_35 : decode cX12_ups 35 = .ok (.aload_n 0, 1) := by decide +kernel
theorem dX12_ups_36 : decode cX12_ups 36 = .ok (.iconst 1, 1) := by decide +kernel
theorem dX12_ups_37 : decode cX12_ups 37 = .ok (.invokevirtual 299, 3) := by decide +kernel
theorem dX12_ups_40 : decode cX12_ups 40 = .ok (.iload_n 3, 1) := by decide +kernel
theorem dX12_ups_41 : decode cX12_ups 41 = .ok (.invokestatic 92, 3) := by decide +kernel
theorem dX12_ups_44 : decode cX12_ups 44 = .ok (.ifCond .ne 22, 3) := by decide +kernel
theorem dX12_ups_47 : decode cX12_ups 47 = .ok (.aload_n 0, 1) := by decide +kernel
theorem dX12_ups_48 : decode cX12_ups 48 = .ok (.getfield 44, 3) := by decide +kernel
theorem dX12_ups_51 : decode cX12_ups 51 = .ok (.iload_n 2, 1) := by decide +kernel
theorem dX12_ups_52 : decode cX12_ups 52 = .ok (.iaload, 1) := by decide +kernel
theorem dX12_ups_53 : decode cX12_ups 53 = .ok (.aload_n 0, 1) := by decide +kernel
theorem dX12_ups_54 : decode cX12_ups 54 = .ok (.getfield 44, 3) := by decide +kernel
theorem dX12_ups_57 : decode cX12_ups 57 = .ok (.iload_n 3, 1) := by decide +kernel
theorem dX12_ups_58 : decode cX12_ups 58 = .ok (.iaload, 1) := by decide +kernel
theorem dX12_ups_59 : decode cX12_ups 59 = .ok (.if_icmp .le 7, 3) := by decide +kernel
theorem dX12_ups_62 : decode cX12_ups 62 = .ok (.iconst 1, 1) := by decide +kernel
theorem dX12_ups_63 : decode cX12_ups 63 = .ok (.goto 4, 3) := by decide +kernel
theorem dX12_ups_66 : decode cX12_ups 66 = .ok (.iconst 0, 1) := by decide +kernel
theorem dX12_ups_67 : decode cX12_ups 67 = .ok (.iadd, 1) := by decide +kernel
theorem dX12_ups_68 : decode cX12_ups 68 = .ok (.istore_n 1, 1) := by decide +kernel
theorem dX12_ups_69 : decode cX12_ups 69 = .ok (.iinc 3 1, 3) := by decide +kernel
theorem dX12_ups_72 : decode cX12_ups 72 = .ok (.goto (-58), 3) := by decide +kernel
theorem dX12_ups_75 : decode cX12_ups 75 = .ok (.iinc 2 1, 3) := by decide +kernel
theorem dX12_ups_78 : decode cX12_ups 78 = .ok (.goto (-74), 3) := by decide +kernel
theorem dX12_ups_81 : decode cX12_ups 81 = .ok (.iload_n 1, 1) := by decide +kernel
theorem dX12_ups_82 : decode cX12_ups 82 = .ok (.ireturn, 1) := by decide +kernel
def is_X12_ups : Nat → List Nat := fun d => if d = 4 then [0, 1, 2] else if d = 14 then [0, 1, 2, 3] else []
set_option maxRecDepth 100000 in
def b_X12_ups_67 (J : Nat → List qV → List qV → qW → Prop) (Q : qR) : qK := x_iadd (x_istore 1 (x_iinc 3 1 (x_cut [0, 1, 2, 3] (J 14))))
set_option maxRecDepth 100000 in
theorem s_X12_ups_67 {p : Program} {l : Launch} {e : Env} {R : Room} {s : State} {m : MethodId} {args : Array Value} {below : List Frame} {meth : Method} {c : Code} {nW : Nat} {dC : Nat → ClassId} {dI : Nat → Nat → Nat} {k : Nat → ClassId} {g : Nat → Nat} {A : Nat → Prop} {J : Nat → List qV → List qV → qW → Prop} {Q : qR} (X : q_X p R s m args meth c cX12_ups 4 nW 1 21 RX12 (some .int) dC dI k g A) (hJ : ∀ d : Nat, q_Sd p l e R s m args below meth c 4 nW dC dI k g A (MQ below (q_post (dC, dI) k g nW Q A) args s 0 0 A) d (x_cut (is_X12_ups d) (J d))) : q_Sd p l e R s m args below meth c 4 nW dC dI k g A (MQ below (q_post (dC, dI) k g nW Q A) args s 0 0 A) 67 (b_X12_ups_67 J Q) := by
  unfold b_X12_ups_67
  refine s_iadd X dX12_ups_67 ?_
  refine s_istore_n X rfl (by decide) dX12_ups_68 ?_
  refine s_iinc X (by decide) dX12_ups_69 ?_
  refine s_goto X (tgt := 14) dX12_ups_72 (by decide) ?_
  exact hJ 14
set_option maxRecDepth 100000 in
def b_X12_ups_66 (J : Nat → List qV → List qV → qW → Prop) (Q : qR) : qK := x_int 0 (b_X12_ups_67 J Q)
set_option maxRecDepth 100000 in
theorem s_X12_ups_66 {p : Program} {l : Launch} {e : Env} {R : Room} {s : State} {m : MethodId} {args : Array Value} {below : List Frame} {meth : Method} {c : Code} {nW : Nat} {dC : Nat → ClassId} {dI : Nat → Nat → Nat} {k : Nat → ClassId} {g : Nat → Nat} {A : Nat → Prop} {J : Nat → List qV → List qV → qW → Prop} {Q : qR} (X : q_X p R s m args meth c cX12_ups 4 nW 1 21 RX12 (some .int) dC dI k g A) (hJ : ∀ d : Nat, q_Sd p l e R s m args below meth c 4 nW dC dI k g A (MQ below (q_post (dC, dI) k g nW Q A) args s 0 0 A) d (x_cut (is_X12_ups d) (J d))) : q_Sd p l e R s m args below meth c 4 nW dC dI k g A (MQ below (q_post (dC, dI) k g nW Q A) args s 0 0 A) 66 (b_X12_ups_66 J Q) := by
  unfold b_X12_ups_66
  refine s_iconst X ⟨by decide, by decide⟩ dX12_ups_66 ?_
  exact s_X12_ups_67 X hJ
set_option maxRecDepth 100000 in
def b_X12_ups_58 (J : Nat → List qV → List qV → qW → Prop) (Q : qR) : qK := x_iald (x_icmp_le (b_X12_ups_66 J Q) (x_int 1 (b_X12_ups_67 J Q)))
set_option maxRecDepth 100000 in
theorem s_X12_ups_58 {p : Program} {l : Launch} {e : Env} {R : Room} {s : State} {m : MethodId} {args : Array Value} {below : List Frame} {meth : Method} {c : Code} {nW : Nat} {dC : Nat → ClassId} {dI : Nat → Nat → Nat} {k : Nat → ClassId} {g : Nat → Nat} {A : Nat → Prop} {J : Nat → List qV → List qV → qW → Prop} {Q : qR} (X : q_X p R s m args meth c cX12_ups 4 nW 1 21 RX12 (some .int) dC dI k g A) (hJ : ∀ d : Nat, q_Sd p l e R s m args below meth c 4 nW dC dI k g A (MQ below (q_post (dC, dI) k g nW Q A) args s 0 0 A) d (x_cut (is_X12_ups d) (J d))) : q_Sd p l e R s m args below meth c 4 nW dC dI k g A (MQ below (q_post (dC, dI) k g nW Q A) args s 0 0 A) 58 (b_X12_ups_58 J Q) := by
  unfold b_X12_ups_58
  refine s_iald X dX12_ups_58 ?_
  refine s_icmp_le X (tgt := 66) dX12_ups_59 (by decide) ?_ ?_
  · exact s_X12_ups_66 X hJ
  · refine s_iconst X ⟨by decide, by decide⟩ dX12_ups_62 ?_
    refine s_goto X (tgt := 67) dX12_ups_63 (by decide) ?_
    exact s_X12_ups_67 X hJ
set_option maxRecDepth 100000 in
def b_X12_ups_14 (J : Nat → List qV → List qV → qW → Prop) (Q : qR) : qK := x_iload 3 (x_aload 0 (x_get 12 25 (x_icmp_ge (x_iinc 2 1 (x_cut [0, 1, 2] (J 4))) (x_iload 1 (x_aload 0 (x_int 1 (x_callr (some 12) 2 spr_X12_of (x_iload 2 (x_callr none 2 spr_X12_has (x_if_eq (b_X12_ups_66 J Q) (x_aload 0 (x_int 1 (x_callr (some 12) 2 spr_X12_of (x_iload 3 (x_callr none 2 spr_X12_has (x_if_ne (b_X12_ups_66 J Q) (x_aload 0 (x_get 12 27 (x_iload 2 (x_iald (x_aload 0 (x_get 12 27 (x_iload 3 (b_X12_ups_58 J Q))))))))))))))))))))))))
set_option maxRecDepth 100000 in
theorem s_X12_ups_14 {p : Program} {l : Launch} {e : Env} {R : Room} {s : State} {m : MethodId} {args : Array Value} {below : List Frame} {meth : Method} {c : Code} {nW : Nat} {dC : Nat → ClassId} {dI : Nat → Nat → Nat} {k : Nat → ClassId} {g : Nat → Nat} {A : Nat → Prop} {J : Nat → List qV → List qV → qW → Prop} {Q : qR} (X : q_X p R s m args meth c cX12_ups 4 nW 1 21 RX12 (some .int) dC dI k g A) (hJ : ∀ d : Nat, q_Sd p l e R s m args below meth c 4 nW dC dI k g A (MQ below (q_post (dC, dI) k g nW Q A) args s 0 0 A) d (x_cut (is_X12_ups d) (J d))) : q_Sd p l e R s m args below meth c 4 nW dC dI k g A (MQ below (q_post (dC, dI) k g nW Q A) args s 0 0 A) 14 (b_X12_ups_14 J Q) := by
  unfold b_X12_ups_14
  refine s_iload_n X rfl dX12_ups_14 ?_
  refine s_aload_n X rfl dX12_ups_15 ?_
  refine s_get X (T := TX12) (C := RX12) (N := 45) tu_X12 rfl (by decide) tw_1022 dX12_ups_16 ?_
  refine s_icmp_ge X (tgt := 75) dX12_ups_19 (by decide) ?_ ?_
  · refine s_iinc X (by decide) dX12_ups_75 ?_
    refine s_goto X (tgt := 4) dX12_ups_78 (by decide) ?_
    exact hJ 4
  · refine s_iload_n X rfl dX12_ups_22 ?_
    refine s_aload_n X rfl dX12_ups_23 ?_
    refine s_iconst X ⟨by decide, by decide⟩ dX12_ups_24 ?_
    refine s_callVr X (m_X12_of l) tw_1189 tw_1190 tw_1603 tw_134 tw_1191 rfl (by decide +kernel) ⟨by decide, by decide⟩ dX12_ups_25 ?_
    refine s_iload_n X rfl dX12_ups_28 ?_
    refine s_callSr X (m_X12_has l) tw_1233 tw_1234 tw_134 tw_1235 (by decide +kernel) ⟨by decide, by decide⟩ dX12_ups_29 ?_
    refine s_if_eq X (tgt := 66) dX12_ups_32 (by decide) ?_ ?_
    · exact s_X12_ups_66 X hJ
    · refine s_aload_n X rfl dX12_ups_35 ?_
      refine s_iconst X ⟨by decide, by decide⟩ dX12_ups_36 ?_
      refine s_callVr X (m_X12_of l) tw_1189 tw_1190 tw_1603 tw_134 tw_1191 rfl (by decide +kernel) ⟨by decide, by decide⟩ dX12_ups_37 ?_
      refine s_iload_n X rfl dX12_ups_40 ?_
      refine s_callSr X (m_X12_has l) tw_1233 tw_1234 tw_134 tw_1235 (by decide +kernel) ⟨by decide, by decide⟩ dX12_ups_41 ?_
      refine s_if_ne X (tgt := 66) dX12_ups_44 (by decide) ?_ ?_
      · exact s_X12_ups_66 X hJ
      · refine s_aload_n X rfl dX12_ups_47 ?_
        refine s_get X (T := TX12) (C := RX12) (N := 45) tu_X12 rfl (by decide) tw_1024 dX12_ups_48 ?_
        refine s_iload_n X rfl dX12_ups_51 ?_
        refine s_iald X dX12_ups_52 ?_
        refine s_aload_n X rfl dX12_ups_53 ?_
        refine s_get X (T := TX12) (C := RX12) (N := 45) tu_X12 rfl (by decide) tw_1024 dX12_ups_54 ?_
        refine s_iload_n X rfl dX12_ups_57 ?_
        exact s_X12_ups_58 X hJ
set_option maxRecDepth 100000 in
def b_X12_ups_4 (J : Nat → List qV → List qV → qW → Prop) (Q : qR) : qK := x_iload 2 (x_aload 0 (x_get 12 25 (x_icmp_ge (x_iload 1 (x_iret Q)) (x_int 0 (x_istore 3 (x_cut [0, 1, 2, 3] (J 14)))))))
set_option maxRecDepth 100000 in
theorem s_X12_ups_4 {p : Program} {l : Launch} {e : Env} {R : Room} {s : State} {m : MethodId} {args : Array Value} {below : List Frame} {meth : Method} {c : Code} {nW : Nat} {dC : Nat → ClassId} {dI : Nat → Nat → Nat} {k : Nat → ClassId} {g : Nat → Nat} {A : Nat → Prop} {J : Nat → List qV → List qV → qW → Prop} {Q : qR} (X : q_X p R s m args meth c cX12_ups 4 nW 1 21 RX12 (some .int) dC dI k g A) (hJ : ∀ d : Nat, q_Sd p l e R s m args below meth c 4 nW dC dI k g A (MQ below (q_post (dC, dI) k g nW Q A) args s 0 0 A) d (x_cut (is_X12_ups d) (J d))) : q_Sd p l e R s m args below meth c 4 nW dC dI k g A (MQ below (q_post (dC, dI) k g nW Q A) args s 0 0 A) 4 (b_X12_ups_4 J Q) := by
  unfold b_X12_ups_4
  refine s_iload_n X rfl dX12_ups_4 ?_
  refine s_aload_n X rfl dX12_ups_5 ?_
  refine s_get X (T := TX12) (C := RX12) (N := 45) tu_X12 rfl (by decide) tw_1022 dX12_ups_6 ?_
  refine s_icmp_ge X (tgt := 81) dX12_ups_9 (by decide) ?_ ?_
  · refine s_iload_n X rfl dX12_ups_81 ?_
    exact s_iret X dX12_ups_82
  · refine s_iconst X ⟨by decide, by decide⟩ dX12_ups_12 ?_
    refine s_istore_n X rfl (by decide) dX12_ups_13 ?_
    exact hJ 14
set_option maxRecDepth 100000 in
def b_X12_ups_0 (J : Nat → List qV → List qV → qW → Prop) (Q : qR) : qK := x_int 0 (x_istore 1 (x_int 0 (x_istore 2 (x_cut [0, 1, 2] (J 4)))))
set_option maxRecDepth 100000 in
theorem s_X12_ups_0 {p : Program} {l : Launch} {e : Env} {R : Room} {s : State} {m : MethodId} {args : Array Value} {below : List Frame} {meth : Method} {c : Code} {nW : Nat} {dC : Nat → ClassId} {dI : Nat → Nat → Nat} {k : Nat → ClassId} {g : Nat → Nat} {A : Nat → Prop} {J : Nat → List qV → List qV → qW → Prop} {Q : qR} (X : q_X p R s m args meth c cX12_ups 4 nW 1 21 RX12 (some .int) dC dI k g A) (hJ : ∀ d : Nat, q_Sd p l e R s m args below meth c 4 nW dC dI k g A (MQ below (q_post (dC, dI) k g nW Q A) args s 0 0 A) d (x_cut (is_X12_ups d) (J d))) : q_Sd p l e R s m args below meth c 4 nW dC dI k g A (MQ below (q_post (dC, dI) k g nW Q A) args s 0 0 A) 0 (b_X12_ups_0 J Q) := by
  unfold b_X12_ups_0
  refine s_iconst X ⟨by decide, by decide⟩ dX12_ups_0 ?_
  refine s_istore_n X rfl (by decide) dX12_ups_1 ?_
  refine s_iconst X ⟨by decide, by decide⟩ dX12_ups_2 ?_
  refine s_istore_n X rfl (by decide) dX12_ups_3 ?_
  exact hJ 4

def spr_X12_ups : List qV → qW → (Option qV → Prop) → Prop := fun av w Q => ∃ (mco : Int) (mre : Int) (mle : Int) (mbe : Int) (mso : Int) (mva : Int) (mwo : Int) (mwr : Int) (mlf : Int) (mlp : Int) (mfp : Int) (mfd : Int) (mgo : Int) (mbo : Int) (mpe : Int) (mye : Int) (mpr : Int) (mld : Int) (msi : Int) (mse : Int) (tl : Nat → Int) (bs : Nat → Int), av = [q2 0] ∧ w = [.inr (12, [q1 mco, q2 3, q2 4, q2 5, q2 6, q2 7, q2 2, q2 8, q2 9, q2 10, q1 mre, q1 mle, q1 mbe, q1 mso, q1 mva, q3 mwo, q1 mwr, q1 mlf, q1 mlp, q2 11, q2 12, q1 mfp, q1 mfd, q1 mgo, q1 mbo, q1 mpe, q1 mye, q2 1, q1 mpr, q2 13, q2 14, q2 15, q2 16, q1 mld, q2 17, q1 msi, q2 18, q2 19, q2 20, q2 21, q2 22, q1 mse, q2 23, q2 24, q2 25]), .inl (0, 8, .inl tl), .inl (0, 600, .inl bs)] ∧ (0 ≤ mbo ∧ mbo ≤ 1) ∧ (0 ≤ mpe ∧ mpe ≤ 8) ∧ (BI bs) ∧ (∀ (r : Int) , Q (some (q1 r)))
def sp_X12_ups : qS := fun av w Q => spr_X12_ups av w (fun r => Q r w)
def I_X12_ups (mco : Int) (mre : Int) (mle : Int) (mbe : Int) (mso : Int) (mva : Int) (mwo : Int) (mwr : Int) (mlf : Int) (mlp : Int) (mfp : Int) (mfd : Int) (mgo : Int) (mbo : Int) (mpe : Int) (mye : Int) (mpr : Int) (mld : Int) (msi : Int) (mse : Int) (tl : Nat → Int) (bs : Nat → Int) : Nat → Nat → List qV → List qV → qW → Prop := fun dz mz vz sz wz => if dz = 4 then (∃ (v1 : Int) (v2 : Int), vz = [q2 0, q1 v1, q1 v2] ∧ sz = [] ∧ wz = [.inr (12, [q1 mco, q2 3, q2 4, q2 5, q2 6, q2 7, q2 2, q2 8, q2 9, q2 10, q1 mre, q1 mle, q1 mbe, q1 mso, q1 mva, q3 mwo, q1 mwr, q1 mlf, q1 mlp, q2 11, q2 12, q1 mfp, q1 mfd, q1 mgo, q1 mbo, q1 mpe, q1 mye, q2 1, q1 mpr, q2 13, q2 14, q2 15, q2 16, q1 mld, q2 17, q1 msi, q2 18, q2 19, q2 20, q2 21, q2 22, q1 mse, q2 23, q2 24, q2 25]), .inl (0, 8, .inl tl), .inl (0, 600, .inl bs)] ∧ mz = 100 * (8 - v2).toNat ∧ (0 ≤ v2 ∧ v2 ≤ mpe)) else if dz = 14 then (∃ (v1 : Int) (v2 : Int) (v3 : Int), vz = [q2 0, q1 v1, q1 v2, q1 v3] ∧ sz = [] ∧ wz = [.inr (12, [q1 mco, q2 3, q2 4, q2 5, q2 6, q2 7, q2 2, q2 8, q2 9, q2 10, q1 mre, q1 mle, q1 mbe, q1 mso, q1 mva, q3 mwo, q1 mwr, q1 mlf, q1 mlp, q2 11, q2 12, q1 mfp, q1 mfd, q1 mgo, q1 mbo, q1 mpe, q1 mye, q2 1, q1 mpr, q2 13, q2 14, q2 15, q2 16, q1 mld, q2 17, q1 msi, q2 18, q2 19, q2 20, q2 21, q2 22, q1 mse, q2 23, q2 24, q2 25]), .inl (0, 8, .inl tl), .inl (0, 600, .inl bs)] ∧ mz = 100 * (8 - v2).toNat - 50 + (8 - v3).toNat ∧ (0 ≤ v2 ∧ v2 < mpe ∧ 0 ≤ v3 ∧ v3 ≤ mpe)) else False
set_option maxHeartbeats 4000000 in
set_option maxRecDepth 100000 in
theorem m_X12_ups (l : Launch) : q_M l yX12_ups cX12_ups 4 (some .int) 1 21 sp_X12_ups := by
  refine q_meth (by decide) (fun av w Q h => by obtain ⟨mco, mre, mle, mbe, mso, mva, mwo, mwr, mlf, mlp, mfp, mfd, mgo, mbo, mpe, mye, mpr, mld, msi, mse, tl, bs, rfl, rfl, hbo, hpe, hbi, hQ⟩ := h; exact Nat.le_of_ble_eq_true rfl) ?_
  intro p e R s m args below meth c dC dI k g A av w Q hsp oka okw X
  obtain ⟨mco, mre, mle, mbe, mso, mva, mwo, mwr, mlf, mlp, mfp, mfd, mgo, mbo, mpe, mye, mpr, mld, msi, mse, tl, bs, rfl, rfl, hbo, hpe, hbi, hQ⟩ := hsp
  refine s_mono (s_X12_ups_0 X (J := fun dz vz sz wz => ∃ mz, I_X12_ups mco mre mle mbe mso mva mwo mwr mlf mlp mfp mfd mgo mbo mpe mye mpr mld msi mse tl bs dz mz vz sz wz) (q_loopn (I_X12_ups mco mre mle mbe mso mva mwo mwr mlf mlp mfp mfd mgo mbo mpe mye mpr mld msi mse tl bs) (fun dz J => if dz = 4 then b_X12_ups_4 J Q else if dz = 14 then b_X12_ups_14 J Q else q_F) ?hs ?hv)) ?_
  case hs =>
    intro d J hJ
    by_cases h4 : d = 4
    · subst h4; exact s_X12_ups_4 X hJ
    by_cases h14 : d = 14
    · subst h14; exact s_X12_ups_14 X hJ
    simp only [h4, h14, if_false]
    exact s_F
  case hv =>
    intro dz mz vz sz wz hI okv oks okw hlen
    by_cases h4 : dz = 4
    · subst h4
      obtain ⟨v1, v2, rfl, rfl, rfl, hn, hp⟩ := hI
      apply And.intro
      · intro h9
        exact hQ _
      · intro h9
        exact ⟨_, ⟨_, _, _, rfl, rfl, rfl, rfl, (by first | omega | assumption | exact q_rg_up (by assumption) (by omega) | exact q_rg_up (q_rg_up (by assumption) (by omega)) (by omega) | exact q_rg_cpy (by assumption) (by assumption))⟩, by omega⟩
    by_cases h14 : dz = 14
    · subst h14
      obtain ⟨v1, v2, v3, rfl, rfl, rfl, hn, hp⟩ := hI
      apply And.intro
      · intro h19
        intro z75 h75
        first | replace h75 := e_add h75 (by omega) | replace h75 := e_rng h75
        exact ⟨_, ⟨_, _, rfl, rfl, rfl, rfl, (by first | omega | assumption | exact q_rg_up (by assumption) (by omega) | exact q_rg_up (q_rg_up (by assumption) (by omega)) (by omega) | exact q_rg_cpy (by assumption) (by assumption))⟩, by omega⟩
      · intro h19
        refine Exists.intro [0, 2, 3, 4, 5, 6, 7, 8, 9, 10, 11, 12, 1, 13, 14, 15, 16, 17, 18, 19, 20, 21, 22, 23, 24, 25] (Exists.intro [q2 0, q1 _] (Exists.intro ([.inr (12, [q1 _, q2 2, q2 3, q2 4, q2 5, q2 6, q2 1, q2 7, q2 8, q2 9, q1 _, q1 _, q1 _, q1 _, q1 _, q3 _, q1 _, q1 _, q1 _, q2 10, q2 11, q1 _, q1 _, q1 _, q1 _, q1 _, q1 _, q2 12, q1 _, q2 13, q2 14, q2 15, q2 16, q1 _, q2 17, q1 _, q2 18, q2 19, q2 20, q2 21, q2 22, q1 _, q2 23, q2 24, q2 25]), .inl (0, 600, .inl _)]) (And.intro rfl (And.intro rfl (And.intro rfl (And.intro ⟨⟨_, rfl⟩, rfl⟩ ?_))))))
        refine Exists.intro _ (Exists.intro _ (Exists.intro _ (Exists.intro _ (Exists.intro _ (Exists.intro _ (Exists.intro _ (Exists.intro _ (Exists.intro _ (Exists.intro _ (Exists.intro _ (Exists.intro _ (Exists.intro _ (Exists.intro _ (Exists.intro _ (Exists.intro _ (Exists.intro _ (Exists.intro _ (Exists.intro _ (Exists.intro _ (Exists.intro _ (Exists.intro _ (And.intro rfl (And.intro rfl (And.intro (by first | omega | assumption | exact q_rg_up (by assumption) (by omega) | exact q_rg_up (q_rg_up (by assumption) (by omega)) (by omega) | exact q_rg_cpy (by assumption) (by assumption)) (And.intro (by first | omega | assumption | exact q_rg_up (by assumption) (by omega) | exact q_rg_up (q_rg_up (by assumption) (by omega)) (by omega) | exact q_rg_cpy (by assumption) (by assumption)) (And.intro (by first | omega | assumption | exact q_rg_up (by assumption) (by omega) | exact q_rg_up (q_rg_up (by assumption) (by omega)) (by omega) | exact q_rg_cpy (by assumption) (by assumption)) (?_)))))))))))))))))))))))))))
        intro z25 h25
        obtain ⟨h25, k25⟩ := h25
        clear k25
        refine Exists.intro [] (Exists.intro [q1 _, q1 _] (Exists.intro [] (And.intro rfl (And.intro rfl (And.intro rfl (And.intro trivial ?_))))))
        refine Exists.intro _ (Exists.intro _ (And.intro rfl (And.intro rfl (?_))))
        intro z29 h29
        apply And.intro
        · intro h32
          intro z67 h67
          first | replace h67 := e_add h67 (by omega) | replace h67 := e_rng h67
          intro z69 h69
          first | replace h69 := e_add h69 (by omega) | replace h69 := e_rng h69
          exact ⟨_, ⟨_, _, _, rfl, rfl, rfl, rfl, (by first | omega | assumption | exact q_rg_up (by assumption) (by omega) | exact q_rg_up (q_rg_up (by assumption) (by omega)) (by omega) | exact q_rg_cpy (by assumption) (by assumption))⟩, by omega⟩
        · intro h32
          refine Exists.intro [0, 2, 3, 4, 5, 6, 7, 8, 9, 10, 11, 12, 1, 13, 14, 15, 16, 17, 18, 19, 20, 21, 22, 23, 24, 25] (Exists.intro [q2 0, q1 _] (Exists.intro ([.inr (12, [q1 _, q2 2, q2 3, q2 4, q2 5, q2 6, q2 1, q2 7, q2 8, q2 9, q1 _, q1 _, q1 _, q1 _, q1 _, q3 _, q1 _, q1 _, q1 _, q2 10, q2 11, q1 _, q1 _, q1 _, q1 _, q1 _, q1 _, q2 12, q1 _, q2 13, q2 14, q2 15, q2 16, q1 _, q2 17, q1 _, q2 18, q2 19, q2 20, q2 21, q2 22, q1 _, q2 23, q2 24, q2 25]), .inl (0, 600, .inl _)]) (And.intro rfl (And.intro rfl (And.intro rfl (And.intro ⟨⟨_, rfl⟩, rfl⟩ ?_))))))
          refine Exists.intro _ (Exists.intro _ (Exists.intro _ (Exists.intro _ (Exists.intro _ (Exists.intro _ (Exists.intro _ (Exists.intro _ (Exists.intro _ (Exists.intro _ (Exists.intro _ (Exists.intro _ (Exists.intro _ (Exists.intro _ (Exists.intro _ (Exists.intro _ (Exists.intro _ (Exists.intro _ (Exists.intro _ (Exists.intro _ (Exists.intro _ (Exists.intro _ (And.intro rfl (And.intro rfl (And.intro (by first | omega | assumption | exact q_rg_up (by assumption) (by omega) | exact q_rg_up (q_rg_up (by assumption) (by omega)) (by omega) | exact q_rg_cpy (by assumption) (by assumption)) (And.intro (by first | omega | assumption | exact q_rg_up (by assumption) (by omega) | exact q_rg_up (q_rg_up (by assumption) (by omega)) (by omega) | exact q_rg_cpy (by assumption) (by assumption)) (And.intro (by first | omega | assumption | exact q_rg_up (by assumption) (by omega) | exact q_rg_up (q_rg_up (by assumption) (by omega)) (by omega) | exact q_rg_cpy (by assumption) (by assumption)) (?_)))))))))))))))))))))))))))
          intro z37 h37
          obtain ⟨h37, k37⟩ := h37
          clear k37
          refine Exists.intro [] (Exists.intro [q1 _, q1 _] (Exists.intro [] (And.intro rfl (And.intro rfl (And.intro rfl (And.intro trivial ?_))))))
          refine Exists.intro _ (Exists.intro _ (And.intro rfl (And.intro rfl (?_))))
          intro z41 h41
          apply And.intro
          · intro h44
            intro z67 h67
            first | replace h67 := e_add h67 (by omega) | replace h67 := e_rng h67
            intro z69 h69
            first | replace h69 := e_add h69 (by omega) | replace h69 := e_rng h69
            exact ⟨_, ⟨_, _, _, rfl, rfl, rfl, rfl, (by first | omega | assumption | exact q_rg_up (by assumption) (by omega) | exact q_rg_up (q_rg_up (by assumption) (by omega)) (by omega) | exact q_rg_cpy (by assumption) (by assumption))⟩, by omega⟩
          · intro h44
            apply And.intro
            · exact ⟨by omega, by omega⟩
            intro z52 h52
            apply And.intro
            · exact ⟨by omega, by omega⟩
            intro z58 h58
            apply And.intro
            · intro h59
              intro z67 h67
              first | replace h67 := e_add h67 (by omega) | replace h67 := e_rng h67
              intro z69 h69
              first | replace h69 := e_add h69 (by omega) | replace h69 := e_rng h69
              exact ⟨_, ⟨_, _, _, rfl, rfl, rfl, rfl, (by first | omega | assumption | exact q_rg_up (by assumption) (by omega) | exact q_rg_up (q_rg_up (by assumption) (by omega)) (by omega) | exact q_rg_cpy (by assumption) (by assumption))⟩, by omega⟩
            · intro h59
              intro z67 h67
              first | replace h67 := e_add h67 (by omega) | replace h67 := e_rng h67
              intro z69 h69
              first | replace h69 := e_add h69 (by omega) | replace h69 := e_rng h69
              exact ⟨_, ⟨_, _, _, rfl, rfl, rfl, rfl, (by first | omega | assumption | exact q_rg_up (by assumption) (by omega) | exact q_rg_up (q_rg_up (by assumption) (by omega)) (by omega) | exact q_rg_cpy (by assumption) (by assumption))⟩, by omega⟩
    simp only [I_X12_ups, h4, h14, if_false] at hI
  rintro lv st w' ⟨rfl, rfl, rfl⟩
  exact ⟨_, _, _, rfl, rfl, rfl, rfl, (by first | omega | assumption | exact q_rg_up (by assumption) (by omega) | exact q_rg_up (q_rg_up (by assumption) (by omega)) (by omega) | exact q_rg_cpy (by assumption) (by assumption))⟩

theorem dX12_ofState_0 : decode cX12_ofState 0 = .ok (.iload_n 1, 1) := by decide +kernel
theorem dX12_ofState_1 : decode cX12_ofState 1 = .ok (.bipush 10, 2) := by decide +kernel
theorem dX12_ofState_3 : decode cX12_ofState 3 = .ok (.bipush 9, 2) := by decide +kernel
theorem dX12_ofState_5 : decode cX12_ofState 5 = .ok (.aload_n 0, 1) := by decide +kernel
theorem dX12_ofState_6 : decode cX12_ofState 6 = .ok (.getfield 303, 3) := by decide +kernel
theorem dX12_ofState_9 : decode cX12_ofState 9 = .ok (.iadd, 1) := by decide +kernel
theorem dX12_ofState_10 : decode cX12_ofState 10 = .ok (.invokestatic 100, 3) := by decide +kernel
theorem dX12_ofState_13 : decode cX12_ofState 13 = .ok (.ifCond .eq 13, 3) := by decide +kernel
theorem dX12_ofState_16 : decode cX12_ofState 16 = .ok (.aload_n 0, 1) := by decide +kernel
theorem dX12_ofState_17 : decode cX12_ofState 17 = .ok (.getfield 44, 3) := by decide +kernel
theorem dX12_ofState_20 : decode cX12_ofState 20 = .ok (.iload_n 1, 1) := by decide +kernel
theorem dX12_ofState_21 : decode cX12_ofState 21 = .ok (.bipush 10, 2) := by decide +kernel
theorem dX12_ofState_23 : decode cX12_ofState 23 = .ok (.isub, 1) := by decide +kernel
theorem dX12_ofState_24 : decode cX12_ofState 24 = .ok (.iaload, 1) := by decide +kernel
theorem dX12_ofState_25 : decode cX12_ofState 25 = .ok (.ireturn, 1) := by decide +kernel
theorem dX12_ofState_26 : decode cX12_ofState 26 = .ok (.iload_n 1, 1) := by decide +kernel
theorem dX12_ofState_27 : decode cX12_ofState 27 = .ok (.bipush 20, 2) := by decide +kernel
theorem dX12_ofState_29 : decode cX12_ofState 29 = .ok (.bipush 19, 2) := by decide +kernel
theorem dX12_ofState_31 : decode cX12_ofState 31 = .ok (.aload_n 0, 1) := by decide +kernel
theorem dX12_ofState_32 : decode cX12_ofState 32 = .ok (.getfield 303, 3) := by decide +kernel
theorem dX12_ofState_35 : decode cX12_ofState 35 = .ok (.iadd, 1) := by decide +kernel
theorem dX12_ofState_36 : decode cX12_ofState 36 = .ok (.invokestatic 100, 3) := by decide +kernel
theorem dX12_ofState_39 : decode cX12_ofState 39 = .ok (.ifCond .eq 12, 3) := by decide +kernel
theorem dX12_ofState_42 : decode cX12_ofState 42 = .ok (.aload_n 0, 1) := by decide +kernel
theorem dX12_ofState_43 : decode cX12_ofState 43 = .ok (.iload_n 1, 1) := by decide +kernel
theorem dX12_ofState_44 : decode cX12_ofState 44 = .ok (.bipush 20, 2) := by decide +kernel
theorem dX12_ofState_46 : decode cX12_ofState 46 = .ok (.isub, 1) := by decide +kernel
theorem dX12_ofState_47 : decode cX12_ofState 47 = .ok (.invokevirtual 357, 3) := by decide +kernel
theorem dX12_ofState_50 : decode cX12_ofState 50 = .ok (.ireturn, 1) := by decide +kernel
theorem dX12_ofState_51 : decode cX12_ofState 51 = .ok (.iconst 0, 1) := by decide +kernel
theorem dX12_ofState_52 : decode cX12_ofState 52 = .ok (.istore_n 2, 1) := by decide +kernel
theorem dX12_ofState_53 : decode cX12_ofState 53 = .ok (.iconst 0, 1) := by decide +kernel
theorem dX12_ofState_54 : decode cX12_ofState 54 = .ok (.istore_n 3, 1) := by decide +kernel
theorem dX12_ofState_55 : decode cX12_ofState 55 = .ok (.iconst 0, 1) := by decide +kernel
theorem dX12_ofState_56 : decode cX12_ofState 56 = .ok (.istore 4, 2) := by decide +kernel
theorem dX12_ofState_58 : decode cX12_ofState 58 = .ok (.iload 4, 2) := by decide +kernel
theorem dX12_ofState_60 : decode cX12_ofState 60 = .ok (.aload_n 0, 1) := by decide +kernel
theorem dX12_ofState_61 : decode cX12_ofState 61 = .ok (.getfield 303, 3) := by decide +kernel
theorem dX12_ofState_64 : decode cX12_ofState 64 = .ok (.if_icmp .ge 67, 3) := by decide +kernel
theorem dX12_ofState_67 : decode cX12_ofState 67 = .ok (.iload_n 2, 1) := by decide +kernel
theorem dX12_ofState_68 : decode cX12_ofState 68 = .ok (.aload_n 0, 1) := by decide +kernel
theorem dX12_ofState_69 : decode cX12_ofState 69 = .ok (.getfield 44, 3) := by decide +kernel
theorem dX12_ofState_72 : decode cX12_ofState 72 = .ok (.iload 4, 2) := by decide +kernel
theorem dX12_ofState_74 : decode cX12_ofState 74 = .ok (.iaload, 1) := by decide +kernel
theorem dX12_ofState_75 : decode cX12_ofState 75 = .ok (.aload_n 0, 1) := by decide +kernel
theorem dX12_ofState_76 : decode cX12_ofState 76 = .ok (.iconst 5, 1) := by decide +kernel
theorem dX12_ofState_77 : decode cX12_ofState 77 = .ok (.iload 4, 2) := by decide +kernel
theorem dX12_ofState_79 : decode cX12_ofState 79 = .ok (.iadd, 1) := by decide +kernel
theorem dX12_ofState_80 : decode cX12_ofState 80 = .ok (.invokevirtual 299, 3) := by decide +kernel
theorem dX12_ofState_83 : decode cX12_ofState 83 = .ok (.if_icmp .ge 10, 3) := by decide +kernel
theorem dX12_ofState_86 : decode cX12_ofState 86 = .ok (.iconst 1, 1) := by decide +kernel
theorem dX12_ofState_87 : decode cX12_ofState 87 = .ok (.iload 4, 2) := by decide +kernel
theorem dX12_ofState_89 : decode cX12_ofState 89 = .ok (.ishl, 1) := by decide +kernel
theorem dX12_ofState_90 : decode cX12_ofState 90 = .ok (.goto 4, 3) := by decide +kernel
theorem dX12_ofState_93 : decode cX12_ofState 93 = .ok (.iconst 0, 1) := by decide +kernel
theorem dX12_ofState_94 : decode cX12_ofState 94 = .ok (.ior, 1) := by decide +kernel
theorem dX12_ofState_95 : decode cX12_ofState 95 = .ok (.istore_n 2, 1) := by decide +kernel
theorem dX12_ofState_96 : decode cX12_ofState 96 = .ok (.iload_n 3, 1) := by decide +kernel
theorem dX12_ofState_97 : decode cX12_ofState 97 = .ok (.aload_n 0, 1) := by decide +kernel
theorem dX12_ofState_98 : decode cX12_ofState 98 = .ok (.getfield 44, 3) := by decide +kernel
theorem dX12_ofState_101 : decode cX12_ofState 101 = .ok (.iload 4, 2) := by decide +kernel
theorem dX12_ofState_103 : decode cX12_ofState 103 = .ok (.iaload, 1) := by decide +kernel
theorem dX12_ofState_104 : decode cX12_ofState 104 = .ok (.aload_n 0, 1) := by decide +kernel
theorem dX12_ofState_105 : decode cX12_ofState 105 = .ok (.iconst 5, 1) := by decide +kernel
theorem dX12_ofState_106 : decode cX12_ofState 106 = .ok (.iload 4, 2) := by decide +kernel
theorem dX12_ofState_108 : decode cX12_ofState 108 = .ok (.iadd, 1) := by decide +kernel
theorem dX12_ofState_109 : decode cX12_ofState 109 = .ok (.invokevirtual 299, 3) := by decide +kernel
theorem dX12_ofState_112 : decode cX12_ofState 112 = .ok (.if_icmp .le 10, 3) := by decide +kernel
theorem dX12_ofState_115 : decode cX12_ofState 115 = .ok (.iconst 1, 1) := by decide +kernel
theorem dX12_ofState_116 : decode cX12_ofState 116 = .ok (.iload 4, 2) := by decide +kernel
theorem dX12_ofState_118 : decode cX12_ofState 118 = .ok (.ishl, 1) := by decide +kernel
theorem dX12_ofState_119 : decode cX12_ofState 119 = .ok (.goto 4, 3) := by decide +kernel
theorem dX12_ofState_122 : decode cX12_ofState 122 = .ok (.iconst 0, 1) := by decide +kernel
theorem dX12_ofState_123 : decode cX12_ofState 123 = .ok (.ior, 1) := by decide +kernel
theorem dX12_ofState_124 : decode cX12_ofState 124 = .ok (.istore_n 3, 1) := by decide +kernel
theorem dX12_ofState_125 : decode cX12_ofState 125 = .ok (.iinc 4 1, 3) := by decide +kernel
theorem dX12_ofState_128 : decode cX12_ofState 128 = .ok (.goto (-70), 3) := by decide +kernel
theorem dX12_ofState_131 : decode cX12_ofState 131 = .ok (.iload_n 1, 1) := by decide +kernel
theorem dX12_ofState_132 : decode cX12_ofState 132 = .ok (.tableswitch 46 0 3 #[32, 37, 39, 41], 32) := by decide +kernel
theorem dX12_ofState_164 : decode cX12_ofState 164 = .ok (.aload_n 0, 1) := by decide +kernel
theorem dX12_ofState_165 : decode cX12_ofState 165 = .ok (.getfield 324, 3) := by decide +kernel
theorem dX12_ofState_168 : decode cX12_ofState 168 = .ok (.ireturn, 1) := by decide +kernel
theorem dX12_ofState_169 : decode cX12_ofState 169 = .ok (.iload_n 2, 1) := by decide +kernel
theorem dX12_ofState_170 : decode cX12_ofState 170 = .ok (.ireturn, 1) := by decide +kernel
theorem dX12_ofState_171 : decode cX12_ofState 171 = .ok (.iload_n 3, 1) := by decide +kernel
theorem dX12_ofState_172 : decode cX12_ofState 172 = .ok (.ireturn, 1) := by decide +kernel
theorem dX12_ofState_173 : decode cX12_ofState 173 = .ok (.aload_n 0, 1) := by decide +kernel
theorem dX12_ofState_174 : decode cX12_ofState 174 = .ok (.invokevirtual 360, 3) := by decide +kernel
theorem dX12_ofState_177 : decode cX12_ofState 177 = .ok (.ireturn, 1) := by decide +kernel
theorem dX12_ofState_178 : decode cX12_ofState 178 = .ok (.bipush (-2), 2) := by decide +kernel
theorem dX12_ofState_180 : decode cX12_ofState 180 = .ok (.ireturn, 1) := by decide +kernel
def is_X12_ofState : Nat → List Nat := fun d => if d = 58 then [0, 1, 2, 3, 4] else []
set_option maxRecDepth 100000 in
def b_X12_ofState_123 (J : Nat → List qV → List qV → qW → Prop) (Q : qR) : qK := x_ior (x_istore 3 (x_iinc 4 1 (x_cut [0, 1, 2, 3, 4] (J 58))))
set_option maxRecDepth 100000 in
theorem s_X12_ofState_123 {p : Program} {l : Launch} {e : Env} {R : Room} {s : State} {m : MethodId} {args : Array Value} {below : List Frame} {meth : Method} {c : Code} {nW : Nat} {dC : Nat → ClassId} {dI : Nat → Nat → Nat} {k : Nat → ClassId} {g : Nat → Nat} {A : Nat → Prop} {J : Nat → List qV → List qV → qW → Prop} {Q : qR} (X : q_X p R s m args meth c cX12_ofState 5 nW 2 44 RX12 (some .int) dC dI k g A) (hJ : ∀ d : Nat, q_Sd p l e R s m args below meth c 5 nW dC dI k g A (MQ below (q_post (dC, dI) k g nW Q A) args s 0 0 A) d (x_cut (is_X12_ofState d) (J d))) : q_Sd p l e R s m args below meth c 5 nW dC dI k g A (MQ below (q_post (dC, dI) k g nW Q A) args s 0 0 A) 123 (b_X12_ofState_123 J Q) := by
  unfold b_X12_ofState_123
  refine s_ior X dX12_ofState_123 ?_
  refine s_istore_n X rfl (by decide) dX12_ofState_124 ?_
  refine s_iinc X (by decide) dX12_ofState_125 ?_
  refine s_goto X (tgt := 58) dX12_ofState_128 (by decide) ?_
  exact hJ 58
set_option maxRecDepth 100000 in
def b_X12_ofState_94 (J : Nat → List qV → List qV → qW → Prop) (Q : qR) : qK := x_ior (x_istore 2 (x_iload 3 (x_aload 0 (x_get 12 27 (x_iload 4 (x_iald (x_aload 0 (x_int 5 (x_iload 4 (x_iadd (x_callr (some 12) 2 spr_X12_of (x_icmp_le (x_int 0 (b_X12_ofState_123 J Q)) (x_int 1 (x_iload 4 (x_ishl (b_X12_ofState_123 J Q))))))))))))))))
set_option maxRecDepth 100000 in
theorem s_X12_ofState_94 {p : Program} {l : Launch} {e : Env} {R : Room} {s : State} {m : MethodId} {args : Array Value} {below : List Frame} {meth : Method} {c : Code} {nW : Nat} {dC : Nat → ClassId} {dI : Nat → Nat → Nat} {k : Nat → ClassId} {g : Nat → Nat} {A : Nat → Prop} {J : Nat → List qV → List qV → qW → Prop} {Q : qR} (X : q_X p R s m args meth c cX12_ofState 5 nW 2 44 RX12 (some .int) dC dI k g A) (hJ : ∀ d : Nat, q_Sd p l e R s m args below meth c 5 nW dC dI k g A (MQ below (q_post (dC, dI) k g nW Q A) args s 0 0 A) d (x_cut (is_X12_ofState d) (J d))) : q_Sd p l e R s m args below meth c 5 nW dC dI k g A (MQ below (q_post (dC, dI) k g nW Q A) args s 0 0 A) 94 (b_X12_ofState_94 J Q) := by
  unfold b_X12_ofState_94
  refine s_ior X dX12_ofState_94 ?_
  refine s_istore_n X rfl (by decide) dX12_ofState_95 ?_
  refine s_iload_n X rfl dX12_ofState_96 ?_
  refine s_aload_n X rfl dX12_ofState_97 ?_
  refine s_get X (T := TX12) (C := RX12) (N := 45) tu_X12 rfl (by decide) tw_1024 dX12_ofState_98 ?_
  refine s_iload X dX12_ofState_101 ?_
  refine s_iald X dX12_ofState_103 ?_
  refine s_aload_n X rfl dX12_ofState_104 ?_
  refine s_iconst X ⟨by decide, by decide⟩ dX12_ofState_105 ?_
  refine s_iload X dX12_ofState_106 ?_
  refine s_iadd X dX12_ofState_108 ?_
  refine s_callVr X (m_X12_of l) tw_1189 tw_1190 tw_1603 tw_134 tw_1191 rfl (by decide +kernel) ⟨by decide, by decide⟩ dX12_ofState_109 ?_
  refine s_icmp_le X (tgt := 122) dX12_ofState_112 (by decide) ?_ ?_
  · refine s_iconst X ⟨by decide, by decide⟩ dX12_ofState_122 ?_
    exact s_X12_ofState_123 X hJ
  · refine s_iconst X ⟨by decide, by decide⟩ dX12_ofState_115 ?_
    refine s_iload X dX12_ofState_116 ?_
    refine s_ishl X dX12_ofState_118 ?_
    refine s_goto X (tgt := 123) dX12_ofState_119 (by decide) ?_
    exact s_X12_ofState_123 X hJ
set_option maxRecDepth 100000 in
def b_X12_ofState_58 (J : Nat → List qV → List qV → qW → Prop) (Q : qR) : qK := x_iload 4 (x_aload 0 (x_get 12 25 (x_icmp_ge (x_iload 1 (x_sw 0 3 [x_aload 0 (x_get 12 28 (x_iret Q)), x_iload 2 (x_iret Q), x_iload 3 (x_iret Q), x_aload 0 (x_callr (some 12) 1 spr_X12_ups (x_iret Q))] (x_int (-2) (x_iret Q)))) (x_iload 2 (x_aload 0 (x_get 12 27 (x_iload 4 (x_iald (x_aload 0 (x_int 5 (x_iload 4 (x_iadd (x_callr (some 12) 2 spr_X12_of (x_icmp_ge (x_int 0 (b_X12_ofState_94 J Q)) (x_int 1 (x_iload 4 (x_ishl (b_X12_ofState_94 J Q))))))))))))))))))
set_option maxRecDepth 100000 in
theorem s_X12_ofState_58 {p : Program} {l : Launch} {e : Env} {R : Room} {s : State} {m : MethodId} {args : Array Value} {below : List Frame} {meth : Method} {c : Code} {nW : Nat} {dC : Nat → ClassId} {dI : Nat → Nat → Nat} {k : Nat → ClassId} {g : Nat → Nat} {A : Nat → Prop} {J : Nat → List qV → List qV → qW → Prop} {Q : qR} (X : q_X p R s m args meth c cX12_ofState 5 nW 2 44 RX12 (some .int) dC dI k g A) (hJ : ∀ d : Nat, q_Sd p l e R s m args below meth c 5 nW dC dI k g A (MQ below (q_post (dC, dI) k g nW Q A) args s 0 0 A) d (x_cut (is_X12_ofState d) (J d))) : q_Sd p l e R s m args below meth c 5 nW dC dI k g A (MQ below (q_post (dC, dI) k g nW Q A) args s 0 0 A) 58 (b_X12_ofState_58 J Q) := by
  unfold b_X12_ofState_58
  refine s_iload X dX12_ofState_58 ?_
  refine s_aload_n X rfl dX12_ofState_60 ?_
  refine s_get X (T := TX12) (C := RX12) (N := 45) tu_X12 rfl (by decide) tw_1022 dX12_ofState_61 ?_
  refine s_icmp_ge X (tgt := 131) dX12_ofState_64 (by decide) ?_ ?_
  · refine s_iload_n X rfl dX12_ofState_131 ?_
    refine s_sw X (ts := [164, 169, 171, 173]) (td := 178) dX12_ofState_132 (by decide) (by decide) (by decide) rfl ?_ ?_
    · intro i t K ht hK
      match i, ht, hK with
      | 0, ht, hK =>
        cases ht
        cases hK
        refine s_aload_n X rfl dX12_ofState_164 ?_
        refine s_get X (T := TX12) (C := RX12) (N := 45) tu_X12 rfl (by decide) tw_1025 dX12_ofState_165 ?_
        exact s_iret X dX12_ofState_168
      | 1, ht, hK =>
        cases ht
        cases hK
        refine s_iload_n X rfl dX12_ofState_169 ?_
        exact s_iret X dX12_ofState_170
      | 2, ht, hK =>
        cases ht
        cases hK
        refine s_iload_n X rfl dX12_ofState_171 ?_
        exact s_iret X dX12_ofState_172
      | 3, ht, hK =>
        cases ht
        cases hK
        refine s_aload_n X rfl dX12_ofState_173 ?_
        refine s_callVr X (m_X12_ups l) tw_1255 tw_1256 tw_1629 tw_134 tw_1257 rfl (by decide +kernel) ⟨by decide, by decide⟩ dX12_ofState_174 ?_
        exact s_iret X dX12_ofState_177
      | i + 4, ht, hK => exact absurd ht (by simp)
    · refine s_bipush X ⟨by decide, by decide⟩ (by decide) dX12_ofState_178 ?_
      exact s_iret X dX12_ofState_180
  · refine s_iload_n X rfl dX12_ofState_67 ?_
    refine s_aload_n X rfl dX12_ofState_68 ?_
    refine s_get X (T := TX12) (C := RX12) (N := 45) tu_X12 rfl (by decide) tw_1024 dX12_ofState_69 ?_
    refine s_iload X dX12_ofState_72 ?_
    refine s_iald X dX12_ofState_74 ?_
    refine s_aload_n X rfl dX12_ofState_75 ?_
    refine s_iconst X ⟨by decide, by decide⟩ dX12_ofState_76 ?_
    refine s_iload X dX12_ofState_77 ?_
    refine s_iadd X dX12_ofState_79 ?_
    refine s_callVr X (m_X12_of l) tw_1189 tw_1190 tw_1603 tw_134 tw_1191 rfl (by decide +kernel) ⟨by decide, by decide⟩ dX12_ofState_80 ?_
    refine s_icmp_ge X (tgt := 93) dX12_ofState_83 (by decide) ?_ ?_
    · refine s_iconst X ⟨by decide, by decide⟩ dX12_ofState_93 ?_
      exact s_X12_ofState_94 X hJ
    · refine s_iconst X ⟨by decide, by decide⟩ dX12_ofState_86 ?_
      refine s_iload X dX12_ofState_87 ?_
      refine s_ishl X dX12_ofState_89 ?_
      refine s_goto X (tgt := 94) dX12_ofState_90 (by decide) ?_
      exact s_X12_ofState_94 X hJ
set_option maxRecDepth 100000 in
def b_X12_ofState_43 (J : Nat → List qV → List qV → qW → Prop) (Q : qR) : qK := x_iload 1 (x_int 20 (x_isub (x_callr (some 12) 2 spr_X12_ranked (x_iret Q))))
set_option maxRecDepth 100000 in
theorem s_X12_ofState_43 {p : Program} {l : Launch} {e : Env} {R : Room} {s : State} {m : MethodId} {args : Array Value} {below : List Frame} {meth : Method} {c : Code} {nW : Nat} {dC : Nat → ClassId} {dI : Nat → Nat → Nat} {k : Nat → ClassId} {g : Nat → Nat} {A : Nat → Prop} {J : Nat → List qV → List qV → qW → Prop} {Q : qR} (X : q_X p R s m args meth c cX12_ofState 5 nW 2 44 RX12 (some .int) dC dI k g A) (hJ : ∀ d : Nat, q_Sd p l e R s m args below meth c 5 nW dC dI k g A (MQ below (q_post (dC, dI) k g nW Q A) args s 0 0 A) d (x_cut (is_X12_ofState d) (J d))) : q_Sd p l e R s m args below meth c 5 nW dC dI k g A (MQ below (q_post (dC, dI) k g nW Q A) args s 0 0 A) 43 (b_X12_ofState_43 J Q) := by
  unfold b_X12_ofState_43
  refine s_iload_n X rfl dX12_ofState_43 ?_
  refine s_bipush X ⟨by decide, by decide⟩ (by decide) dX12_ofState_44 ?_
  refine s_isub X dX12_ofState_46 ?_
  refine s_callVr X (m_X12_ranked l) tw_1252 tw_1253 tw_1611 tw_134 tw_1254 rfl (by decide +kernel) ⟨by decide, by decide⟩ dX12_ofState_47 ?_
  exact s_iret X dX12_ofState_50
set_option maxRecDepth 100000 in
def b_X12_ofState_0 (J : Nat → List qV → List qV → qW → Prop) (Q : qR) : qK := x_iload 1 (x_int 10 (x_int 9 (x_aload 0 (x_get 12 25 (x_iadd (x_callr none 3 spr_X12_in (x_if_eq (x_iload 1 (x_int 20 (x_int 19 (x_aload 0 (x_get 12 25 (x_iadd (x_callr none 3 spr_X12_in (x_if_eq (x_int 0 (x_istore 2 (x_int 0 (x_istore 3 (x_int 0 (x_istore 4 (x_cut [0, 1, 2, 3, 4] (J 58)))))))) (x_aload 0 (b_X12_ofState_43 J Q)))))))))) (x_aload 0 (x_get 12 27 (x_iload 1 (x_int 10 (x_isub (x_iald (x_iret Q))))))))))))))
set_option maxRecDepth 100000 in
theorem s_X12_ofState_0 {p : Program} {l : Launch} {e : Env} {R : Room} {s : State} {m : MethodId} {args : Array Value} {below : List Frame} {meth : Method} {c : Code} {nW : Nat} {dC : Nat → ClassId} {dI : Nat → Nat → Nat} {k : Nat → ClassId} {g : Nat → Nat} {A : Nat → Prop} {J : Nat → List qV → List qV → qW → Prop} {Q : qR} (X : q_X p R s m args meth c cX12_ofState 5 nW 2 44 RX12 (some .int) dC dI k g A) (hJ : ∀ d : Nat, q_Sd p l e R s m args below meth c 5 nW dC dI k g A (MQ below (q_post (dC, dI) k g nW Q A) args s 0 0 A) d (x_cut (is_X12_ofState d) (J d))) : q_Sd p l e R s m args below meth c 5 nW dC dI k g A (MQ below (q_post (dC, dI) k g nW Q A) args s 0 0 A) 0 (b_X12_ofState_0 J Q) := by
  unfold b_X12_ofState_0
  refine s_iload_n X rfl dX12_ofState_0 ?_
  refine s_bipush X ⟨by decide, by decide⟩ (by decide) dX12_ofState_1 ?_
  refine s_bipush X ⟨by decide, by decide⟩ (by decide) dX12_ofState_3 ?_
  refine s_aload_n X rfl dX12_ofState_5 ?_
  refine s_get X (T := TX12) (C := RX12) (N := 45) tu_X12 rfl (by decide) tw_1022 dX12_ofState_6 ?_
  refine s_iadd X dX12_ofState_9 ?_
  refine s_callSr X (m_X12_in l) tw_1054 tw_1055 tw_134 tw_1056 (by decide +kernel) ⟨by decide, by decide⟩ dX12_ofState_10 ?_
  refine s_if_eq X (tgt := 26) dX12_ofState_13 (by decide) ?_ ?_
  · refine s_iload_n X rfl dX12_ofState_26 ?_
    refine s_bipush X ⟨by decide, by decide⟩ (by decide) dX12_ofState_27 ?_
    refine s_bipush X ⟨by decide, by decide⟩ (by decide) dX12_ofState_29 ?_
    refine s_aload_n X rfl dX12_ofState_31 ?_
    refine s_get X (T := TX12) (C := RX12) (N := 45) tu_X12 rfl (by decide) tw_1022 dX12_ofState_32 ?_
    refine s_iadd X dX12_ofState_35 ?_
    refine s_callSr X (m_X12_in l) tw_1054 tw_1055 tw_134 tw_1056 (by decide +kernel) ⟨by decide, by decide⟩ dX12_ofState_36 ?_
    refine s_if_eq X (tgt := 51) dX12_ofState_39 (by decide) ?_ ?_
    · refine s_iconst X ⟨by decide, by decide⟩ dX12_ofState_51 ?_
      refine s_istore_n X rfl (by decide) dX12_ofState_52 ?_
      refine s_iconst X ⟨by decide, by decide⟩ dX12_ofState_53 ?_
      refine s_istore_n X rfl (by decide) dX12_ofState_54 ?_
      refine s_iconst X ⟨by decide, by decide⟩ dX12_ofState_55 ?_
      refine s_istore X (by decide) dX12_ofState_56 ?_
      exact hJ 58
    · refine s_aload_n X rfl dX12_ofState_42 ?_
      exact s_X12_ofState_43 X hJ
  · refine s_aload_n X rfl dX12_ofState_16 ?_
    refine s_get X (T := TX12) (C := RX12) (N := 45) tu_X12 rfl (by decide) tw_1024 dX12_ofState_17 ?_
    refine s_iload_n X rfl dX12_ofState_20 ?_
    refine s_bipush X ⟨by decide, by decide⟩ (by decide) dX12_ofState_21 ?_
    refine s_isub X dX12_ofState_23 ?_
    refine s_iald X dX12_ofState_24 ?_
    exact s_iret X dX12_ofState_25

def spr_X12_ofState : List qV → qW → (Option qV → Prop) → Prop := fun av w Q => ∃ (mco : Int) (mre : Int) (mle : Int) (mbe : Int) (mso : Int) (mva : Int) (mwo : Int) (mwr : Int) (mlf : Int) (mlp : Int) (mfp : Int) (mfd : Int) (mgo : Int) (mbo : Int) (mpe : Int) (mye : Int) (mpr : Int) (mld : Int) (msi : Int) (mse : Int) (tl : Nat → Int) (bs : Nat → Int) (a : Int), av = [q2 0, q1 a] ∧ w = [.inr (12, [q1 mco, q2 3, q2 4, q2 5, q2 6, q2 7, q2 2, q2 8, q2 9, q2 10, q1 mre, q1 mle, q1 mbe, q1 mso, q1 mva, q3 mwo, q1 mwr, q1 mlf, q1 mlp, q2 11, q2 12, q1 mfp, q1 mfd, q1 mgo, q1 mbo, q1 mpe, q1 mye, q2 1, q1 mpr, q2 13, q2 14, q2 15, q2 16, q1 mld, q2 17, q1 msi, q2 18, q2 19, q2 20, q2 21, q2 22, q1 mse, q2 23, q2 24, q2 25]), .inl (0, 8, .inl tl), .inl (0, 600, .inl bs)] ∧ (0 ≤ mbo ∧ mbo ≤ 1) ∧ (0 ≤ mpe ∧ mpe ≤ 8) ∧ (BI bs) ∧ (∀ (r : Int) , Q (some (q1 r)))
def sp_X12_ofState : qS := fun av w Q => spr_X12_ofState av w (fun r => Q r w)
def I_X12_ofState (mco : Int) (mre : Int) (mle : Int) (mbe : Int) (mso : Int) (mva : Int) (mwo : Int) (mwr : Int) (mlf : Int) (mlp : Int) (mfp : Int) (mfd : Int) (mgo : Int) (mbo : Int) (mpe : Int) (mye : Int) (mpr : Int) (mld : Int) (msi : Int) (mse : Int) (tl : Nat → Int) (bs : Nat → Int) (a : Int) : Nat → Nat → List qV → List qV → qW → Prop := fun dz mz vz sz wz => if dz = 58 then (∃ (v2 : Int) (v3 : Int) (v4 : Int), vz = [q2 0, q1 a, q1 v2, q1 v3, q1 v4] ∧ sz = [] ∧ wz = [.inr (12, [q1 mco, q2 3, q2 4, q2 5, q2 6, q2 7, q2 2, q2 8, q2 9, q2 10, q1 mre, q1 mle, q1 mbe, q1 mso, q1 mva, q3 mwo, q1 mwr, q1 mlf, q1 mlp, q2 11, q2 12, q1 mfp, q1 mfd, q1 mgo, q1 mbo, q1 mpe, q1 mye, q2 1, q1 mpr, q2 13, q2 14, q2 15, q2 16, q1 mld, q2 17, q1 msi, q2 18, q2 19, q2 20, q2 21, q2 22, q1 mse, q2 23, q2 24, q2 25]), .inl (0, 8, .inl tl), .inl (0, 600, .inl bs)] ∧ mz = (mpe - v4).toNat ∧ (0 ≤ v4 ∧ v4 ≤ mpe)) else False
set_option maxHeartbeats 4000000 in
set_option maxRecDepth 100000 in
theorem m_X12_ofState (l : Launch) : q_M l yX12_ofState cX12_ofState 5 (some .int) 2 44 sp_X12_ofState := by
  refine q_meth (by decide) (fun av w Q h => by obtain ⟨mco, mre, mle, mbe, mso, mva, mwo, mwr, mlf, mlp, mfp, mfd, mgo, mbo, mpe, mye, mpr, mld, msi, mse, tl, bs, a, rfl, rfl, hbo, hpe, hbi, hQ⟩ := h; exact Nat.le_of_ble_eq_true rfl) ?_
  intro p e R s m args below meth c dC dI k g A av w Q hsp oka okw X
  obtain ⟨mco, mre, mle, mbe, mso, mva, mwo, mwr, mlf, mlp, mfp, mfd, mgo, mbo, mpe, mye, mpr, mld, msi, mse, tl, bs, a, rfl, rfl, hbo, hpe, hbi, hQ⟩ := hsp
  have o_a : -2147483648 ≤ a ∧ a ≤ 2147483647 := oka _ (List.mem_of_getElem? (i := 1) rfl)
  refine s_mono (s_X12_ofState_0 X (J := fun dz vz sz wz => ∃ mz, I_X12_ofState mco mre mle mbe mso mva mwo mwr mlf mlp mfp mfd mgo mbo mpe mye mpr mld msi mse tl bs a dz mz vz sz wz) (q_loopn (I_X12_ofState mco mre mle mbe mso mva mwo mwr mlf mlp mfp mfd mgo mbo mpe mye mpr mld msi mse tl bs a) (fun dz J => if dz = 58 then b_X12_ofState_58 J Q else q_F) ?hs ?hv)) ?_
  case hs =>
    intro d J hJ
    by_cases h58 : d = 58
    · subst h58; exact s_X12_ofState_58 X hJ
    simp only [h58, if_false]
    exact s_F
  case hv =>
    intro dz mz vz sz wz hI okv oks okw hlen
    by_cases h58 : dz = 58
    · subst h58
      obtain ⟨v2, v3, v4, rfl, rfl, rfl, hn, hp⟩ := hI
      apply And.intro
      · intro h64
        apply And.intro
        · apply And.intro
          · intro h132
            exact hQ _
          apply And.intro
          · intro h132
            exact hQ _
          apply And.intro
          · intro h132
            exact hQ _
          apply And.intro
          · intro h132
            refine Exists.intro [0, 1, 2, 3, 4, 5, 6, 7, 8, 9, 10, 11, 12, 13, 14, 15, 16, 17, 18, 19, 20, 21, 22, 23, 24, 25] (Exists.intro [q2 0] (Exists.intro ([.inr (12, [q1 _, q2 3, q2 4, q2 5, q2 6, q2 7, q2 2, q2 8, q2 9, q2 10, q1 _, q1 _, q1 _, q1 _, q1 _, q3 _, q1 _, q1 _, q1 _, q2 11, q2 12, q1 _, q1 _, q1 _, q1 _, q1 _, q1 _, q2 1, q1 _, q2 13, q2 14, q2 15, q2 16, q1 _, q2 17, q1 _, q2 18, q2 19, q2 20, q2 21, q2 22, q1 _, q2 23, q2 24, q2 25]), .inl (0, 8, .inl _), .inl (0, 600, .inl _)]) (And.intro rfl (And.intro rfl (And.intro rfl (And.intro ⟨⟨_, rfl⟩, rfl⟩ ?_))))))
            refine Exists.intro _ (Exists.intro _ (Exists.intro _ (Exists.intro _ (Exists.intro _ (Exists.intro _ (Exists.intro _ (Exists.intro _ (Exists.intro _ (Exists.intro _ (Exists.intro _ (Exists.intro _ (Exists.intro _ (Exists.intro _ (Exists.intro _ (Exists.intro _ (Exists.intro _ (Exists.intro _ (Exists.intro _ (Exists.intro _ (Exists.intro _ (Exists.intro _ (And.intro rfl (And.intro rfl (And.intro (by first | omega | assumption | exact q_rg_up (by assumption) (by omega) | exact q_rg_up (q_rg_up (by assumption) (by omega)) (by omega) | exact q_rg_cpy (by assumption) (by assumption)) (And.intro (by first | omega | assumption | exact q_rg_up (by assumption) (by omega) | exact q_rg_up (q_rg_up (by assumption) (by omega)) (by omega) | exact q_rg_cpy (by assumption) (by assumption)) (And.intro (by first | omega | assumption | exact q_rg_up (by assumption) (by omega) | exact q_rg_up (q_rg_up (by assumption) (by omega)) (by omega) | exact q_rg_cpy (by assumption) (by assumption)) (?_)))))))))))))))))))))))))))
            intro z174
            exact hQ _
          exact trivial
        · intro h132
          exact hQ _
      · intro h64
        apply And.intro
        · exact ⟨by omega, by omega⟩
        intro z74 h74
        intro z79 h79
        first | replace h79 := e_add h79 (by omega) | replace h79 := e_rng h79
        refine Exists.intro [0, 2, 3, 4, 5, 6, 7, 8, 9, 10, 11, 12, 1, 13, 14, 15, 16, 17, 18, 19, 20, 21, 22, 23, 24, 25] (Exists.intro [q2 0, q1 _] (Exists.intro ([.inr (12, [q1 _, q2 2, q2 3, q2 4, q2 5, q2 6, q2 1, q2 7, q2 8, q2 9, q1 _, q1 _, q1 _, q1 _, q1 _, q3 _, q1 _, q1 _, q1 _, q2 10, q2 11, q1 _, q1 _, q1 _, q1 _, q1 _, q1 _, q2 12, q1 _, q2 13, q2 14, q2 15, q2 16, q1 _, q2 17, q1 _, q2 18, q2 19, q2 20, q2 21, q2 22, q1 _, q2 23, q2 24, q2 25]), .inl (0, 600, .inl _)]) (And.intro rfl (And.intro rfl (And.intro rfl (And.intro ⟨⟨_, rfl⟩, rfl⟩ ?_))))))
        refine Exists.intro _ (Exists.intro _ (Exists.intro _ (Exists.intro _ (Exists.intro _ (Exists.intro _ (Exists.intro _ (Exists.intro _ (Exists.intro _ (Exists.intro _ (Exists.intro _ (Exists.intro _ (Exists.intro _ (Exists.intro _ (Exists.intro _ (Exists.intro _ (Exists.intro _ (Exists.intro _ (Exists.intro _ (Exists.intro _ (Exists.intro _ (Exists.intro _ (And.intro rfl (And.intro rfl (And.intro (by first | omega | assumption | exact q_rg_up (by assumption) (by omega) | exact q_rg_up (q_rg_up (by assumption) (by omega)) (by omega) | exact q_rg_cpy (by assumption) (by assumption)) (And.intro (by first | omega | assumption | exact q_rg_up (by assumption) (by omega) | exact q_rg_up (q_rg_up (by assumption) (by omega)) (by omega) | exact q_rg_cpy (by assumption) (by assumption)) (And.intro (by first | omega | assumption | exact q_rg_up (by assumption) (by omega) | exact q_rg_up (q_rg_up (by assumption) (by omega)) (by omega) | exact q_rg_cpy (by assumption) (by assumption)) (?_)))))))))))))))))))))))))))
        intro z80 h80
        obtain ⟨h80, k80⟩ := h80
        first | replace k80 := OFQ_13 k80 (by omega) | replace k80 := OFQ_21 k80 (by omega) | clear k80
        apply And.intro
        · intro h83
          intro z94 h94
          first | replace h94 := e_or8 h94 (by omega) (by omega) | replace h94 := e_or9 h94 (by omega) (by omega) | replace h94 := e_rng h94
          apply And.intro
          · exact ⟨by omega, by omega⟩
          intro z103 h103
          intro z108 h108
          first | replace h108 := e_add h108 (by omega) | replace h108 := e_rng h108
          refine Exists.intro [0, 2, 3, 4, 5, 6, 7, 8, 9, 10, 11, 12, 1, 13, 14, 15, 16, 17, 18, 19, 20, 21, 22, 23, 24, 25] (Exists.intro [q2 0, q1 _] (Exists.intro ([.inr (12, [q1 _, q2 2, q2 3, q2 4, q2 5, q2 6, q2 1, q2 7, q2 8, q2 9, q1 _, q1 _, q1 _, q1 _, q1 _, q3 _, q1 _, q1 _, q1 _, q2 10, q2 11, q1 _, q1 _, q1 _, q1 _, q1 _, q1 _, q2 12, q1 _, q2 13, q2 14, q2 15, q2 16, q1 _, q2 17, q1 _, q2 18, q2 19, q2 20, q2 21, q2 22, q1 _, q2 23, q2 24, q2 25]), .inl (0, 600, .inl _)]) (And.intro rfl (And.intro rfl (And.intro rfl (And.intro ⟨⟨_, rfl⟩, rfl⟩ ?_))))))
          refine Exists.intro _ (Exists.intro _ (Exists.intro _ (Exists.intro _ (Exists.intro _ (Exists.intro _ (Exists.intro _ (Exists.intro _ (Exists.intro _ (Exists.intro _ (Exists.intro _ (Exists.intro _ (Exists.intro _ (Exists.intro _ (Exists.intro _ (Exists.intro _ (Exists.intro _ (Exists.intro _ (Exists.intro _ (Exists.intro _ (Exists.intro _ (Exists.intro _ (And.intro rfl (And.intro rfl (And.intro (by first | omega | assumption | exact q_rg_up (by assumption) (by omega) | exact q_rg_up (q_rg_up (by assumption) (by omega)) (by omega) | exact q_rg_cpy (by assumption) (by assumption)) (And.intro (by first | omega | assumption | exact q_rg_up (by assumption) (by omega) | exact q_rg_up (q_rg_up (by assumption) (by omega)) (by omega) | exact q_rg_cpy (by assumption) (by assumption)) (And.intro (by first | omega | assumption | exact q_rg_up (by assumption) (by omega) | exact q_rg_up (q_rg_up (by assumption) (by omega)) (by omega) | exact q_rg_cpy (by assumption) (by assumption)) (?_)))))))))))))))))))))))))))
          intro z109 h109
          obtain ⟨h109, k109⟩ := h109
          first | replace k109 := OFQ_13 k109 (by omega) | replace k109 := OFQ_21 k109 (by omega) | clear k109
          apply And.intro
          · intro h112
            intro z123 h123
            first | replace h123 := e_or8 h123 (by omega) (by omega) | replace h123 := e_or9 h123 (by omega) (by omega) | replace h123 := e_rng h123
            intro z125 h125
            first | replace h125 := e_add h125 (by omega) | replace h125 := e_rng h125
            exact ⟨_, ⟨_, _, _, rfl, rfl, rfl, rfl, (by first | omega | assumption | exact q_rg_up (by assumption) (by omega) | exact q_rg_up (q_rg_up (by assumption) (by omega)) (by omega) | exact q_rg_cpy (by assumption) (by assumption))⟩, by omega⟩
          · intro h112
            intro z118 h118
            first | replace h118 := e_shl h118 (by omega) | replace h118 := e_rng h118
            intro z123 h123
            first | replace h123 := e_or8 h123 (by omega) (by omega) | replace h123 := e_or9 h123 (by omega) (by omega) | replace h123 := e_rng h123
            intro z125 h125
            first | replace h125 := e_add h125 (by omega) | replace h125 := e_rng h125
            exact ⟨_, ⟨_, _, _, rfl, rfl, rfl, rfl, (by first | omega | assumption | exact q_rg_up (by assumption) (by omega) | exact q_rg_up (q_rg_up (by assumption) (by omega)) (by omega) | exact q_rg_cpy (by assumption) (by assumption))⟩, by omega⟩
        · intro h83
          intro z89 h89
          first | replace h89 := e_shl h89 (by omega) | replace h89 := e_rng h89
          intro z94 h94
          first | replace h94 := e_or8 h94 (by omega) (by omega) | replace h94 := e_or9 h94 (by omega) (by omega) | replace h94 := e_rng h94
          apply And.intro
          · exact ⟨by omega, by omega⟩
          intro z103 h103
          intro z108 h108
          first | replace h108 := e_add h108 (by omega) | replace h108 := e_rng h108
          refine Exists.intro [0, 2, 3, 4, 5, 6, 7, 8, 9, 10, 11, 12, 1, 13, 14, 15, 16, 17, 18, 19, 20, 21, 22, 23, 24, 25] (Exists.intro [q2 0, q1 _] (Exists.intro ([.inr (12, [q1 _, q2 2, q2 3, q2 4, q2 5, q2 6, q2 1, q2 7, q2 8, q2 9, q1 _, q1 _, q1 _, q1 _, q1 _, q3 _, q1 _, q1 _, q1 _, q2 10, q2 11, q1 _, q1 _, q1 _, q1 _, q1 _, q1 _, q2 12, q1 _, q2 13, q2 14, q2 15, q2 16, q1 _, q2 17, q1 _, q2 18, q2 19, q2 20, q2 21, q2 22, q1 _, q2 23, q2 24, q2 25]), .inl (0, 600, .inl _)]) (And.intro rfl (And.intro rfl (And.intro rfl (And.intro ⟨⟨_, rfl⟩, rfl⟩ ?_))))))
          refine Exists.intro _ (Exists.intro _ (Exists.intro _ (Exists.intro _ (Exists.intro _ (Exists.intro _ (Exists.intro _ (Exists.intro _ (Exists.intro _ (Exists.intro _ (Exists.intro _ (Exists.intro _ (Exists.intro _ (Exists.intro _ (Exists.intro _ (Exists.intro _ (Exists.intro _ (Exists.intro _ (Exists.intro _ (Exists.intro _ (Exists.intro _ (Exists.intro _ (And.intro rfl (And.intro rfl (And.intro (by first | omega | assumption | exact q_rg_up (by assumption) (by omega) | exact q_rg_up (q_rg_up (by assumption) (by omega)) (by omega) | exact q_rg_cpy (by assumption) (by assumption)) (And.intro (by first | omega | assumption | exact q_rg_up (by assumption) (by omega) | exact q_rg_up (q_rg_up (by assumption) (by omega)) (by omega) | exact q_rg_cpy (by assumption) (by assumption)) (And.intro (by first | omega | assumption | exact q_rg_up (by assumption) (by omega) | exact q_rg_up (q_rg_up (by assumption) (by omega)) (by omega) | exact q_rg_cpy (by assumption) (by assumption)) (?_)))))))))))))))))))))))))))
          intro z109 h109
          obtain ⟨h109, k109⟩ := h109
          first | replace k109 := OFQ_13 k109 (by omega) | replace k109 := OFQ_21 k109 (by omega) | clear k109
          apply And.intro
          · intro h112
            intro z123 h123
            first | replace h123 := e_or8 h123 (by omega) (by omega) | replace h123 := e_or9 h123 (by omega) (by omega) | replace h123 := e_rng h123
            intro z125 h125
            first | replace h125 := e_add h125 (by omega) | replace h125 := e_rng h125
            exact ⟨_, ⟨_, _, _, rfl, rfl, rfl, rfl, (by first | omega | assumption | exact q_rg_up (by assumption) (by omega) | exact q_rg_up (q_rg_up (by assumption) (by omega)) (by omega) | exact q_rg_cpy (by assumption) (by assumption))⟩, by omega⟩
          · intro h112
            intro z118 h118
            first | replace h118 := e_shl h118 (by omega) | replace h118 := e_rng h118
            intro z123 h123
            first | replace h123 := e_or8 h123 (by omega) (by omega) | replace h123 := e_or9 h123 (by omega) (by omega) | replace h123 := e_rng h123
            intro z125 h125
            first | replace h125 := e_add h125 (by omega) | replace h125 := e_rng h125
            exact ⟨_, ⟨_, _, _, rfl, rfl, rfl, rfl, (by first | omega | assumption | exact q_rg_up (by assumption) (by omega) | exact q_rg_up (q_rg_up (by assumption) (by omega)) (by omega) | exact q_rg_cpy (by assumption) (by assumption))⟩, by omega⟩
    simp only [I_X12_ofState, h58, if_false] at hI
  rintro lv st w' ⟨rfl, rfl, rfl⟩
  intro z9 h9
  first | replace h9 := e_add h9 (by omega) | replace h9 := e_rng h9
  refine Exists.intro [] (Exists.intro [q1 _, q1 _, q1 _] (Exists.intro [] (And.intro rfl (And.intro rfl (And.intro rfl (And.intro trivial ?_))))))
  refine Exists.intro _ (Exists.intro _ (Exists.intro _ (And.intro rfl (And.intro rfl (?_)))))
  intro z10 h10
  apply And.intro
  · intro h13
    first | replace h10 := dj1 h10 h13 | replace h10 := dj0 h10 h13
    intro z35 h35
    first | replace h35 := e_add h35 (by omega) | replace h35 := e_rng h35
    refine Exists.intro [] (Exists.intro [q1 _, q1 _, q1 _] (Exists.intro [] (And.intro rfl (And.intro rfl (And.intro rfl (And.intro trivial ?_))))))
    refine Exists.intro _ (Exists.intro _ (Exists.intro _ (And.intro rfl (And.intro rfl (?_)))))
    intro z36 h36
    apply And.intro
    · intro h39
      first | replace h36 := dj1 h36 h39 | replace h36 := dj0 h36 h39
      exact ⟨_, _, _, _, rfl, rfl, rfl, rfl, (by first | omega | assumption | exact q_rg_up (by assumption) (by omega) | exact q_rg_up (q_rg_up (by assumption) (by omega)) (by omega) | exact q_rg_cpy (by assumption) (by assumption))⟩
    · intro h39
      first | replace h36 := dj1 h36 h39 | replace h36 := dj0 h36 h39
      intro z46 h46
      first | replace h46 := e_sub h46 (by omega) | replace h46 := e_rng h46
      refine Exists.intro [0, 1, 3, 4, 5, 6, 7, 2, 8, 9, 10, 11, 12, 13, 14, 15, 16, 17, 18, 19, 20, 21, 22, 23, 24, 25] (Exists.intro [q2 0, q1 _] (Exists.intro ([.inr (12, [q1 _, q2 2, q2 3, q2 4, q2 5, q2 6, q2 7, q2 8, q2 9, q2 10, q1 _, q1 _, q1 _, q1 _, q1 _, q3 _, q1 _, q1 _, q1 _, q2 11, q2 12, q1 _, q1 _, q1 _, q1 _, q1 _, q1 _, q2 1, q1 _, q2 13, q2 14, q2 15, q2 16, q1 _, q2 17, q1 _, q2 18, q2 19, q2 20, q2 21, q2 22, q1 _, q2 23, q2 24, q2 25]), .inl (0, 8, .inl _)]) (And.intro rfl (And.intro rfl (And.intro rfl (And.intro ⟨⟨_, rfl⟩, rfl⟩ ?_))))))
      refine Exists.intro _ (Exists.intro _ (Exists.intro _ (Exists.intro _ (Exists.intro _ (Exists.intro _ (Exists.intro _ (Exists.intro _ (Exists.intro _ (Exists.intro _ (Exists.intro _ (Exists.intro _ (Exists.intro _ (Exists.intro _ (Exists.intro _ (Exists.intro _ (Exists.intro _ (Exists.intro _ (Exists.intro _ (Exists.intro _ (Exists.intro _ (Exists.intro _ (And.intro rfl (And.intro rfl (And.intro (by first | omega | assumption | exact q_rg_up (by assumption) (by omega) | exact q_rg_up (q_rg_up (by assumption) (by omega)) (by omega) | exact q_rg_cpy (by assumption) (by assumption)) (?_)))))))))))))))))))))))))
      intro z47 h47
      exact hQ _
  · intro h13
    first | replace h10 := dj1 h10 h13 | replace h10 := dj0 h10 h13
    intro z23 h23
    first | replace h23 := e_sub h23 (by omega) | replace h23 := e_rng h23
    apply And.intro
    · exact ⟨by omega, by omega⟩
    intro z24 h24
    exact hQ _

theorem dX12_state_0 : decode cX12_state 0 = .ok (.aload_n 0, 1) := by decide +kernel
theorem dX12_state_1 : decode cX12_state 1 = .ok (.iconst 0, 1) := by decide +kernel
theorem dX12_state_2 : decode cX12_state 2 = .ok (.putfield 88, 3) := by decide +kernel
theorem dX12_state_5 : decode cX12_state 5 = .ok (.aload_n 0, 1) := by decide +kernel
theorem dX12_state_6 : decode cX12_state 6 = .ok (.iload_n 1, 1) := by decide +kernel
theorem dX12_state_7 : decode cX12_state 7 = .ok (.iload_n 2, 1) := by decide +kernel
theorem dX12_state_8 : decode cX12_state 8 = .ok (.invokevirtual 351, 3) := by decide +kernel
theorem dX12_state_11 : decode cX12_state 11 = .ok (.ifCond .eq 33, 3) := by decide +kernel
theorem dX12_state_14 : decode cX12_state 14 = .ok (.iload_n 3, 1) := by decide +kernel
theorem dX12_state_15 : decode cX12_state 15 = .ok (.iconst 0, 1) := by decide +kernel
theorem dX12_state_16 : decode cX12_state 16 = .ok (.aload_n 0, 1) := by decide +kernel
theorem dX12_state_17 : decode cX12_state 17 = .ok (.invokevirtual 318, 3) := by decide +kernel
theorem dX12_state_20 : decode cX12_state 20 = .ok (.invokestatic 100, 3) := by decide +kernel
theorem dX12_state_23 : decode cX12_state 23 = .ok (.ifCond .eq 21, 3) := by decide +kernel
theorem dX12_state_26 : decode cX12_state 26 = .ok (.aload_n 0, 1) := by decide +kernel
theorem dX12_state_27 : decode cX12_state 27 = .ok (.iload_n 3, 1) := by decide +kernel
theorem dX12_state_28 : decode cX12_state 28 = .ok (.invokevirtual 354, 3) := by decide +kernel
theorem dX12_state_31 : decode cX12_state 31 = .ok (.iload_n 3, 1) := by decide +kernel
theorem dX12_state_32 : decode cX12_state 32 = .ok (.if_icmp .ne 12, 3) := by decide +kernel
theorem dX12_state_35 : decode cX12_state 35 = .ok (.aload_n 0, 1) := by decide +kernel
theorem dX12_state_36 : decode cX12_state 36 = .ok (.iload 4, 2) := by decide +kernel
theorem dX12_state_38 : decode cX12_state 38 = .ok (.invokevirtual 363, 3) := by decide +kernel
theorem dX12_state_41 : decode cX12_state 41 = .ok (.goto 5, 3) := by decide +kernel
theorem dX12_state_44 : decode cX12_state 44 = .ok (.bipush (-2), 2) := by decide +kernel
theorem dX12_state_46 : decode cX12_state 46 = .ok (.ireturn, 1) := by decide +kernel
def is_X12_state : Nat → List Nat := fun d => []
set_option maxRecDepth 100000 in
def b_X12_state_46 (J : Nat → List qV → List qV → qW → Prop) (Q : qR) : qK := x_iret Q
set_option maxRecDepth 100000 in
theorem s_X12_state_46 {p : Program} {l : Launch} {e : Env} {R : Room} {s : State} {m : MethodId} {args : Array Value} {below : List Frame} {meth : Method} {c : Code} {nW : Nat} {dC : Nat → ClassId} {dI : Nat → Nat → Nat} {k : Nat → ClassId} {g : Nat → Nat} {A : Nat → Prop} {J : Nat → List qV → List qV → qW → Prop} {Q : qR} (X : q_X p R s m args meth c cX12_state 5 nW 5 111 RX12 (some .int) dC dI k g A) (hJ : ∀ d : Nat, q_Sd p l e R s m args below meth c 5 nW dC dI k g A (MQ below (q_post (dC, dI) k g nW Q A) args s 0 0 A) d (x_cut (is_X12_state d) (J d))) : q_Sd p l e R s m args below meth c 5 nW dC dI k g A (MQ below (q_post (dC, dI) k g nW Q A) args s 0 0 A) 46 (b_X12_state_46 J Q) := by
  unfold b_X12_state_46
  exact s_iret X dX12_state_46
set_option maxRecDepth 100000 in
def b_X12_state_44 (J : Nat → List qV → List qV → qW → Prop) (Q : qR) : qK := x_int (-2) (b_X12_state_46 J Q)
set_option maxRecDepth 100000 in
theorem s_X12_state_44 {p : Program} {l : Launch} {e : Env} {R : Room} {s : State} {m : MethodId} {args : Array Value} {below : List Frame} {meth : Method} {c : Code} {nW : Nat} {dC : Nat → ClassId} {dI : Nat → Nat → Nat} {k : Nat → ClassId} {g : Nat → Nat} {A : Nat → Prop} {J : Nat → List qV → List qV → qW → Prop} {Q : qR} (X : q_X p R s m args meth c cX12_state 5 nW 5 111 RX12 (some .int) dC dI k g A) (hJ : ∀ d : Nat, q_Sd p l e R s m args below meth c 5 nW dC dI k g A (MQ below (q_post (dC, dI) k g nW Q A) args s 0 0 A) d (x_cut (is_X12_state d) (J d))) : q_Sd p l e R s m args below meth c 5 nW dC dI k g A (MQ below (q_post (dC, dI) k g nW Q A) args s 0 0 A) 44 (b_X12_state_44 J Q) := by
  unfold b_X12_state_44
  refine s_bipush X ⟨by decide, by decide⟩ (by decide) dX12_state_44 ?_
  exact s_X12_state_46 X hJ
set_option maxRecDepth 100000 in
def b_X12_state_0 (J : Nat → List qV → List qV → qW → Prop) (Q : qR) : qK := x_aload 0 (x_int 0 (x_put 12 0 q_oki (x_nw (x_aload 0 (x_iload 1 (x_iload 2 (x_call (some 12) 3 sp_X12_layAll (x_nw (x_if_eq (b_X12_state_44 J Q) (x_iload 3 (x_int 0 (x_aload 0 (x_callr (some 12) 1 spr_X12_deeds (x_callr none 3 spr_X12_in (x_if_eq (b_X12_state_44 J Q) (x_aload 0 (x_iload 3 (x_call (some 12) 2 sp_X12_play (x_nw (x_iload 3 (x_icmp_ne (b_X12_state_44 J Q) (x_aload 0 (x_iload 4 (x_callr (some 12) 2 spr_X12_ofState (b_X12_state_46 J Q)))))))))))))))))))))))))
set_option maxRecDepth 100000 in
theorem s_X12_state_0 {p : Program} {l : Launch} {e : Env} {R : Room} {s : State} {m : MethodId} {args : Array Value} {below : List Frame} {meth : Method} {c : Code} {nW : Nat} {dC : Nat → ClassId} {dI : Nat → Nat → Nat} {k : Nat → ClassId} {g : Nat → Nat} {A : Nat → Prop} {J : Nat → List qV → List qV → qW → Prop} {Q : qR} (X : q_X p R s m args meth c cX12_state 5 nW 5 111 RX12 (some .int) dC dI k g A) (hJ : ∀ d : Nat, q_Sd p l e R s m args below meth c 5 nW dC dI k g A (MQ below (q_post (dC, dI) k g nW Q A) args s 0 0 A) d (x_cut (is_X12_state d) (J d))) : q_Sd p l e R s m args below meth c 5 nW dC dI k g A (MQ below (q_post (dC, dI) k g nW Q A) args s 0 0 A) 0 (b_X12_state_0 J Q) := by
  unfold b_X12_state_0
  refine s_aload_n X rfl dX12_state_0 ?_
  refine s_iconst X ⟨by decide, by decide⟩ dX12_state_1 ?_
  refine s_put X (T := TX12) (C := RX12) (N := 45) tu_X12 tyX12_ok nmX12 rfl (by decide) tw_997 rfl (by decide +kernel) q_oki_t dX12_state_2 ?_
  refine s_nw ?_
  refine s_aload_n X rfl dX12_state_5 ?_
  refine s_iload_n X rfl dX12_state_6 ?_
  refine s_iload_n X rfl dX12_state_7 ?_
  refine s_callV X (m_X12_layAll l) tw_1212 tw_1213 tw_1595 tw_134 tw_1214 rfl (by decide +kernel) ⟨by decide, by decide⟩ dX12_state_8 ?_
  refine s_nw ?_
  refine s_if_eq X (tgt := 44) dX12_state_11 (by decide) ?_ ?_
  · exact s_X12_state_44 X hJ
  · refine s_iload_n X rfl dX12_state_14 ?_
    refine s_iconst X ⟨by decide, by decide⟩ dX12_state_15 ?_
    refine s_aload_n X rfl dX12_state_16 ?_
    refine s_callVr X (m_X12_deeds l) tw_1202 tw_1203 tw_1559 tw_134 tw_1204 rfl (by decide +kernel) ⟨by decide, by decide⟩ dX12_state_17 ?_
    refine s_callSr X (m_X12_in l) tw_1054 tw_1055 tw_134 tw_1056 (by decide +kernel) ⟨by decide, by decide⟩ dX12_state_20 ?_
    refine s_if_eq X (tgt := 44) dX12_state_23 (by decide) ?_ ?_
    · exact s_X12_state_44 X hJ
    · refine s_aload_n X rfl dX12_state_26 ?_
      refine s_iload_n X rfl dX12_state_27 ?_
      refine s_callV X (m_X12_play l) tw_1215 tw_1216 tw_1608 tw_134 tw_1217 rfl (by decide +kernel) ⟨by decide, by decide⟩ dX12_state_28 ?_
      refine s_nw ?_
      refine s_iload_n X rfl dX12_state_31 ?_
      refine s_icmp_ne X (tgt := 44) dX12_state_32 (by decide) ?_ ?_
      · exact s_X12_state_44 X hJ
      · refine s_aload_n X rfl dX12_state_35 ?_
        refine s_iload X dX12_state_36 ?_
        refine s_callVr X (m_X12_ofState l) tw_1249 tw_1250 tw_1604 tw_134 tw_1251 rfl (by decide +kernel) ⟨by decide, by decide⟩ dX12_state_38 ?_
        refine s_goto X (tgt := 46) dX12_state_41 (by decide) ?_
        exact s_X12_state_46 X hJ

def sp_X12_state : qS := fun av w Q => ∃ (mco : Int) (mre : Int) (mle : Int) (mbe : Int) (mso : Int) (mva : Int) (mwo : Int) (mwr : Int) (mlf : Int) (mlp : Int) (mfp : Int) (mfd : Int) (mgo : Int) (mbo : Int) (mpe : Int) (mye : Int) (mpr : Int) (mld : Int) (msi : Int) (mse : Int) (mn : Nat → Int) (bs : Nat → Int) (ys : Nat → Int) (tl : Nat → Int) (a : Int) (b : Int) (cc : Int) (dd : Int), av = [q2 0, q1 a, q1 b, q1 cc, q1 dd] ∧ w = [.inr (12, [q1 mco, q2 5, q2 6, q2 7, q2 8, q2 1, q2 2, q2 3, q2 9, q2 10, q1 mre, q1 mle, q1 mbe, q1 mso, q1 mva, q3 mwo, q1 mwr, q1 mlf, q1 mlp, q2 11, q2 12, q1 mfp, q1 mfd, q1 mgo, q1 mbo, q1 mpe, q1 mye, q2 4, q1 mpr, q2 13, q2 14, q2 15, q2 16, q1 mld, q2 17, q1 msi, q2 18, q2 19, q2 20, q2 21, q2 22, q1 mse, q2 23, q2 24, q2 25]), .inl (0, 16, .inl mn), .inl (0, 600, .inl bs), .inl (0, 1288, .inl ys), .inl (0, 8, .inl tl)] ∧ (q_rg 0 2 mn) ∧ (BI bs) ∧ (YI ys) ∧ (∀ (r : Int) (x_mco : Int) (x_mye : Int) (x_mbo : Int) (x_mpe : Int) (x_tl : Nat → Int) (x_mpr : Int), Q (some (q1 r)) ([.inr (12, [q1 x_mco, q2 5, q2 6, q2 7, q2 8, q2 1, q2 2, q2 3, q2 9, q2 10, q1 mre, q1 mle, q1 mbe, q1 mso, q1 mva, q3 mwo, q1 mwr, q1 mlf, q1 mlp, q2 11, q2 12, q1 mfp, q1 mfd, q1 mgo, q1 x_mbo, q1 x_mpe, q1 x_mye, q2 4, q1 x_mpr, q2 13, q2 14, q2 15, q2 16, q1 mld, q2 17, q1 msi, q2 18, q2 19, q2 20, q2 21, q2 22, q1 mse, q2 23, q2 24, q2 25]), .inl (0, 16, .inl mn), .inl (0, 600, .inl bs), .inl (0, 1288, .inl ys), .inl (0, 8, .inl x_tl)]))
set_option maxHeartbeats 4000000 in
set_option maxRecDepth 100000 in
theorem m_X12_state (l : Launch) : q_M l yX12_state cX12_state 5 (some .int) 5 111 sp_X12_state := by
  refine q_meth (by decide) (fun av w Q h => by obtain ⟨mco, mre, mle, mbe, mso, mva, mwo, mwr, mlf, mlp, mfp, mfd, mgo, mbo, mpe, mye, mpr, mld, msi, mse, mn, bs, ys, tl, a, b, cc, dd, rfl, rfl, hmn, hbi, hyi, hQ⟩ := h; exact Nat.le_of_ble_eq_true rfl) ?_
  intro p e R s m args below meth c dC dI k g A av w Q hsp oka okw X
  obtain ⟨mco, mre, mle, mbe, mso, mva, mwo, mwr, mlf, mlp, mfp, mfd, mgo, mbo, mpe, mye, mpr, mld, msi, mse, mn, bs, ys, tl, a, b, cc, dd, rfl, rfl, hmn, hbi, hyi, hQ⟩ := hsp
  have o_a : -2147483648 ≤ a ∧ a ≤ 2147483647 := oka _ (List.mem_of_getElem? (i := 1) rfl)
  have o_b : -2147483648 ≤ b ∧ b ≤ 2147483647 := oka _ (List.mem_of_getElem? (i := 2) rfl)
  have o_cc : -2147483648 ≤ cc ∧ cc ≤ 2147483647 := oka _ (List.mem_of_getElem? (i := 3) rfl)
  have o_dd : -2147483648 ≤ dd ∧ dd ≤ 2147483647 := oka _ (List.mem_of_getElem? (i := 4) rfl)
  refine s_mono (s_X12_state_0 X (J := fun _ _ _ _ => False) (fun d => s_cutF)) ?_
  rintro lv st w' ⟨rfl, rfl, rfl⟩
  apply And.intro
  · exact trivial
  refine Exists.intro [0, 1, 2, 5, 6, 7, 8, 3, 9, 10, 11, 12, 4, 13, 14, 15, 16, 17, 18, 19, 20, 21, 22, 23, 24, 25] (Exists.intro [q2 0, q1 _, q1 _] (Exists.intro ([.inr (12, [q1 _, q2 3, q2 4, q2 5, q2 6, q2 1, q2 2, q2 7, q2 8, q2 9, q1 _, q1 _, q1 _, q1 _, q1 _, q3 _, q1 _, q1 _, q1 _, q2 10, q2 11, q1 _, q1 _, q1 _, q1 _, q1 _, q1 _, q2 12, q1 _, q2 13, q2 14, q2 15, q2 16, q1 _, q2 17, q1 _, q2 18, q2 19, q2 20, q2 21, q2 22, q1 _, q2 23, q2 24, q2 25]), .inl (0, 16, .inl _), .inl (0, 600, .inl _)]) (And.intro rfl (And.intro rfl (And.intro rfl (And.intro ⟨⟨_, rfl⟩, rfl⟩ ?_))))))
  refine Exists.intro _ (Exists.intro _ (Exists.intro _ (Exists.intro _ (Exists.intro _ (Exists.intro _ (Exists.intro _ (Exists.intro _ (Exists.intro _ (Exists.intro _ (Exists.intro _ (Exists.intro _ (Exists.intro _ (Exists.intro _ (Exists.intro _ (Exists.intro _ (Exists.intro _ (Exists.intro _ (Exists.intro _ (Exists.intro _ (Exists.intro _ (Exists.intro _ (Exists.intro _ (Exists.intro _ (And.intro rfl (And.intro rfl (And.intro (by first | omega | assumption | exact q_rg_up (by assumption) (by omega) | exact q_rg_up (q_rg_up (by assumption) (by omega)) (by omega) | exact q_rg_cpy (by assumption) (by assumption)) (And.intro (by first | omega | assumption | exact q_rg_up (by assumption) (by omega) | exact q_rg_up (q_rg_up (by assumption) (by omega)) (by omega) | exact q_rg_cpy (by assumption) (by assumption)) (?_))))))))))))))))))))))))))))
  intro z8 x_mye_8 x_mbo_8 x_mpe_8 h8
  apply And.intro
  · intro h11
    first | replace h8 := dj1 h8 h11 | replace h8 := dj0 h8 h11
    exact hQ _ _ _ _ _ _ _
  · intro h11
    first | replace h8 := dj1 h8 h11 | replace h8 := dj0 h8 h11
    refine Exists.intro [0, 3, 5, 6, 7, 8, 1, 2, 9, 10, 11, 12, 4, 13, 14, 15, 16, 17, 18, 19, 20, 21, 22, 23, 24, 25] (Exists.intro [q2 0] (Exists.intro ([.inr (12, [q1 _, q2 2, q2 3, q2 4, q2 5, q2 6, q2 7, q2 1, q2 8, q2 9, q1 _, q1 _, q1 _, q1 _, q1 _, q3 _, q1 _, q1 _, q1 _, q2 10, q2 11, q1 _, q1 _, q1 _, q1 _, q1 _, q1 _, q2 12, q1 _, q2 13, q2 14, q2 15, q2 16, q1 _, q2 17, q1 _, q2 18, q2 19, q2 20, q2 21, q2 22, q1 _, q2 23, q2 24, q2 25]), .inl (0, 1288, .inl _)]) (And.intro rfl (And.intro rfl (And.intro rfl (And.intro ⟨⟨_, rfl⟩, rfl⟩ ?_))))))
    refine Exists.intro _ (Exists.intro _ (Exists.intro _ (Exists.intro _ (Exists.intro _ (Exists.intro _ (Exists.intro _ (Exists.intro _ (Exists.intro _ (Exists.intro _ (Exists.intro _ (Exists.intro _ (Exists.intro _ (Exists.intro _ (Exists.intro _ (Exists.intro _ (Exists.intro _ (Exists.intro _ (Exists.intro _ (Exists.intro _ (Exists.intro _ (And.intro rfl (And.intro rfl (And.intro (by first | omega | assumption | exact q_rg_up (by assumption) (by omega) | exact q_rg_up (q_rg_up (by assumption) (by omega)) (by omega) | exact q_rg_cpy (by assumption) (by assumption)) (And.intro (by first | omega | assumption | exact q_rg_up (by assumption) (by omega) | exact q_rg_up (q_rg_up (by assumption) (by omega)) (by omega) | exact q_rg_cpy (by assumption) (by assumption)) (?_)))))))))))))))))))))))))
    intro z17 h17
    refine Exists.intro [] (Exists.intro [q1 _, q1 _, q1 _] (Exists.intro [] (And.intro rfl (And.intro rfl (And.intro rfl (And.intro trivial ?_))))))
    refine Exists.intro _ (Exists.intro _ (Exists.intro _ (And.intro rfl (And.intro rfl (?_)))))
    intro z20 h20
    apply And.intro
    · intro h23
      first | replace h20 := dj1 h20 h23 | replace h20 := dj0 h20 h23
      exact hQ _ _ _ _ _ _ _
    · intro h23
      first | replace h20 := dj1 h20 h23 | replace h20 := dj0 h20 h23
      refine Exists.intro [0, 4, 2, 3, 5, 6, 7, 8, 1, 9, 10, 11, 12, 13, 14, 15, 16, 17, 18, 19, 20, 21, 22, 23, 24, 25] (Exists.intro [q2 0, q1 _] (Exists.intro ([.inr (12, [q1 _, q2 4, q2 5, q2 6, q2 7, q2 8, q2 2, q2 3, q2 9, q2 10, q1 _, q1 _, q1 _, q1 _, q1 _, q3 _, q1 _, q1 _, q1 _, q2 11, q2 12, q1 _, q1 _, q1 _, q1 _, q1 _, q1 _, q2 1, q1 _, q2 13, q2 14, q2 15, q2 16, q1 _, q2 17, q1 _, q2 18, q2 19, q2 20, q2 21, q2 22, q1 _, q2 23, q2 24, q2 25]), .inl (0, 8, .inl _), .inl (0, 600, .inl _), .inl (0, 1288, .inl _)]) (And.intro rfl (And.intro rfl (And.intro rfl (And.intro ⟨⟨_, rfl⟩, rfl⟩ ?_))))))
      refine Exists.intro _ (Exists.intro _ (Exists.intro _ (Exists.intro _ (Exists.intro _ (Exists.intro _ (Exists.intro _ (Exists.intro _ (Exists.intro _ (Exists.intro _ (Exists.intro _ (Exists.intro _ (Exists.intro _ (Exists.intro _ (Exists.intro _ (Exists.intro _ (Exists.intro _ (Exists.intro _ (Exists.intro _ (Exists.intro _ (Exists.intro _ (Exists.intro _ (Exists.intro _ (Exists.intro _ (And.intro rfl (And.intro rfl (And.intro (by first | omega | assumption | exact q_rg_up (by assumption) (by omega) | exact q_rg_up (q_rg_up (by assumption) (by omega)) (by omega) | exact q_rg_cpy (by assumption) (by assumption)) (And.intro (by first | omega | assumption | exact q_rg_up (by assumption) (by omega) | exact q_rg_up (q_rg_up (by assumption) (by omega)) (by omega) | exact q_rg_cpy (by assumption) (by assumption)) (And.intro (by first | omega | assumption | exact q_rg_up (by assumption) (by omega) | exact q_rg_up (q_rg_up (by assumption) (by omega)) (by omega) | exact q_rg_cpy (by assumption) (by assumption)) (And.intro (by first | omega | assumption | exact q_rg_up (by assumption) (by omega) | exact q_rg_up (q_rg_up (by assumption) (by omega)) (by omega) | exact q_rg_cpy (by assumption) (by assumption)) (And.intro (by first | omega | assumption | exact q_rg_up (by assumption) (by omega) | exact q_rg_up (q_rg_up (by assumption) (by omega)) (by omega) | exact q_rg_cpy (by assumption) (by assumption)) (And.intro (by first | omega | assumption | exact q_rg_up (by assumption) (by omega) | exact q_rg_up (q_rg_up (by assumption) (by omega)) (by omega) | exact q_rg_cpy (by assumption) (by assumption)) (?_))))))))))))))))))))))))))))))))
      intro z28 x_tl_28 x_mpr_28 h28
      apply And.intro
      · intro h32
        exact hQ _ _ _ _ _ _ _
      · intro h32
        refine Exists.intro [0, 4, 2, 5, 6, 7, 8, 1, 3, 9, 10, 11, 12, 13, 14, 15, 16, 17, 18, 19, 20, 21, 22, 23, 24, 25] (Exists.intro [q2 0, q1 _] (Exists.intro ([.inr (12, [q1 _, q2 3, q2 4, q2 5, q2 6, q2 7, q2 2, q2 8, q2 9, q2 10, q1 _, q1 _, q1 _, q1 _, q1 _, q3 _, q1 _, q1 _, q1 _, q2 11, q2 12, q1 _, q1 _, q1 _, q1 _, q1 _, q1 _, q2 1, q1 _, q2 13, q2 14, q2 15, q2 16, q1 _, q2 17, q1 _, q2 18, q2 19, q2 20, q2 21, q2 22, q1 _, q2 23, q2 24, q2 25]), .inl (0, 8, .inl _), .inl (0, 600, .inl _)]) (And.intro rfl (And.intro rfl (And.intro rfl (And.intro ⟨⟨_, rfl⟩, rfl⟩ ?_))))))
        refine Exists.intro _ (Exists.intro _ (Exists.intro _ (Exists.intro _ (Exists.intro _ (Exists.intro _ (Exists.intro _ (Exists.intro _ (Exists.intro _ (Exists.intro _ (Exists.intro _ (Exists.intro _ (Exists.intro _ (Exists.intro _ (Exists.intro _ (Exists.intro _ (Exists.intro _ (Exists.intro _ (Exists.intro _ (Exists.intro _ (Exists.intro _ (Exists.intro _ (Exists.intro _ (And.intro rfl (And.intro rfl (And.intro (by first | omega | assumption | exact q_rg_up (by assumption) (by omega) | exact q_rg_up (q_rg_up (by assumption) (by omega)) (by omega) | exact q_rg_cpy (by assumption) (by assumption)) (And.intro (by first | omega | assumption | exact q_rg_up (by assumption) (by omega) | exact q_rg_up (q_rg_up (by assumption) (by omega)) (by omega) | exact q_rg_cpy (by assumption) (by assumption)) (And.intro (by first | omega | assumption | exact q_rg_up (by assumption) (by omega) | exact q_rg_up (q_rg_up (by assumption) (by omega)) (by omega) | exact q_rg_cpy (by assumption) (by assumption)) (?_))))))))))))))))))))))))))))
        intro z38
        exact hQ _ _ _ _ _ _ _
