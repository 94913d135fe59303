/-! ===== a line of the class ===== -/
def SlS (t : Nat → Int) (n w p f1 p1 j nx fa pl : Int) (rv : Nat → Int) : Prop := nx = lps t n w p j.toNat ∧ fa = lfa t n w p f1 j.toNat ∧ pl = lpl t n w p f1 p1 j.toNat ∧ lok t n w p j.toNat ∧ ∀ i : Nat, (i : Int) < j → rv i = lvs t n w p i
theorem SlS_0 {t : Nat → Int} {n w p f1 p1 nx fa pl : Int} {rv : Nat → Int} (hn : nx = tE t n p) (hf : fa = f1) (hp : pl = p1) : SlS t n w p f1 p1 0 nx fa pl rv := ⟨hn, hf, hp, trivial, fun i hi => by omega⟩
theorem SlS_z {t : Nat → Int} {n w p f1 p1 j nx fa pl j' : Int} {rv : Nat → Int} (h : SlS t n w p f1 p1 j nx fa pl rv) (hj : 0 ≤ j ∧ j < 3) (hty : slT w j = 0) (e : j' = j + 1) : SlS t n w p f1 p1 j' nx fa pl (q_up rv j.toNat (-1)) := by
  obtain ⟨a1, a2, a3, a4, a5⟩ := h
  have hc : ((j.toNat : Nat) : Int) = j := by omega
  obtain ⟨zq_1, zq_2, zq_3, zq_4, zq_5⟩ := sl_0 (t := t) (n := n) (w := w) (p := p) (fa := f1) (pl := p1) (j := j.toNat) (by rw [hc]; exact hty)
  have e9 : j'.toNat = j.toNat + 1 := by omega
  refine ⟨by rw [e9, zq_1]; exact a1, by rw [e9, zq_2]; exact a2, by rw [e9, zq_3]; exact a3, by rw [e9]; exact zq_5 a4, fun i hi => ?_⟩
  by_cases c : i = j.toNat
  · rw [c, q_up_s, zq_4]
  · rw [q_up_n c]; exact a5 i (by omega)
theorem SlS_s {t : Nat → Int} {n w p f1 p1 j nx fa pl j' r st nx' fa' pl' : Int} {rv rv' : Nat → Int} (h : SlS t n w p f1 p1 j nx fa pl rv) (hj : 0 ≤ j ∧ j < 3) (hty : ¬ slT w j = 0) (hr : SlR t n nx w j fa pl (q_up rv j.toNat (-1)) r st nx' fa' pl' rv') (hr0 : ¬ r = 0) (e : j' = j + 1) : SlS t n w p f1 p1 j' nx' fa' pl' rv' := by
  obtain ⟨a1, a2, a3, a4, a5⟩ := h
  have hc : ((j.toNat : Nat) : Int) = j := by omega
  have e9 : j'.toNat = j.toNat + 1 := by omega
  obtain ⟨r1, r2, r3⟩ := hr
  rcases r3 with ⟨-, s1, s2, s3, s4⟩ | ⟨s1, -⟩
  · have hb : slB t n w j ((q_up rv j.toNat (-1)) 0) nx ↔ slB t n w j (lvs t n w p 0) nx := by
      by_cases c : j = 1
      · have e8 : (q_up rv j.toNat (-1)) 0 = lvs t n w p 0 := by rw [q_up_n (by omega)]; exact a5 0 (by omega)
        rw [e8]
      · exact slB_c c
    rw [ntF_i hb] at s3
    rw [ntP_i hb] at s4
    refine ⟨?_, ?_, ?_, ?_, fun i hi => ?_⟩
    · rw [e9, lps_1 (by rw [hc]; exact hty), ← a1]; exact r2
    · rw [e9]
      show fa' = ntF (slB t n w (j.toNat : Nat) (lvs t n w p 0) (lps t n w p j.toNat)) 2 (lfa t n w p f1 j.toNat)
      rw [hc, ← a1, ← a2]; exact s3
    · rw [e9]
      show pl' = ntP (slB t n w (j.toNat : Nat) (lvs t n w p 0) (lps t n w p j.toNat)) (tB t n (lps t n w p j.toNat)) (lfa t n w p f1 j.toNat) (lpl t n w p f1 p1 j.toNat)
      rw [hc, ← a1, ← a2, ← a3]; exact s4
    · rw [e9]; exact ⟨a4, by rw [hc, ← a1]; exact s1⟩
    · rw [s2]
      by_cases c : i = j.toNat
      · rw [c, q_up_s]; unfold lvs; rw [hc, ← a1]
      · rw [q_up_n c, q_up_n c]; exact a5 i (by omega)
  · exact absurd s1 hr0
theorem SlS_f {t : Nat → Int} {n w p f1 p1 j nx fa pl r st nx' fa' pl' : Int} {rv rv0 rv' : Nat → Int} (h : SlS t n w p f1 p1 j nx fa pl rv) (hj : 0 ≤ j ∧ j < 3) (hw : ¬ w = -1) (hr : SlR t n nx w j fa pl rv0 r st nx' fa' pl' rv') (hr0 : r = 0) : ¬ lnOk t n w p ∧ st = lnB t n w p := by
  obtain ⟨a1, a2, a3, a4, a5⟩ := h
  have hc : ((j.toNat : Nat) : Int) = j := by omega
  obtain ⟨r1, r2, r3⟩ := hr
  rcases r3 with ⟨s1, -⟩ | ⟨-, s1⟩
  · omega
  · have s2 : ¬ slOk t n w (j.toNat : Nat) (lps t n w p j.toNat) := by rw [hc, ← a1]; exact s1
    refine ⟨fun hq_9 => lok_n (by omega) s2 hq_9.2.1, ?_⟩
    rw [lnB_j hw (by omega) a4 s2, ← a1]; exact r1
theorem SlS_e {t : Nat → Int} {n w p f1 p1 j nx fa pl st nx' tk nm : Int} {rv : Nat → Int} (h : SlS t n w p f1 p1 j nx fa pl rv) (hj : j = 3) (hw : ¬ w = -1) (hA : AdvR t n nx st nx' tk nm) (hk : tk = 3) : lnOk t n w p ∧ nx' = lnP t n w p ∧ fa = lfa t n w p f1 3 ∧ pl = lpl t n w p f1 p1 3 ∧ lok t n w p 3 ∧ rv 0 = lvs t n w p 0 ∧ rv 1 = lvs t n w p 1 ∧ rv 2 = lvs t n w p 2 := by
  subst hj
  obtain ⟨a1, a2, a3, a4, a5⟩ := h
  obtain ⟨hq_1, hq_2, hq_3, hq_4⟩ := hA
  have a1 : nx = lps t n w p 3 := a1
  have a4 : lok t n w p 3 := a4
  subst a1
  exact ⟨⟨hw, a4, by rw [← hq_3]; exact hk⟩, hq_2, a2, a3, a4, a5 0 (by decide), a5 1 (by decide), a5 2 (by decide)⟩
theorem SlS_g {t : Nat → Int} {n w p f1 p1 j nx fa pl st nx' tk nm : Int} {rv : Nat → Int} (h : SlS t n w p f1 p1 j nx fa pl rv) (hj : j = 3) (hw : ¬ w = -1) (hA : AdvR t n nx st nx' tk nm) (hk : ¬ tk = 3) : ¬ lnOk t n w p ∧ st = lnB t n w p := by
  subst hj
  obtain ⟨a1, a2, a3, a4, a5⟩ := h
  obtain ⟨hq_1, hq_2, hq_3, hq_4⟩ := hA
  have a1 : nx = lps t n w p 3 := a1
  have a4 : lok t n w p 3 := a4
  subst a1
  exact ⟨fun hq_9 => hk (by rw [hq_3]; exact hq_9.2.2), by rw [lnB_3 hw a4]; exact hq_1⟩
theorem bo_r {t : Nat → Int} {b e k : Int} : -1 ≤ boP t b e k ∧ boP t b e k ≤ 8 := by
  unfold boP pif
  (repeat' split) <;> decide
theorem ye_r {t : Nat → Int} {b e k : Int} : yeP t b e k = -1 ∨ (9 ≤ yeP t b e k ∧ yeP t b e k ≤ 13) := by
  unfold yeP pif
  (repeat' split) <;> decide
theorem le_r {t : Nat → Int} {b e k : Int} : leP t b e k = -1 ∨ (14 ≤ leP t b e k ∧ leP t b e k ≤ 15) := by
  unfold leP pif
  (repeat' split) <;> decide
theorem si_r {t : Nat → Int} {b e k : Int} : siP t b e k = -1 ∨ siP t b e k = 16 := by
  unfold siP pif
  (repeat' split) <;> decide
theorem ws_li {t : Nat → Int} {n p s w : Int} (hs : 0 ≤ s ∧ s ≤ 3) (e : w = liW t n p s) (h : ¬ w = -1) : wsR s w := by
  unfold liW liP at e
  unfold wsR
  rcases (show s = 0 ∨ s = 1 ∨ s = 2 ∨ s = 3 by omega) with rfl | rfl | rfl | rfl
  · rw [if_pos rfl] at e
    have := bo_r (t := t) (b := tB t n p) (e := tE t n p) (k := tK t n p)
    omega
  · rw [if_neg (by decide), if_pos rfl] at e
    have := ye_r (t := t) (b := tB t n p) (e := tE t n p) (k := tK t n p)
    omega
  · rw [if_neg (by decide), if_neg (by decide), if_pos rfl] at e
    have := le_r (t := t) (b := tB t n p) (e := tE t n p) (k := tK t n p)
    omega
  · rw [if_neg (by decide), if_neg (by decide), if_neg (by decide), if_pos rfl] at e
    have := si_r (t := t) (b := tB t n p) (e := tE t n p) (k := tK t n p)
    omega
theorem ws_16 {s w : Int} (h : wsR s w) : 0 ≤ w ∧ w ≤ 16 := by unfold wsR at h; omega
theorem Adv_li {t : Nat → Int} {n p st nx tk nm s : Int} (h : AdvR t n p st nx tk nm) : liP t st nx tk s = liW t n p s := by
  obtain ⟨hq_1, hq_2, hq_3, -⟩ := h
  unfold liW
  rw [← hq_1, ← hq_2, ← hq_3]
def CsI (fa s : Int) (D : Nat → Int) (fp fd : Int) (f1 f2 f3 f4 f5 f6 f7 : Nat → Int) (u0 u1 u2 u3 u4 np nd : Int) (k1 k2 k3 k4 : Nat → Int) (d : Int) (g : Nat → Int) (o : Int) (p q : Nat → Int) (c : Int) : Prop := fa = 0 → Cs s D fp fd f1 f2 f3 f4 f5 f6 f7 u0 u1 u2 u3 u4 np nd k1 k2 k3 k4 d g o p q c
def LnR (t : Nat → Int) (n s : Int) (S : qS6) (r st nx fa pl : Int) (C : Prop) : Prop := (r = 1 ∧ lnOk t n (sW t n s S) S.1 ∧ nx = lnP t n (sW t n s S) S.1 ∧ fa = fS t n s S ∧ pl = pS t n s S ∧ C) ∨ (r = 0 ∧ ¬ lnOk t n (sW t n s S) S.1 ∧ st = lnB t n (sW t n s S) S.1)
theorem LnR_0 {t : Nat → Int} {n s p fa pl fp fd w st nx fa' pl' : Int} {D : Nat → Int} {C : Prop} (e : w = liW t n p s) (h : ¬ lnOk t n w p ∧ st = lnB t n w p) : LnR t n s (p, fa, pl, D, fp, fd) 0 st nx fa' pl' C := by
  subst e
  exact Or.inr ⟨rfl, h.1, h.2⟩
theorem LnR_n {t : Nat → Int} {n s p fa pl fp fd w st nx fa' pl' : Int} {D : Nat → Int} {C : Prop} (e : w = liW t n p s) (h : w = -1) (hs : st = tB t n p) : LnR t n s (p, fa, pl, D, fp, fd) 0 st nx fa' pl' C := LnR_0 e ⟨fun hq_9 => hq_9.1 h, by rw [lnB_0 h]; exact hs⟩
theorem LnR_1 {t : Nat → Int} {n s p fa pl fp fd w st nx fa' pl' : Int} {D : Nat → Int} {C : Prop} (e : w = liW t n p s) (hq_1 : lnOk t n w p) (hq_2 : nx = lnP t n w p) (hq_3 : fa' = lfa t n w p (ntF (fulP w D) 3 fa) 3) (hq_4 : pl' = lpl t n w p (ntF (fulP w D) 3 fa) (ntP (fulP w D) (tB t n p) fa pl) 3) (hC : C) : LnR t n s (p, fa, pl, D, fp, fd) 1 st nx fa' pl' C := by
  subst e
  exact Or.inl ⟨rfl, hq_1, hq_2, hq_3, hq_4, hC⟩
theorem VR_e {w v0 v1 v0' v1' : Int} (h : VR w v0 v1) (e0 : v0' = v0) (e1 : v1' = v1) : VR w v0' v1' := by rw [e0, e1]; exact h

theorem T9_e {t : Nat → Int} {n s p fa pl fp fd w v0 v1 v2 : Int} {D f1 f2 f3 f4 f5 f6 f7 k1 k2 k3 k4 g P q : Nat → Int} {u0 u1 u2 u3 u4 np nd d o c : Int} (e : w = liW t n p s) (e0 : v0 = lvs t n w p 0) (e1 : v1 = lvs t n w p 1) (e2 : v2 = lvs t n w p 2) (h : Cs s (tel w v0 v1 v2 D) (fpN w v0 v1 fp) (fdN w v1 fd) f1 f2 f3 f4 f5 f6 f7 u0 u1 u2 u3 u4 np nd k1 k2 k3 k4 d g o P q c) : Cs s (dS t n s (p, fa, pl, D, fp, fd)) (gS t n s (p, fa, pl, D, fp, fd)) (hS t n s (p, fa, pl, D, fp, fd)) f1 f2 f3 f4 f5 f6 f7 u0 u1 u2 u3 u4 np nd k1 k2 k3 k4 d g o P q c := by
  subst e
  subst e0
  subst e1
  subst e2
  exact h

theorem dF6_readLine_0 : decode cX6_readLine 0 = .ok (.aload_n 0, 1) := by decide +kernel
theorem dF6_readLine_1 : decode cX6_readLine 1 = .ok (.iload_n 1, 1) := by decide +kernel
theorem dF6_readLine_2 : decode cX6_readLine 2 = .ok (.invokevirtual 194, 3) := by decide +kernel
theorem dF6_readLine_5 : decode cX6_readLine 5 = .ok (.istore_n 2, 1) := by decide +kernel
theorem dF6_readLine_6 : decode cX6_readLine 6 = .ok (.iload_n 2, 1) := by decide +kernel
theorem dF6_readLine_7 : decode cX6_readLine 7 = .ok (.iconst (-1), 1) := by decide +kernel
theorem dF6_readLine_8 : decode cX6_readLine 8 = .ok (.if_icmp .ne 5, 3) := by decide +kernel
theorem dF6_readLine_11 : decode cX6_readLine 11 = .ok (.iconst 0, 1) := by decide +kernel
theorem dF6_readLine_12 : decode cX6_readLine 12 = .ok (.ireturn, 1) := by decide +kernel
theorem dF6_readLine_13 : decode cX6_readLine 13 = .ok (.aload_n 0, 1) := by decide +kernel
theorem dF6_readLine_14 : decode cX6_readLine 14 = .ok (.iload_n 2, 1) := by decide +kernel
theorem dF6_readLine_15 : decode cX6_readLine 15 = .ok (.invokevirtual 197, 3) := by decide +kernel
theorem dF6_readLine_18 : decode cX6_readLine 18 = .ok (.ifCond .eq 12, 3) := by decide +kernel
theorem dF6_readLine_21 : decode cX6_readLine 21 = .ok (.aload_n 0, 1) := by decide +kernel
theorem dF6_readLine_22 : decode cX6_readLine 22 = .ok (.iconst 3, 1) := by decide +kernel
theorem dF6_readLine_23 : decode cX6_readLine 23 = .ok (.aload_n 0, 1) := by decide +kernel
theorem dF6_readLine_24 : decode cX6_readLine 24 = .ok (.getfield 72, 3) := by decide +kernel
theorem dF6_readLine_27 : decode cX6_readLine 27 = .ok (.invokevirtual 106, 3) := by decide +kernel
theorem dF6_readLine_30 : decode cX6_readLine 30 = .ok (.iconst 0, 1) := by decide +kernel
theorem dF6_readLine_31 : decode cX6_readLine 31 = .ok (.istore_n 3, 1) := by decide +kernel
theorem dF6_readLine_32 : decode cX6_readLine 32 = .ok (.iload_n 3, 1) := by decide +kernel
theorem dF6_readLine_33 : decode cX6_readLine 33 = .ok (.iconst 3, 1) := by decide +kernel
theorem dF6_readLine_34 : decode cX6_readLine 34 = .ok (.if_icmp .ge 39, 3) := by decide +kernel
theorem dF6_readLine_37 : decode cX6_readLine 37 = .ok (.aload_n 0, 1) := by decide +kernel
theorem dF6_readLine_38 : decode cX6_readLine 38 = .ok (.getfield 39, 3) := by decide +kernel
theorem dF6_readLine_41 : decode cX6_readLine 41 = .ok (.iload_n 3, 1) := by decide +kernel
theorem dF6_readLine_42 : decode cX6_readLine 42 = .ok (.iconst (-1), 1) := by decide +kernel
theorem dF6_readLine_43 : decode cX6_readLine 43 = .ok (.iastore, 1) := by decide +kernel
theorem dF6_readLine_44 : decode cX6_readLine 44 = .ok (.getstatic 200, 3) := by decide +kernel
theorem dF6_readLine_47 : decode cX6_readLine 47 = .ok (.iconst 3, 1) := by decide +kernel
theorem dF6_readLine_48 : decode cX6_readLine 48 = .ok (.iload_n 2, 1) := by decide +kernel
theorem dF6_readLine_49 : decode cX6_readLine 49 = .ok (.imul, 1) := by decide +kernel
theorem dF6_readLine_50 : decode cX6_readLine 50 = .ok (.iload_n 3, 1) := by decide +kernel
theorem dF6_readLine_51 : decode cX6_readLine 51 = .ok (.iadd, 1) := by decide +kernel
theorem dF6_readLine_52 : decode cX6_readLine 52 = .ok (.iaload, 1) := by decide +kernel
theorem dF6_readLine_53 : decode cX6_readLine 53 = .ok (.ifCond .eq 14, 3) := by decide +kernel
theorem dF6_readLine_56 : decode cX6_readLine 56 = .ok (.aload_n 0, 1) := by decide +kernel
theorem dF6_readLine_57 : decode cX6_readLine 57 = .ok (.iload_n 2, 1) := by decide +kernel
theorem dF6_readLine_58 : decode cX6_readLine 58 = .ok (.iload_n 3, 1) := by decide +kernel
theorem dF6_readLine_59 : decode cX6_readLine 59 = .ok (.invokevirtual 203, 3) := by decide +kernel
theorem dF6_readLine_62 : decode cX6_readLine 62 = .ok (.ifCond .ne 5, 3) := by decide +kernel
theorem dF6_readLine_65 : decode cX6_readLine 65 = .ok (.iconst 0, 1) := by decide +kernel
theorem dF6_readLine_66 : decode cX6_readLine 66 = .ok (.ireturn, 1) := by decide +kernel
theorem dF6_readLine_67 : decode cX6_readLine 67 = .ok (.iinc 3 1, 3) := by decide +kernel
theorem dF6_readLine_70 : decode cX6_readLine 70 = .ok (.goto (-38), 3) := by decide +kernel
theorem dF6_readLine_73 : decode cX6_readLine 73 = .ok (.aload_n 0, 1) := by decide +kernel
theorem dF6_readLine_74 : decode cX6_readLine 74 = .ok (.invokevirtual 55, 3) := by decide +kernel
theorem dF6_readLine_77 : decode cX6_readLine 77 = .ok (.aload_n 0, 1) := by decide +kernel
theorem dF6_readLine_78 : decode cX6_readLine 78 = .ok (.getfield 58, 3) := by decide +kernel
theorem dF6_readLine_81 : decode cX6_readLine 81 = .ok (.iconst 3, 1) := by decide +kernel
theorem dF6_readLine_82 : decode cX6_readLine 82 = .ok (.if_icmp .eq 5, 3) := by decide +kernel
theorem dF6_readLine_85 : decode cX6_readLine 85 = .ok (.iconst 0, 1) := by decide +kernel
theorem dF6_readLine_86 : decode cX6_readLine 86 = .ok (.ireturn, 1) := by decide +kernel
theorem dF6_readLine_87 : decode cX6_readLine 87 = .ok (.aload_n 0, 1) := by decide +kernel
theorem dF6_readLine_88 : decode cX6_readLine 88 = .ok (.getfield 69, 3) := by decide +kernel
theorem dF6_readLine_91 : decode cX6_readLine 91 = .ok (.ifCond .ne 8, 3) := by decide +kernel
theorem dF6_readLine_94 : decode cX6_readLine 94 = .ok (.aload_n 0, 1) := by decide +kernel
theorem dF6_readLine_95 : decode cX6_readLine 95 = .ok (.iload_n 2, 1) := by decide +kernel
theorem dF6_readLine_96 : decode cX6_readLine 96 = .ok (.invokevirtual 207, 3) := by decide +kernel
theorem dF6_readLine_99 : decode cX6_readLine 99 = .ok (.iconst 1, 1) := by decide +kernel
theorem dF6_readLine_100 : decode cX6_readLine 100 = .ok (.ireturn, 1) := by decide +kernel
def is_F6_readLine : Nat → List Nat := fun d => if d = 32 then [0, 2, 3] else []
set_option maxRecDepth 100000 in
def b_F6_readLine_99 (J : Nat → List qV → List qV → qW → Prop) (Q : qR) : qK := x_int 1 (x_zret Q)
set_option maxRecDepth 100000 in
theorem s_F6_readLine_99 {p : Program} {l : Launch} {e : Env} {R : Room} {s : State} {m : MethodId} {args : Array Value} {below : List Frame} {meth : Method} {c : Code} {nW : Nat} {dC : Nat → ClassId} {dI : Nat → Nat → Nat} {k : Nat → ClassId} {g : Nat → Nat} {A : Nat → Prop} {J : Nat → List qV → List qV → qW → Prop} {Q : qR} (X : q_X p R s m args meth c cX6_readLine 4 nW 7 151 RX6 (some .boolean) dC dI k g A) (hJ : ∀ d : Nat, q_Sd p l e R s m args below meth c 4 nW dC dI k g A (MQ below (q_post (dC, dI) k g nW Q A) args s 0 0 A) d (x_cut (is_F6_readLine d) (J d))) : q_Sd p l e R s m args below meth c 4 nW dC dI k g A (MQ below (q_post (dC, dI) k g nW Q A) args s 0 0 A) 99 (b_F6_readLine_99 J Q) := by
  unfold b_F6_readLine_99
  refine s_iconst X ⟨by decide, by decide⟩ dF6_readLine_99 ?_
  exact s_zret X dF6_readLine_100
set_option maxRecDepth 100000 in
def b_F6_readLine_67 (J : Nat → List qV → List qV → qW → Prop) (Q : qR) : qK := x_iinc 3 1 (x_cut [0, 2, 3] (J 32))
set_option maxRecDepth 100000 in
theorem s_F6_readLine_67 {p : Program} {l : Launch} {e : Env} {R : Room} {s : State} {m : MethodId} {args : Array Value} {below : List Frame} {meth : Method} {c : Code} {nW : Nat} {dC : Nat → ClassId} {dI : Nat → Nat → Nat} {k : Nat → ClassId} {g : Nat → Nat} {A : Nat → Prop} {J : Nat → List qV → List qV → qW → Prop} {Q : qR} (X : q_X p R s m args meth c cX6_readLine 4 nW 7 151 RX6 (some .boolean) dC dI k g A) (hJ : ∀ d : Nat, q_Sd p l e R s m args below meth c 4 nW dC dI k g A (MQ below (q_post (dC, dI) k g nW Q A) args s 0 0 A) d (x_cut (is_F6_readLine d) (J d))) : q_Sd p l e R s m args below meth c 4 nW dC dI k g A (MQ below (q_post (dC, dI) k g nW Q A) args s 0 0 A) 67 (b_F6_readLine_67 J Q) := by
  unfold b_F6_readLine_67
  refine s_iinc X (by decide) dF6_readLine_67 ?_
  refine s_goto X (tgt := 32) dF6_readLine_70 (by decide) ?_
  exact hJ 32
set_option maxRecDepth 100000 in
def b_F6_readLine_32 (J : Nat → List qV → List qV → qW → Prop) (Q : qR) : qK := x_iload 3 (x_int 3 (x_icmp_ge (x_aload 0 (x_call (some 6) 1 sp_F6_advance (x_nw (x_aload 0 (x_get 6 11 (x_int 3 (x_icmp_eq (x_aload 0 (x_get 6 7 (x_if_ne (b_F6_readLine_99 J Q) (x_aload 0 (x_iload 2 (x_calln (some 6) 2 sp_F6_tell (b_F6_readLine_99 J Q))))))) (x_int 0 (x_zret Q))))))))) (x_aload 0 (x_get 6 4 (x_iload 3 (x_int (-1) (x_iast (x_nw (x_stat 1 (x_int 3 (x_iload 2 (x_imul (x_iload 3 (x_iadd (x_sald 1 qs_1 (x_if_eq (b_F6_readLine_67 J Q) (x_aload 0 (x_iload 2 (x_iload 3 (x_call (some 6) 3 sp_F6_readSlot (x_nw (x_if_ne (b_F6_readLine_67 J Q) (x_int 0 (x_zret Q))))))))))))))))))))))))
set_option maxRecDepth 100000 in
theorem s_F6_readLine_32 {p : Program} {l : Launch} {e : Env} {R : Room} {s : State} {m : MethodId} {args : Array Value} {below : List Frame} {meth : Method} {c : Code} {nW : Nat} {dC : Nat → ClassId} {dI : Nat → Nat → Nat} {k : Nat → ClassId} {g : Nat → Nat} {A : Nat → Prop} {J : Nat → List qV → List qV → qW → Prop} {Q : qR} (X : q_X p R s m args meth c cX6_readLine 4 nW 7 151 RX6 (some .boolean) dC dI k g A) (hJ : ∀ d : Nat, q_Sd p l e R s m args below meth c 4 nW dC dI k g A (MQ below (q_post (dC, dI) k g nW Q A) args s 0 0 A) d (x_cut (is_F6_readLine d) (J d))) : q_Sd p l e R s m args below meth c 4 nW dC dI k g A (MQ below (q_post (dC, dI) k g nW Q A) args s 0 0 A) 32 (b_F6_readLine_32 J Q) := by
  unfold b_F6_readLine_32
  refine s_iload_n X rfl dF6_readLine_32 ?_
  refine s_iconst X ⟨by decide, by decide⟩ dF6_readLine_33 ?_
  refine s_icmp_ge X (tgt := 73) dF6_readLine_34 (by decide) ?_ ?_
  · refine s_aload_n X rfl dF6_readLine_73 ?_
    refine s_callV X (m_F6_advance l) tw_373 tw_374 tw_1507 tw_128 tw_375 rfl (by decide +kernel) ⟨by decide, by decide⟩ dF6_readLine_74 ?_
    refine s_nw ?_
    refine s_aload_n X rfl dF6_readLine_77 ?_
    refine s_get X (T := TX6) (C := RX6) (N := 15) tu_X6 rfl (by decide) tw_284 dF6_readLine_78 ?_
    refine s_iconst X ⟨by decide, by decide⟩ dF6_readLine_81 ?_
    refine s_icmp_eq X (tgt := 87) dF6_readLine_82 (by decide) ?_ ?_
    · refine s_aload_n X rfl dF6_readLine_87 ?_
      refine s_get X (T := TX6) (C := RX6) (N := 15) tu_X6 rfl (by decide) tw_278 dF6_readLine_88 ?_
      refine s_if_ne X (tgt := 99) dF6_readLine_91 (by decide) ?_ ?_
      · exact s_F6_readLine_99 X hJ
      · refine s_aload_n X rfl dF6_readLine_94 ?_
        refine s_iload_n X rfl dF6_readLine_95 ?_
        refine s_callVn X (m_F6_tell l) tw_469 tw_470 tw_1520 tw_128 tw_471 rfl (by decide +kernel) ⟨by decide, by decide⟩ dF6_readLine_96 ?_
        exact s_F6_readLine_99 X hJ
    · refine s_iconst X ⟨by decide, by decide⟩ dF6_readLine_85 ?_
      exact s_zret X dF6_readLine_86
  · refine s_aload_n X rfl dF6_readLine_37 ?_
    refine s_get X (T := TX6) (C := RX6) (N := 15) tu_X6 rfl (by decide) tw_275 dF6_readLine_38 ?_
    refine s_iload_n X rfl dF6_readLine_41 ?_
    refine s_iconst X ⟨by decide, by decide⟩ dF6_readLine_42 ?_
    refine s_iast X dF6_readLine_43 ?_
    refine s_nw ?_
    refine s_stat X (nm := _) (xs := qs_1) rfl (List.mem_of_getElem? (i := 0) rfl) dF6_readLine_44 ?_
    refine s_iconst X ⟨by decide, by decide⟩ dF6_readLine_47 ?_
    refine s_iload_n X rfl dF6_readLine_48 ?_
    refine s_imul X dF6_readLine_49 ?_
    refine s_iload_n X rfl dF6_readLine_50 ?_
    refine s_iadd X dF6_readLine_51 ?_
    refine s_sald X (nm := _) rfl qs_1_ok dF6_readLine_52 ?_
    refine s_if_eq X (tgt := 67) dF6_readLine_53 (by decide) ?_ ?_
    · exact s_F6_readLine_67 X hJ
    · refine s_aload_n X rfl dF6_readLine_56 ?_
      refine s_iload_n X rfl dF6_readLine_57 ?_
      refine s_iload_n X rfl dF6_readLine_58 ?_
      refine s_callV X (m_F6_readSlot l) tw_463 tw_464 tw_1518 tw_128 tw_465 rfl (by decide +kernel) ⟨by decide, by decide⟩ dF6_readLine_59 ?_
      refine s_nw ?_
      refine s_if_ne X (tgt := 67) dF6_readLine_62 (by decide) ?_ ?_
      · exact s_F6_readLine_67 X hJ
      · refine s_iconst X ⟨by decide, by decide⟩ dF6_readLine_65 ?_
        exact s_zret X dF6_readLine_66
set_option maxRecDepth 100000 in
def b_F6_readLine_30 (J : Nat → List qV → List qV → qW → Prop) (Q : qR) : qK := x_int 0 (x_istore 3 (x_cut [0, 2, 3] (J 32)))
set_option maxRecDepth 100000 in
theorem s_F6_readLine_30 {p : Program} {l : Launch} {e : Env} {R : Room} {s : State} {m : MethodId} {args : Array Value} {below : List Frame} {meth : Method} {c : Code} {nW : Nat} {dC : Nat → ClassId} {dI : Nat → Nat → Nat} {k : Nat → ClassId} {g : Nat → Nat} {A : Nat → Prop} {J : Nat → List qV → List qV → qW → Prop} {Q : qR} (X : q_X p R s m args meth c cX6_readLine 4 nW 7 151 RX6 (some .boolean) dC dI k g A) (hJ : ∀ d : Nat, q_Sd p l e R s m args below meth c 4 nW dC dI k g A (MQ below (q_post (dC, dI) k g nW Q A) args s 0 0 A) d (x_cut (is_F6_readLine d) (J d))) : q_Sd p l e R s m args below meth c 4 nW dC dI k g A (MQ below (q_post (dC, dI) k g nW Q A) args s 0 0 A) 30 (b_F6_readLine_30 J Q) := by
  unfold b_F6_readLine_30
  refine s_iconst X ⟨by decide, by decide⟩ dF6_readLine_30 ?_
  refine s_istore_n X rfl (by decide) dF6_readLine_31 ?_
  exact hJ 32
set_option maxRecDepth 100000 in
def b_F6_readLine_0 (J : Nat → List qV → List qV → qW → Prop) (Q : qR) : qK := x_aload 0 (x_iload 1 (x_callr (some 6) 2 spr_F6_lineWord (x_istore 2 (x_iload 2 (x_int (-1) (x_icmp_ne (x_aload 0 (x_iload 2 (x_callr (some 6) 2 spr_F6_isFull (x_if_eq (b_F6_readLine_30 J Q) (x_aload 0 (x_int 3 (x_aload 0 (x_get 6 9 (x_call (some 6) 3 sp_F6_note (x_nw (b_F6_readLine_30 J Q))))))))))) (x_int 0 (x_zret Q))))))))
set_option maxRecDepth 100000 in
theorem s_F6_readLine_0 {p : Program} {l : Launch} {e : Env} {R : Room} {s : State} {m : MethodId} {args : Array Value} {below : List Frame} {meth : Method} {c : Code} {nW : Nat} {dC : Nat → ClassId} {dI : Nat → Nat → Nat} {k : Nat → ClassId} {g : Nat → Nat} {A : Nat → Prop} {J : Nat → List qV → List qV → qW → Prop} {Q : qR} (X : q_X p R s m args meth c cX6_readLine 4 nW 7 151 RX6 (some .boolean) dC dI k g A) (hJ : ∀ d : Nat, q_Sd p l e R s m args below meth c 4 nW dC dI k g A (MQ below (q_post (dC, dI) k g nW Q A) args s 0 0 A) d (x_cut (is_F6_readLine d) (J d))) : q_Sd p l e R s m args below meth c 4 nW dC dI k g A (MQ below (q_post (dC, dI) k g nW Q A) args s 0 0 A) 0 (b_F6_readLine_0 J Q) := by
  unfold b_F6_readLine_0
  refine s_aload_n X rfl dF6_readLine_0 ?_
  refine s_iload_n X rfl dF6_readLine_1 ?_
  refine s_callVr X (m_F6_lineWord l) tw_405 tw_406 tw_1513 tw_128 tw_407 rfl (by decide +kernel) ⟨by decide, by decide⟩ dF6_readLine_2 ?_
  refine s_istore_n X rfl (by decide) dF6_readLine_5 ?_
  refine s_iload_n X rfl dF6_readLine_6 ?_
  refine s_iconst X ⟨by decide, by decide⟩ dF6_readLine_7 ?_
  refine s_icmp_ne X (tgt := 13) dF6_readLine_8 (by decide) ?_ ?_
  · refine s_aload_n X rfl dF6_readLine_13 ?_
    refine s_iload_n X rfl dF6_readLine_14 ?_
    refine s_callVr X (m_F6_isFull l) tw_460 tw_461 tw_1512 tw_128 tw_462 rfl (by decide +kernel) ⟨by decide, by decide⟩ dF6_readLine_15 ?_
    refine s_if_eq X (tgt := 30) dF6_readLine_18 (by decide) ?_ ?_
    · exact s_F6_readLine_30 X hJ
    · refine s_aload_n X rfl dF6_readLine_21 ?_
      refine s_iconst X ⟨by decide, by decide⟩ dF6_readLine_22 ?_
      refine s_aload_n X rfl dF6_readLine_23 ?_
      refine s_get X (T := TX6) (C := RX6) (N := 15) tu_X6 rfl (by decide) tw_282 dF6_readLine_24 ?_
      refine s_callV X (m_F6_note l) tw_391 tw_392 tw_1514 tw_128 tw_393 rfl (by decide +kernel) ⟨by decide, by decide⟩ dF6_readLine_27 ?_
      refine s_nw ?_
      exact s_F6_readLine_30 X hJ
  · refine s_iconst X ⟨by decide, by decide⟩ dF6_readLine_11 ?_
    exact s_zret X dF6_readLine_12

def sp_F6_readLine : qS := fun av w Q => ∃ (rln : Int) (rfa : Int) (rpl : Int) (rst : Int) (rnx : Int) (rtk : Int) (rnm : Int) (rnp : Int) (rnd : Int) (tp : Nat → Int) (rv : Nat → Int) (rbf1 : Nat → Int) (rbf2 : Nat → Int) (rbf3 : Nat → Int) (rbf4 : Nat → Int) (rbf5 : Nat → Int) (rbf6 : Nat → Int) (rbf7 : Nat → Int) (rbu0 : Int) (rbu1 : Int) (rbu2 : Int) (rbu3 : Int) (rbu4 : Int) (ryk1 : Nat → Int) (ryk2 : Nat → Int) (ryk3 : Nat → Int) (ryk4 : Nat → Int) (ryd : Int) (rlg : Nat → Int) (rlo : Int) (rsp : Nat → Int) (rsq : Nat → Int) (rsc : Int) (gp : Int) (gD : Nat → Int) (gf : Int) (gd : Int) (a : Int), av = [q2 0, q1 a] ∧ w = [.inr (6, [q2 3, q2 11, q2 16, q2 18, q2 2, q2 1, q1 rln, q1 rfa, q1 rpl, q1 rst, q1 rnx, q1 rtk, q1 rnm, q1 rnp, q1 rnd]), .inl (1, 600, .inl tp), .inl (0, 3, .inl rv), .inr (0, [q2 4, q2 5, q2 6, q2 7, q2 8, q2 9, q2 10, q1 rbu0, q1 rbu1, q1 rbu2, q1 rbu3, q1 rbu4]), .inl (0, 8, .inl rbf1), .inl (0, 8, .inl rbf2), .inl (0, 4, .inl rbf3), .inl (0, 32, .inl rbf4), .inl (0, 6, .inl rbf5), .inl (0, 6, .inl rbf6), .inl (0, 6, .inl rbf7), .inr (10, [q2 12, q2 13, q2 14, q2 15, q1 ryd]), .inl (0, 40, .inl ryk1), .inl (0, 40, .inl ryk2), .inl (0, 40, .inl ryk3), .inl (0, 40, .inl ryk4), .inr (3, [q2 17, q1 rlo]), .inl (0, 8, .inl rlg), .inr (7, [q2 19, q2 20, q1 rsc]), .inl (0, 10, .inl rsp), .inl (0, 10, .inl rsq)] ∧ (0 ≤ rln ∧ rln ≤ 600 ∧ 0 ≤ rnx ∧ rnx ≤ rln ∧ 0 ≤ rst ∧ rst ≤ 600) ∧ (0 ≤ rbu0 ∧ rbu0 ≤ 8 ∧ 0 ≤ rbu3 ∧ rbu3 ≤ 6 ∧ 0 ≤ rbu4 ∧ rbu4 ≤ 6) ∧ (q_rg 0 9 rbf3) ∧ (0 ≤ ryd ∧ ryd ≤ 40) ∧ (0 ≤ rsc ∧ rsc ≤ 10) ∧ (0 ≤ a ∧ a ≤ 3) ∧ (0 ≤ gp ∧ gp ≤ rln) ∧ (AdvR (tc tp) rln gp rst rnx rtk rnm) ∧ (CsI rfa a gD gf gd rbf1 rbf2 rbf3 rbf4 rbf5 rbf6 rbf7 rbu0 rbu1 rbu2 rbu3 rbu4 rnp rnd ryk1 ryk2 ryk3 ryk4 ryd rlg rlo rsp rsq rsc) ∧ (∀ (r : Int) (x_rst : Int) (x_rnx : Int) (x_rtk : Int) (x_rnm : Int) (x_rfa : Int) (x_rpl : Int) (x_rv : Nat → Int) (x_rbf1 : Nat → Int) (x_rbf2 : Nat → Int) (x_rbf3 : Nat → Int) (x_rbf4 : Nat → Int) (x_rbf5 : Nat → Int) (x_rbf6 : Nat → Int) (x_rbf7 : Nat → Int) (x_rbu0 : Int) (x_rbu1 : Int) (x_rbu2 : Int) (x_rbu3 : Int) (x_rbu4 : Int) (x_rnp : Int) (x_rnd : Int) (x_ryk1 : Nat → Int) (x_ryk2 : Nat → Int) (x_ryk3 : Nat → Int) (x_ryk4 : Nat → Int) (x_ryd : Int) (x_rlg : Nat → Int) (x_rlo : Int) (x_rsp : Nat → Int) (x_rsq : Nat → Int) (x_rsc : Int), (LnR (tc tp) rln a (gp, rfa, rpl, gD, gf, gd) r x_rst x_rnx x_rfa x_rpl (CsI x_rfa a (dS (tc tp) rln a (gp, rfa, rpl, gD, gf, gd)) (gS (tc tp) rln a (gp, rfa, rpl, gD, gf, gd)) (hS (tc tp) rln a (gp, rfa, rpl, gD, gf, gd)) x_rbf1 x_rbf2 x_rbf3 x_rbf4 x_rbf5 x_rbf6 x_rbf7 x_rbu0 x_rbu1 x_rbu2 x_rbu3 x_rbu4 x_rnp x_rnd x_ryk1 x_ryk2 x_ryk3 x_ryk4 x_ryd x_rlg x_rlo x_rsp x_rsq x_rsc) ∧ (0 ≤ x_rnx ∧ x_rnx ≤ rln ∧ 0 ≤ x_rst ∧ x_rst ≤ 600) ∧ (0 ≤ x_rbu0 ∧ x_rbu0 ≤ 8 ∧ 0 ≤ x_rbu3 ∧ x_rbu3 ≤ 6 ∧ 0 ≤ x_rbu4 ∧ x_rbu4 ≤ 6 ∧ q_rg 0 9 x_rbf3) ∧ (0 ≤ x_ryd ∧ x_ryd ≤ 40) ∧ (0 ≤ x_rsc ∧ x_rsc ≤ 10)) → Q (some (q1 r)) ([.inr (6, [q2 3, q2 11, q2 16, q2 18, q2 2, q2 1, q1 rln, q1 x_rfa, q1 x_rpl, q1 x_rst, q1 x_rnx, q1 x_rtk, q1 x_rnm, q1 x_rnp, q1 x_rnd]), .inl (1, 600, .inl tp), .inl (0, 3, .inl x_rv), .inr (0, [q2 4, q2 5, q2 6, q2 7, q2 8, q2 9, q2 10, q1 x_rbu0, q1 x_rbu1, q1 x_rbu2, q1 x_rbu3, q1 x_rbu4]), .inl (0, 8, .inl x_rbf1), .inl (0, 8, .inl x_rbf2), .inl (0, 4, .inl x_rbf3), .inl (0, 32, .inl x_rbf4), .inl (0, 6, .inl x_rbf5), .inl (0, 6, .inl x_rbf6), .inl (0, 6, .inl x_rbf7), .inr (10, [q2 12, q2 13, q2 14, q2 15, q1 x_ryd]), .inl (0, 40, .inl x_ryk1), .inl (0, 40, .inl x_ryk2), .inl (0, 40, .inl x_ryk3), .inl (0, 40, .inl x_ryk4), .inr (3, [q2 17, q1 x_rlo]), .inl (0, 8, .inl x_rlg), .inr (7, [q2 19, q2 20, q1 x_rsc]), .inl (0, 10, .inl x_rsp), .inl (0, 10, .inl x_rsq)]))
def I_F6_readLine (rln : Int) (rfa : Int) (rpl : Int) (rst : Int) (rnx : Int) (rtk : Int) (rnm : Int) (rnp : Int) (rnd : Int) (tp : Nat → Int) (rv : Nat → Int) (rbf1 : Nat → Int) (rbf2 : Nat → Int) (rbf3 : Nat → Int) (rbf4 : Nat → Int) (rbf5 : Nat → Int) (rbf6 : Nat → Int) (rbf7 : Nat → Int) (rbu0 : Int) (rbu1 : Int) (rbu2 : Int) (rbu3 : Int) (rbu4 : Int) (ryk1 : Nat → Int) (ryk2 : Nat → Int) (ryk3 : Nat → Int) (ryk4 : Nat → Int) (ryd : Int) (rlg : Nat → Int) (rlo : Int) (rsp : Nat → Int) (rsq : Nat → Int) (rsc : Int) (gp : Int) (gD : Nat → Int) (gf : Int) (gd : Int) (a : Int) : Nat → Nat → List qV → List qV → qW → Prop := fun dz mz vz sz wz => if dz = 32 then (∃ (y_rst : Int) (y_rnx : Int) (y_rtk : Int) (y_rnm : Int) (y_rfa : Int) (y_rpl : Int) (y_rv : Nat → Int) (v2 : Int) (v3 : Int), vz = [q2 0, q1 v2, q1 v3] ∧ sz = [] ∧ wz = [.inr (6, [q2 3, q2 11, q2 16, q2 18, q2 2, q2 1, q1 rln, q1 y_rfa, q1 y_rpl, q1 y_rst, q1 y_rnx, q1 y_rtk, q1 y_rnm, q1 rnp, q1 rnd]), .inl (1, 600, .inl tp), .inl (0, 3, .inl y_rv), .inr (0, [q2 4, q2 5, q2 6, q2 7, q2 8, q2 9, q2 10, q1 rbu0, q1 rbu1, q1 rbu2, q1 rbu3, q1 rbu4]), .inl (0, 8, .inl rbf1), .inl (0, 8, .inl rbf2), .inl (0, 4, .inl rbf3), .inl (0, 32, .inl rbf4), .inl (0, 6, .inl rbf5), .inl (0, 6, .inl rbf6), .inl (0, 6, .inl rbf7), .inr (10, [q2 12, q2 13, q2 14, q2 15, q1 ryd]), .inl (0, 40, .inl ryk1), .inl (0, 40, .inl ryk2), .inl (0, 40, .inl ryk3), .inl (0, 40, .inl ryk4), .inr (3, [q2 17, q1 rlo]), .inl (0, 8, .inl rlg), .inr (7, [q2 19, q2 20, q1 rsc]), .inl (0, 10, .inl rsp), .inl (0, 10, .inl rsq)] ∧ mz = (3 - v3).toNat ∧ (0 ≤ v2 ∧ v2 ≤ 16 ∧ 0 ≤ v3 ∧ v3 ≤ 3) ∧ (0 ≤ y_rnx ∧ y_rnx ≤ rln ∧ 0 ≤ y_rst ∧ y_rst ≤ 600) ∧ (v2 = liW (tc tp) rln gp a) ∧ (wsR a v2) ∧ (SlS (tc tp) rln v2 gp (ntF (fulP v2 gD) 3 rfa) (ntP (fulP v2 gD) (tB (tc tp) rln gp) rfa rpl) v3 y_rnx y_rfa y_rpl y_rv)) else False
set_option maxHeartbeats 4000000 in
set_option maxRecDepth 100000 in
theorem m_F6_readLine (l : Launch) : q_M l yX6_readLine cX6_readLine 4 (some .boolean) 7 151 sp_F6_readLine := by
  refine q_meth (by decide) (fun av w Q h => by obtain ⟨rln, rfa, rpl, rst, rnx, rtk, rnm, rnp, rnd, tp, rv, rbf1, rbf2, rbf3, rbf4, rbf5, rbf6, rbf7, rbu0, rbu1, rbu2, rbu3, rbu4, ryk1, ryk2, ryk3, ryk4, ryd, rlg, rlo, rsp, rsq, rsc, gp, gD, gf, gd, a, rfl, rfl, hr, hrb, hf3, hry, hrs, ha, hgp, hA, hC, hQ⟩ := h; exact Nat.le_of_ble_eq_true rfl) ?_
  intro p e R s m args below meth c dC dI k g A av w Q hsp oka okw X
  obtain ⟨rln, rfa, rpl, rst, rnx, rtk, rnm, rnp, rnd, tp, rv, rbf1, rbf2, rbf3, rbf4, rbf5, rbf6, rbf7, rbu0, rbu1, rbu2, rbu3, rbu4, ryk1, ryk2, ryk3, ryk4, ryd, rlg, rlo, rsp, rsq, rsc, gp, gD, gf, gd, a, rfl, rfl, hr, hrb, hf3, hry, hrs, ha, hgp, hA, hC, hQ⟩ := hsp
  have o_a : -2147483648 ≤ a ∧ a ≤ 2147483647 := oka _ (List.mem_of_getElem? (i := 1) rfl)
  refine s_mono (s_F6_readLine_0 X (J := fun dz vz sz wz => ∃ mz, I_F6_readLine rln rfa rpl rst rnx rtk rnm rnp rnd tp rv rbf1 rbf2 rbf3 rbf4 rbf5 rbf6 rbf7 rbu0 rbu1 rbu2 rbu3 rbu4 ryk1 ryk2 ryk3 ryk4 ryd rlg rlo rsp rsq rsc gp gD gf gd a dz mz vz sz wz) (q_loopn (I_F6_readLine rln rfa rpl rst rnx rtk rnm rnp rnd tp rv rbf1 rbf2 rbf3 rbf4 rbf5 rbf6 rbf7 rbu0 rbu1 rbu2 rbu3 rbu4 ryk1 ryk2 ryk3 ryk4 ryd rlg rlo rsp rsq rsc gp gD gf gd a) (fun dz J => if dz = 32 then b_F6_readLine_32 J Q else q_F) ?hs ?hv)) ?_
  case hs =>
    intro d J hJ
    by_cases hq_32 : d = 32
    · subst hq_32; exact s_F6_readLine_32 X hJ
    simp only [hq_32, if_false]
    exact s_F
  case hv =>
    intro dz mz vz sz wz hI okv oks okw hlen
    by_cases hq_32 : dz = 32
    · subst hq_32
      obtain ⟨y_rst, y_rnx, y_rtk, y_rnm, y_rfa, y_rpl, y_rv, v2, v3, rfl, rfl, rfl, hn, hw, hry2, hl2, hws, hS⟩ := hI
      apply And.intro
      · intro hq_34
        refine Exists.intro [0, 1, 3, 11, 16, 18, 2] (Exists.intro [q2 0] (Exists.intro ([.inr (6, [q2 2, q2 3, q2 4, q2 5, q2 6, q2 1, q1 _, q1 _, q1 _, q1 _, q1 _, q1 _, q1 _, q1 _, q1 _]), .inl (1, 600, .inl _)]) (And.intro rfl (And.intro rfl (And.intro rfl (And.intro ⟨⟨_, rfl⟩, rfl⟩ ?_))))))
        refine Exists.intro _ (Exists.intro _ (Exists.intro _ (Exists.intro _ (Exists.intro _ (Exists.intro _ (Exists.intro _ (Exists.intro _ (Exists.intro _ (Exists.intro _ (And.intro rfl (And.intro rfl (And.intro (by first | assumption | exact q_rg_up (by assumption) (by omega) | exact q_rg_up (q_rg_up (by assumption) (by omega)) (by omega) | exact q_rg_cpy (by assumption) (by assumption) | omega) (?_)))))))))))))
        intro x_rst_74 x_rnx_74 x_rtk_74 x_rnm_74 hq_74
        apply And.intro
        · intro hq_82
          have q9 := SlS_e hS (by omega) (by omega) hq_74.1 hq_82
          apply And.intro
          · intro hq_91
            apply And.intro
            · first | exact Or.inl rfl | exact Or.inr rfl | omega
            exact hQ _ _ _ _ _ _ _ _ _ _ _ _ _ _ _ _ _ _ _ _ _ _ _ _ _ _ _ _ _ _ _ _ (by first | exact ⟨LnR_n e2 (by omega) hA.1, ⟨by omega, by omega, by omega, by omega⟩, ⟨by omega, by omega, by omega, by omega, by omega, by omega, (by first | assumption | exact hq_96.2.1.2.2.2.2.2.2)⟩, by omega, by omega⟩ | exact ⟨LnR_0 hl2 (SlS_f hS (by omega) (by omega) hq_59.1 hq_62), ⟨by omega, by omega, by omega, by omega⟩, ⟨by omega, by omega, by omega, by omega, by omega, by omega, (by first | assumption | exact hq_96.2.1.2.2.2.2.2.2)⟩, by omega, by omega⟩ | exact ⟨LnR_0 hl2 (SlS_g hS (by omega) (by omega) hq_74.1 hq_82), ⟨by omega, by omega, by omega, by omega⟩, ⟨by omega, by omega, by omega, by omega, by omega, by omega, (by first | assumption | exact hq_96.2.1.2.2.2.2.2.2)⟩, by omega, by omega⟩ | exact ⟨LnR_1 hl2 q9.1 q9.2.1 q9.2.2.1 q9.2.2.2.1 (fun hq_9 => absurd hq_9 hq_91), ⟨by omega, by omega, by omega, by omega⟩, ⟨by omega, by omega, by omega, by omega, by omega, by omega, (by first | assumption | exact hq_96.2.1.2.2.2.2.2.2)⟩, by omega, by omega⟩ | exact ⟨LnR_1 hl2 q9.1 q9.2.1 q9.2.2.1 q9.2.2.2.1 (fun hq_9 => T9_e hl2 q9.2.2.2.2.2.1 q9.2.2.2.2.2.2.1 q9.2.2.2.2.2.2.2 hq_96.1), ⟨by omega, by omega, by omega, by omega⟩, ⟨by omega, by omega, by omega, by omega, by omega, by omega, (by first | assumption | exact hq_96.2.1.2.2.2.2.2.2)⟩, by omega, by omega⟩)
          · intro hq_91
            refine Exists.intro [0, 2, 3, 4, 5, 6, 7, 8, 9, 10, 11, 12, 13, 14, 15, 16, 17, 18, 19, 20, 1] (Exists.intro [q2 0, q1 _] (Exists.intro ([.inr (6, [q2 2, q2 10, q2 15, q2 17, q2 1, q2 20, q1 _, q1 _, q1 _, q1 _, q1 _, q1 _, q1 _, q1 _, q1 _]), .inl (0, 3, .inl _), .inr (0, [q2 3, q2 4, q2 5, q2 6, q2 7, q2 8, q2 9, q1 _, q1 _, q1 _, q1 _, q1 _]), .inl (0, 8, .inl _), .inl (0, 8, .inl _), .inl (0, 4, .inl _), .inl (0, 32, .inl _), .inl (0, 6, .inl _), .inl (0, 6, .inl _), .inl (0, 6, .inl _), .inr (10, [q2 11, q2 12, q2 13, q2 14, q1 _]), .inl (0, 40, .inl _), .inl (0, 40, .inl _), .inl (0, 40, .inl _), .inl (0, 40, .inl _), .inr (3, [q2 16, q1 _]), .inl (0, 8, .inl _), .inr (7, [q2 18, q2 19, q1 _]), .inl (0, 10, .inl _), .inl (0, 10, .inl _)]) (And.intro rfl (And.intro rfl (And.intro rfl (And.intro ⟨⟨_, rfl⟩, rfl⟩ ?_))))))
            refine Exists.intro _ (Exists.intro _ (Exists.intro _ (Exists.intro _ (Exists.intro _ (Exists.intro _ (Exists.intro _ (Exists.intro _ (Exists.intro _ (Exists.intro _ (Exists.intro _ (Exists.intro _ (Exists.intro _ (Exists.intro _ (Exists.intro _ (Exists.intro _ (Exists.intro _ (Exists.intro _ (Exists.intro _ (Exists.intro _ (Exists.intro _ (Exists.intro _ (Exists.intro _ (Exists.intro _ (Exists.intro _ (Exists.intro _ (Exists.intro _ (Exists.intro _ (Exists.intro _ (Exists.intro _ (Exists.intro _ (Exists.intro _ (Exists.intro a (Exists.intro gD (Exists.intro gf (Exists.intro gd (Exists.intro _ (And.intro rfl (And.intro rfl (And.intro (by first | assumption | exact q_rg_up (by assumption) (by omega) | exact q_rg_up (q_rg_up (by assumption) (by omega)) (by omega) | exact q_rg_cpy (by assumption) (by assumption) | omega) (And.intro (by first | assumption | exact q_rg_up (by assumption) (by omega) | exact q_rg_up (q_rg_up (by assumption) (by omega)) (by omega) | exact q_rg_cpy (by assumption) (by assumption) | omega) (And.intro (by first | assumption | exact q_rg_up (by assumption) (by omega) | exact q_rg_up (q_rg_up (by assumption) (by omega)) (by omega) | exact q_rg_cpy (by assumption) (by assumption) | omega) (And.intro (by first | assumption | exact q_rg_up (by assumption) (by omega) | exact q_rg_up (q_rg_up (by assumption) (by omega)) (by omega) | exact q_rg_cpy (by assumption) (by assumption) | omega) (And.intro (hC (ntF_0 (by decide) (lfa_0 (q9.2.2.1.symm.trans hq_91)).1).1) (And.intro hws (And.intro (VR_e (VR_l (q9.2.2.1.symm.trans hq_91) q9.2.2.2.2.1) q9.2.2.2.2.2.1 q9.2.2.2.2.2.2.1) (And.intro (fun hq_9 => (ntF_0 (by decide) (lfa_0 (q9.2.2.1.symm.trans hq_91)).1).2 ((ful_e (hC (ntF_0 (by decide) (lfa_0 (q9.2.2.1.symm.trans hq_91)).1).1) hws).mp hq_9)) (?_)))))))))))))))))))))))))))))))))))))))))))))))
            intro x_rbf1_96 x_rbf2_96 x_rbf3_96 x_rbf4_96 x_rbf5_96 x_rbf6_96 x_rbf7_96 x_rbu0_96 x_rbu1_96 x_rbu2_96 x_rbu3_96 x_rbu4_96 x_rnp_96 x_rnd_96 x_ryk1_96 x_ryk2_96 x_ryk3_96 x_ryk4_96 x_ryd_96 x_rlg_96 x_rlo_96 x_rsp_96 x_rsq_96 x_rsc_96 hq_96
            apply And.intro
            · first | exact Or.inl rfl | exact Or.inr rfl | omega
            exact hQ _ _ _ _ _ _ _ _ _ _ _ _ _ _ _ _ _ _ _ _ _ _ _ _ _ _ _ _ _ _ _ _ (by first | exact ⟨LnR_n e2 (by omega) hA.1, ⟨by omega, by omega, by omega, by omega⟩, ⟨by omega, by omega, by omega, by omega, by omega, by omega, (by first | assumption | exact hq_96.2.1.2.2.2.2.2.2)⟩, by omega, by omega⟩ | exact ⟨LnR_0 hl2 (SlS_f hS (by omega) (by omega) hq_59.1 hq_62), ⟨by omega, by omega, by omega, by omega⟩, ⟨by omega, by omega, by omega, by omega, by omega, by omega, (by first | assumption | exact hq_96.2.1.2.2.2.2.2.2)⟩, by omega, by omega⟩ | exact ⟨LnR_0 hl2 (SlS_g hS (by omega) (by omega) hq_74.1 hq_82), ⟨by omega, by omega, by omega, by omega⟩, ⟨by omega, by omega, by omega, by omega, by omega, by omega, (by first | assumption | exact hq_96.2.1.2.2.2.2.2.2)⟩, by omega, by omega⟩ | exact ⟨LnR_1 hl2 q9.1 q9.2.1 q9.2.2.1 q9.2.2.2.1 (fun hq_9 => absurd hq_9 hq_91), ⟨by omega, by omega, by omega, by omega⟩, ⟨by omega, by omega, by omega, by omega, by omega, by omega, (by first | assumption | exact hq_96.2.1.2.2.2.2.2.2)⟩, by omega, by omega⟩ | exact ⟨LnR_1 hl2 q9.1 q9.2.1 q9.2.2.1 q9.2.2.2.1 (fun hq_9 => T9_e hl2 q9.2.2.2.2.2.1 q9.2.2.2.2.2.2.1 q9.2.2.2.2.2.2.2 hq_96.1), ⟨by omega, by omega, by omega, by omega⟩, ⟨by omega, by omega, by omega, by omega, by omega, by omega, (by first | assumption | exact hq_96.2.1.2.2.2.2.2.2)⟩, by omega, by omega⟩)
        · intro hq_82
          apply And.intro
          · first | exact Or.inl rfl | exact Or.inr rfl | omega
          exact hQ _ _ _ _ _ _ _ _ _ _ _ _ _ _ _ _ _ _ _ _ _ _ _ _ _ _ _ _ _ _ _ _ (by first | exact ⟨LnR_n e2 (by omega) hA.1, ⟨by omega, by omega, by omega, by omega⟩, ⟨by omega, by omega, by omega, by omega, by omega, by omega, (by first | assumption | exact hq_96.2.1.2.2.2.2.2.2)⟩, by omega, by omega⟩ | exact ⟨LnR_0 hl2 (SlS_f hS (by omega) (by omega) hq_59.1 hq_62), ⟨by omega, by omega, by omega, by omega⟩, ⟨by omega, by omega, by omega, by omega, by omega, by omega, (by first | assumption | exact hq_96.2.1.2.2.2.2.2.2)⟩, by omega, by omega⟩ | exact ⟨LnR_0 hl2 (SlS_g hS (by omega) (by omega) hq_74.1 hq_82), ⟨by omega, by omega, by omega, by omega⟩, ⟨by omega, by omega, by omega, by omega, by omega, by omega, (by first | assumption | exact hq_96.2.1.2.2.2.2.2.2)⟩, by omega, by omega⟩ | exact ⟨LnR_1 hl2 q9.1 q9.2.1 q9.2.2.1 q9.2.2.2.1 (fun hq_9 => absurd hq_9 hq_91), ⟨by omega, by omega, by omega, by omega⟩, ⟨by omega, by omega, by omega, by omega, by omega, by omega, (by first | assumption | exact hq_96.2.1.2.2.2.2.2.2)⟩, by omega, by omega⟩ | exact ⟨LnR_1 hl2 q9.1 q9.2.1 q9.2.2.1 q9.2.2.2.1 (fun hq_9 => T9_e hl2 q9.2.2.2.2.2.1 q9.2.2.2.2.2.2.1 q9.2.2.2.2.2.2.2 hq_96.1), ⟨by omega, by omega, by omega, by omega⟩, ⟨by omega, by omega, by omega, by omega, by omega, by omega, (by first | assumption | exact hq_96.2.1.2.2.2.2.2.2)⟩, by omega, by omega⟩)
      · intro hq_34
        apply And.intro
        · exact ⟨by omega, by omega⟩
        intro zq_49 hq_49
        first | replace hq_49 := e_mul hq_49 (by omega) | replace hq_49 := e_rng hq_49
        intro zq_51 hq_51
        first | replace hq_51 := e_add hq_51 (by omega) | replace hq_51 := e_rng hq_51
        apply And.intro
        · exact ⟨by omega, by rw [show ((qs_1).length : Int) = 51 from rfl]; omega⟩
        intro zq_52 hq_52
        have e52 : zq_52 = slT v2 v3 := by rw [hq_52]; unfold slT; rw [show zq_51 = 3 * v2 + v3 by omega]
        apply And.intro
        · intro hq_53
          intro zq_67 hq_67
          first | replace hq_67 := e_add hq_67 (by omega) | replace hq_67 := e_rng hq_67
          exact ⟨_, ⟨_, _, _, _, _, _, _, _, _, rfl, rfl, rfl, rfl, (by first | assumption | exact q_rg_up (by assumption) (by omega) | exact q_rg_up (q_rg_up (by assumption) (by omega)) (by omega) | exact q_rg_cpy (by assumption) (by assumption) | omega), (by first | assumption | exact q_rg_up (by assumption) (by omega) | exact q_rg_up (q_rg_up (by assumption) (by omega)) (by omega) | exact q_rg_cpy (by assumption) (by assumption) | omega), (by first | exact hl2 | exact e2), (by first | exact hws | exact w9), (by first | exact SlS_0 l9 n9.1 n9.2 | exact SlS_z hS (by omega) (by omega) (by omega) | exact SlS_s hS (by omega) (by omega) hq_59.1 hq_62 (by omega))⟩, by omega⟩
        · intro hq_53
          refine Exists.intro [0, 1, 2, 3, 11, 16, 18] (Exists.intro [q2 0, q1 _, q1 _] (Exists.intro ([.inr (6, [q2 3, q2 4, q2 5, q2 6, q2 2, q2 1, q1 _, q1 _, q1 _, q1 _, q1 _, q1 _, q1 _, q1 _, q1 _]), .inl (1, 600, .inl _), .inl (0, 3, .inl _)]) (And.intro rfl (And.intro rfl (And.intro rfl (And.intro ⟨⟨_, rfl⟩, rfl⟩ ?_))))))
          refine Exists.intro _ (Exists.intro _ (Exists.intro _ (Exists.intro _ (Exists.intro _ (Exists.intro _ (Exists.intro _ (Exists.intro _ (Exists.intro _ (Exists.intro _ (Exists.intro _ (Exists.intro _ (Exists.intro _ (And.intro rfl (And.intro rfl (And.intro (by first | assumption | exact q_rg_up (by assumption) (by omega) | exact q_rg_up (q_rg_up (by assumption) (by omega)) (by omega) | exact q_rg_cpy (by assumption) (by assumption) | omega) (And.intro (by first | assumption | exact q_rg_up (by assumption) (by omega) | exact q_rg_up (q_rg_up (by assumption) (by omega)) (by omega) | exact q_rg_cpy (by assumption) (by assumption) | omega) (And.intro (by rw [← e52]; exact hq_53) (?_))))))))))))))))))
          intro zq_59 x_rst_59 x_rnx_59 x_rtk_59 x_rnm_59 x_rfa_59 x_rpl_59 x_rv_59 hq_59
          apply And.intro
          · intro hq_62
            intro zq_67 hq_67
            first | replace hq_67 := e_add hq_67 (by omega) | replace hq_67 := e_rng hq_67
            exact ⟨_, ⟨_, _, _, _, _, _, _, _, _, rfl, rfl, rfl, rfl, (by first | assumption | exact q_rg_up (by assumption) (by omega) | exact q_rg_up (q_rg_up (by assumption) (by omega)) (by omega) | exact q_rg_cpy (by assumption) (by assumption) | omega), (by first | assumption | exact q_rg_up (by assumption) (by omega) | exact q_rg_up (q_rg_up (by assumption) (by omega)) (by omega) | exact q_rg_cpy (by assumption) (by assumption) | omega), (by first | exact hl2 | exact e2), (by first | exact hws | exact w9), (by first | exact SlS_0 l9 n9.1 n9.2 | exact SlS_z hS (by omega) (by omega) (by omega) | exact SlS_s hS (by omega) (by omega) hq_59.1 hq_62 (by omega))⟩, by omega⟩
          · intro hq_62
            apply And.intro
            · first | exact Or.inl rfl | exact Or.inr rfl | omega
            exact hQ _ _ _ _ _ _ _ _ _ _ _ _ _ _ _ _ _ _ _ _ _ _ _ _ _ _ _ _ _ _ _ _ (by first | exact ⟨LnR_n e2 (by omega) hA.1, ⟨by omega, by omega, by omega, by omega⟩, ⟨by omega, by omega, by omega, by omega, by omega, by omega, (by first | assumption | exact hq_96.2.1.2.2.2.2.2.2)⟩, by omega, by omega⟩ | exact ⟨LnR_0 hl2 (SlS_f hS (by omega) (by omega) hq_59.1 hq_62), ⟨by omega, by omega, by omega, by omega⟩, ⟨by omega, by omega, by omega, by omega, by omega, by omega, (by first | assumption | exact hq_96.2.1.2.2.2.2.2.2)⟩, by omega, by omega⟩ | exact ⟨LnR_0 hl2 (SlS_g hS (by omega) (by omega) hq_74.1 hq_82), ⟨by omega, by omega, by omega, by omega⟩, ⟨by omega, by omega, by omega, by omega, by omega, by omega, (by first | assumption | exact hq_96.2.1.2.2.2.2.2.2)⟩, by omega, by omega⟩ | exact ⟨LnR_1 hl2 q9.1 q9.2.1 q9.2.2.1 q9.2.2.2.1 (fun hq_9 => absurd hq_9 hq_91), ⟨by omega, by omega, by omega, by omega⟩, ⟨by omega, by omega, by omega, by omega, by omega, by omega, (by first | assumption | exact hq_96.2.1.2.2.2.2.2.2)⟩, by omega, by omega⟩ | exact ⟨LnR_1 hl2 q9.1 q9.2.1 q9.2.2.1 q9.2.2.2.1 (fun hq_9 => T9_e hl2 q9.2.2.2.2.2.1 q9.2.2.2.2.2.2.1 q9.2.2.2.2.2.2.2 hq_96.1), ⟨by omega, by omega, by omega, by omega⟩, ⟨by omega, by omega, by omega, by omega, by omega, by omega, (by first | assumption | exact hq_96.2.1.2.2.2.2.2.2)⟩, by omega, by omega⟩)
    simp only [I_F6_readLine, hq_32, if_false] at hI
  rintro lv st w' ⟨rfl, rfl, rfl⟩
  refine Exists.intro [0, 1, 3, 11, 16, 18, 2] (Exists.intro [q2 0, q1 _] (Exists.intro ([.inr (6, [q2 2, q2 3, q2 4, q2 5, q2 6, q2 1, q1 _, q1 _, q1 _, q1 _, q1 _, q1 _, q1 _, q1 _, q1 _]), .inl (1, 600, .inl _)]) (And.intro rfl (And.intro rfl (And.intro rfl (And.intro ⟨⟨_, rfl⟩, rfl⟩ ?_))))))
  refine Exists.intro _ (Exists.intro _ (Exists.intro _ (Exists.intro _ (Exists.intro _ (Exists.intro _ (Exists.intro _ (Exists.intro _ (Exists.intro _ (Exists.intro _ (Exists.intro _ (And.intro rfl (And.intro rfl (And.intro (by first | assumption | exact q_rg_up (by assumption) (by omega) | exact q_rg_up (q_rg_up (by assumption) (by omega)) (by omega) | exact q_rg_cpy (by assumption) (by assumption) | omega) (?_))))))))))))))
  intro zq_2 hq_2
  have e2 : zq_2 = liW (tc tp) rln gp a := by rw [hq_2]; exact Adv_li hA
  apply And.intro
  · intro hq_8
    have w9 := ws_li ha e2 hq_8
    have w8 := ws_16 w9
    refine Exists.intro [0, 3, 4, 5, 6, 7, 8, 9, 10, 11, 12, 13, 14, 15, 18, 19, 20, 16, 2, 1] (Exists.intro [q2 0, q1 _] (Exists.intro ([.inr (6, [q2 1, q2 9, q2 17, q2 14, q2 18, q2 19, q1 _, q1 _, q1 _, q1 _, q1 _, q1 _, q1 _, q1 _, q1 _]), .inr (0, [q2 2, q2 3, q2 4, q2 5, q2 6, q2 7, q2 8, q1 _, q1 _, q1 _, q1 _, q1 _]), .inl (0, 8, .inl _), .inl (0, 8, .inl _), .inl (0, 4, .inl _), .inl (0, 32, .inl _), .inl (0, 6, .inl _), .inl (0, 6, .inl _), .inl (0, 6, .inl _), .inr (10, [q2 10, q2 11, q2 12, q2 13, q1 _]), .inl (0, 40, .inl _), .inl (0, 40, .inl _), .inl (0, 40, .inl _), .inl (0, 40, .inl _), .inr (7, [q2 15, q2 16, q1 _]), .inl (0, 10, .inl _), .inl (0, 10, .inl _)]) (And.intro rfl (And.intro rfl (And.intro rfl (And.intro ⟨⟨_, rfl⟩, rfl⟩ ?_))))))
    refine Exists.intro _ (Exists.intro _ (Exists.intro _ (Exists.intro _ (Exists.intro _ (Exists.intro _ (Exists.intro _ (Exists.intro _ (Exists.intro _ (Exists.intro _ (Exists.intro _ (Exists.intro _ (Exists.intro _ (Exists.intro _ (Exists.intro _ (Exists.intro _ (Exists.intro _ (Exists.intro _ (Exists.intro _ (Exists.intro _ (Exists.intro _ (Exists.intro _ (Exists.intro _ (Exists.intro _ (Exists.intro _ (Exists.intro _ (Exists.intro _ (Exists.intro _ (Exists.intro _ (Exists.intro _ (And.intro rfl (And.intro rfl (?_))))))))))))))))))))))))))))))))
    intro zq_15 hq_15
    apply And.intro
    · intro hq_18
      have n9 := n3_f (a := a) (pl := rpl) (x := tB (tc tp) rln gp) hC w9 (dj0 hq_15 hq_18)
      have l9 := hA.2.1
      exact ⟨_, _, _, _, _, _, _, _, _, _, rfl, rfl, rfl, rfl, (by first | assumption | exact q_rg_up (by assumption) (by omega) | exact q_rg_up (q_rg_up (by assumption) (by omega)) (by omega) | exact q_rg_cpy (by assumption) (by assumption) | omega), (by first | assumption | exact q_rg_up (by assumption) (by omega) | exact q_rg_up (q_rg_up (by assumption) (by omega)) (by omega) | exact q_rg_cpy (by assumption) (by assumption) | omega), (by first | exact hl2 | exact e2), (by first | exact hws | exact w9), (by first | exact SlS_0 l9 n9.1 n9.2 | exact SlS_z hS (by omega) (by omega) (by omega) | exact SlS_s hS (by omega) (by omega) hq_59.1 hq_62 (by omega))⟩
    · intro hq_18
      refine Exists.intro [0, 3, 11, 16, 18, 2, 1] (Exists.intro [q2 0, q1 _, q1 _] (Exists.intro ([.inr (6, [q2 1, q2 2, q2 3, q2 4, q2 5, q2 6, q1 _, q1 _, q1 _, q1 _, q1 _, q1 _, q1 _, q1 _, q1 _])]) (And.intro rfl (And.intro rfl (And.intro rfl (And.intro ⟨⟨_, rfl⟩, rfl⟩ ?_))))))
      refine Exists.intro _ (Exists.intro _ (Exists.intro _ (Exists.intro _ (Exists.intro _ (Exists.intro _ (Exists.intro _ (Exists.intro _ (Exists.intro _ (Exists.intro _ (Exists.intro _ (And.intro rfl (And.intro rfl (?_)))))))))))))
      intro x_rfa_27 x_rpl_27 hq_27
      rw [hA.1] at hq_27
      have n9 := n3_t (a := a) hC w9 (dj1 hq_15 hq_18) hq_27
      have l9 := hA.2.1
      exact ⟨_, _, _, _, _, _, _, _, _, _, rfl, rfl, rfl, rfl, (by first | assumption | exact q_rg_up (by assumption) (by omega) | exact q_rg_up (q_rg_up (by assumption) (by omega)) (by omega) | exact q_rg_cpy (by assumption) (by assumption) | omega), (by first | assumption | exact q_rg_up (by assumption) (by omega) | exact q_rg_up (q_rg_up (by assumption) (by omega)) (by omega) | exact q_rg_cpy (by assumption) (by assumption) | omega), (by first | exact hl2 | exact e2), (by first | exact hws | exact w9), (by first | exact SlS_0 l9 n9.1 n9.2 | exact SlS_z hS (by omega) (by omega) (by omega) | exact SlS_s hS (by omega) (by omega) hq_59.1 hq_62 (by omega))⟩
  · intro hq_8
    apply And.intro
    · first | exact Or.inl rfl | exact Or.inr rfl | omega
    exact hQ _ _ _ _ _ _ _ _ _ _ _ _ _ _ _ _ _ _ _ _ _ _ _ _ _ _ _ _ _ _ _ _ (by first | exact ⟨LnR_n e2 (by omega) hA.1, ⟨by omega, by omega, by omega, by omega⟩, ⟨by omega, by omega, by omega, by omega, by omega, by omega, (by first | assumption | exact hq_96.2.1.2.2.2.2.2.2)⟩, by omega, by omega⟩ | exact ⟨LnR_0 hl2 (SlS_f hS (by omega) (by omega) hq_59.1 hq_62), ⟨by omega, by omega, by omega, by omega⟩, ⟨by omega, by omega, by omega, by omega, by omega, by omega, (by first | assumption | exact hq_96.2.1.2.2.2.2.2.2)⟩, by omega, by omega⟩ | exact ⟨LnR_0 hl2 (SlS_g hS (by omega) (by omega) hq_74.1 hq_82), ⟨by omega, by omega, by omega, by omega⟩, ⟨by omega, by omega, by omega, by omega, by omega, by omega, (by first | assumption | exact hq_96.2.1.2.2.2.2.2.2)⟩, by omega, by omega⟩ | exact ⟨LnR_1 hl2 q9.1 q9.2.1 q9.2.2.1 q9.2.2.2.1 (fun hq_9 => absurd hq_9 hq_91), ⟨by omega, by omega, by omega, by omega⟩, ⟨by omega, by omega, by omega, by omega, by omega, by omega, (by first | assumption | exact hq_96.2.1.2.2.2.2.2.2)⟩, by omega, by omega⟩ | exact ⟨LnR_1 hl2 q9.1 q9.2.1 q9.2.2.1 q9.2.2.2.1 (fun hq_9 => T9_e hl2 q9.2.2.2.2.2.1 q9.2.2.2.2.2.2.1 q9.2.2.2.2.2.2.2 hq_96.1), ⟨by omega, by omega, by omega, by omega⟩, ⟨by omega, by omega, by omega, by omega, by omega, by omega, (by first | assumption | exact hq_96.2.1.2.2.2.2.2.2)⟩, by omega, by omega⟩)
