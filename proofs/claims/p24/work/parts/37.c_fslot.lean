/-! a slot of a line -/
def SlR (t : Nat → Int) (n p w j fa pl : Int) (rv : Nat → Int) (r st nx fa' pl' : Int) (rv' : Nat → Int) : Prop := st = tB t n p ∧ nx = tE t n p ∧ ((r = 1 ∧ slOk t n w j p ∧ rv' = q_up rv j.toNat (slV t n w j p) ∧ fa' = ntF (slB t n w j (rv 0) p) 2 fa ∧ pl' = ntP (slB t n w j (rv 0) p) (tB t n p) fa pl) ∨ (r = 0 ∧ ¬ slOk t n w j p))
theorem Adv_of {t : Nat → Int} {n p st nx tk nm : Int} (h : AdvR t n p st nx tk nm) : ofP t st nx tk = ofW t n p := by
  obtain ⟨hq_1, hq_2, hq_3, -⟩ := h
  unfold ofW
  rw [← hq_1, ← hq_2, ← hq_3]
theorem SlR_o1 {t : Nat → Int} {n p w j fa pl st nx tk nm z : Int} {rv : Nat → Int} (h : AdvR t n p st nx tk nm) (hty : slT w j = 2) (ho : z = ofP t st nx tk) (hz : ¬ z = -1) : SlR t n p w j fa pl rv 1 st nx fa pl (q_up rv j.toNat z) := by
  have e := Adv_of h
  have hb : ¬ slB t n w j (rv 0) p := slB_n (by omega)
  have hv : slV t n w j p = z := by unfold slV; rw [if_neg (by omega), if_pos hty, ho, e]
  refine ⟨h.1, h.2.1, Or.inl ⟨rfl, Or.inr (Or.inl ⟨hty, by rw [← e, ← ho]; exact hz⟩), by rw [hv], (ntF_n hb).symm, (ntP_n hb).symm⟩⟩
theorem SlR_o0 {t : Nat → Int} {n p w j fa pl fa' pl' st nx tk nm z : Int} {rv rv' : Nat → Int} (h : AdvR t n p st nx tk nm) (hty : slT w j = 2) (ho : z = ofP t st nx tk) (hz : z = -1) : SlR t n p w j fa pl rv 0 st nx fa' pl' rv' := by
  have e := Adv_of h
  refine ⟨h.1, h.2.1, Or.inr ⟨rfl, ?_⟩⟩
  rintro (hq_9 | ⟨-, hq_9⟩ | ⟨hq_9, -⟩)
  · omega
  · exact hq_9 (by rw [← e, ← ho]; exact hz)
  · omega
theorem SlR_n0 {t : Nat → Int} {n p w j fa pl fa' pl' st nx tk nm : Int} {rv rv' : Nat → Int} (h : AdvR t n p st nx tk nm) (hq_0 : ¬ slT w j = 0) (hq_2 : ¬ slT w j = 2) (hq_1 : ¬ slT w j = 1 ∨ ¬ tk = 2) : SlR t n p w j fa pl rv 0 st nx fa' pl' rv' := by
  refine ⟨h.1, h.2.1, Or.inr ⟨rfl, ?_⟩⟩
  rintro (hq_9 | ⟨hq_9, -⟩ | ⟨hq_9, hq_8⟩)
  · exact hq_0 hq_9
  · exact hq_2 hq_9
  · rcases hq_1 with hq_1 | hq_1
    · exact hq_1 hq_9
    · exact hq_1 (by rw [h.2.2.1]; exact hq_8)
theorem SlR_n1 {t : Nat → Int} {n p w j fa pl fa' pl' st nx nm : Int} {rv : Nat → Int} (h : AdvR t n p st nx 2 nm) (hty : slT w j = 1) (hn : (nm < slL w j ∨ slG w j < nm ∨ ((w = 5 ∨ w = 13) ∧ j = 1 ∧ nm = rv 0)) ∧ (fa = 0 ∧ fa' = 2 ∧ pl' = st ∨ ¬ fa = 0 ∧ fa' = fa ∧ pl' = pl) ∨ ¬ (nm < slL w j ∨ slG w j < nm ∨ ((w = 5 ∨ w = 13) ∧ j = 1 ∧ nm = rv 0)) ∧ fa' = fa ∧ pl' = pl) : SlR t n p w j fa pl rv 1 st nx fa' pl' (q_up rv j.toNat nm) := by
  have hv := h.2.2.2 rfl
  have hs : slV t n w j p = nm := by unfold slV; rw [if_neg (by omega), if_neg (by omega)]; exact hv.symm
  refine ⟨h.1, h.2.1, Or.inl ⟨rfl, Or.inr (Or.inr ⟨hty, h.2.2.1.symm⟩), by rw [hs], ?_⟩⟩
  rcases hn with ⟨hq_1, hq_2⟩ | ⟨hq_1, hq_2, hq_3⟩
  · have hb : slB t n w j (rv 0) p := ⟨hty, by rw [← hv]; exact hq_1⟩
    have hq_4 := ntF_y hb hq_2
    rw [h.1] at hq_4
    exact hq_4
  · have hb : ¬ slB t n w j (rv 0) p := fun hq_9 => hq_1 (by rw [hv]; exact hq_9.2)
    exact ⟨by rw [ntF_n hb]; exact hq_2, by rw [ntP_n hb]; exact hq_3⟩

theorem dF6_note_0 : decode cX6_note 0 = .ok (.aload_n 0, 1) := by decide +kernel
theorem dF6_note_1 : decode cX6_note 1 = .ok (.getfield 69, 3) := by decide +kernel
theorem dF6_note_4 : decode cX6_note 4 = .ok (.ifCond .ne 13, 3) := by decide +kernel
theorem dF6_note_7 : decode cX6_note 7 = .ok (.aload_n 0, 1) := by decide +kernel
theorem dF6_note_8 : decode cX6_note 8 = .ok (.iload_n 1, 1) := by decide +kernel
theorem dF6_note_9 : decode cX6_note 9 = .ok (.putfield 69, 3) := by decide +kernel
theorem dF6_note_12 : decode cX6_note 12 = .ok (.aload_n 0, 1) := by decide +kernel
theorem dF6_note_13 : decode cX6_note 13 = .ok (.iload_n 2, 1) := by decide +kernel
theorem dF6_note_14 : decode cX6_note 14 = .ok (.putfield 75, 3) := by decide +kernel
theorem dF6_note_17 : decode cX6_note 17 = .ok (.return_, 1) := by decide +kernel
def is_F6_note : Nat → List Nat := fun d => []
set_option maxRecDepth 100000 in
def b_F6_note_17 (J : Nat → List qV → List qV → qW → Prop) (Q : qR) : qK := x_vret Q
set_option maxRecDepth 100000 in
theorem s_F6_note_17 {p : Program} {l : Launch} {e : Env} {R : Room} {s : State} {m : MethodId} {args : Array Value} {below : List Frame} {meth : Method} {c : Code} {nW : Nat} {dC : Nat → ClassId} {dI : Nat → Nat → Nat} {k : Nat → ClassId} {g : Nat → Nat} {A : Nat → Prop} {J : Nat → List qV → List qV → qW → Prop} {Q : qR} (X : q_X p R s m args meth c cX6_note 3 nW 0 0 RX6 none dC dI k g A) (hJ : ∀ d : Nat, q_Sd p l e R s m args below meth c 3 nW dC dI k g A (MQ below (q_post (dC, dI) k g nW Q A) args s 0 0 A) d (x_cut (is_F6_note d) (J d))) : q_Sd p l e R s m args below meth c 3 nW dC dI k g A (MQ below (q_post (dC, dI) k g nW Q A) args s 0 0 A) 17 (b_F6_note_17 J Q) := by
  unfold b_F6_note_17
  exact s_vret X dF6_note_17
set_option maxRecDepth 100000 in
def b_F6_note_0 (J : Nat → List qV → List qV → qW → Prop) (Q : qR) : qK := x_aload 0 (x_get 6 7 (x_if_ne (b_F6_note_17 J Q) (x_aload 0 (x_iload 1 (x_put 6 7 q_oki (x_nw (x_aload 0 (x_iload 2 (x_put 6 8 q_oki (x_nw (b_F6_note_17 J Q)))))))))))
set_option maxRecDepth 100000 in
theorem s_F6_note_0 {p : Program} {l : Launch} {e : Env} {R : Room} {s : State} {m : MethodId} {args : Array Value} {below : List Frame} {meth : Method} {c : Code} {nW : Nat} {dC : Nat → ClassId} {dI : Nat → Nat → Nat} {k : Nat → ClassId} {g : Nat → Nat} {A : Nat → Prop} {J : Nat → List qV → List qV → qW → Prop} {Q : qR} (X : q_X p R s m args meth c cX6_note 3 nW 0 0 RX6 none dC dI k g A) (hJ : ∀ d : Nat, q_Sd p l e R s m args below meth c 3 nW dC dI k g A (MQ below (q_post (dC, dI) k g nW Q A) args s 0 0 A) d (x_cut (is_F6_note d) (J d))) : q_Sd p l e R s m args below meth c 3 nW dC dI k g A (MQ below (q_post (dC, dI) k g nW Q A) args s 0 0 A) 0 (b_F6_note_0 J Q) := by
  unfold b_F6_note_0
  refine s_aload_n X rfl dF6_note_0 ?_
  refine s_get X (T := TX6) (C := RX6) (N := 15) tu_X6 rfl (by decide) tw_278 dF6_note_1 ?_
  refine s_if_ne X (tgt := 17) dF6_note_4 (by decide) ?_ ?_
  · exact s_F6_note_17 X hJ
  · refine s_aload_n X rfl dF6_note_7 ?_
    refine s_iload_n X rfl dF6_note_8 ?_
    refine s_put X (T := TX6) (C := RX6) (N := 15) tu_X6 tyX6_ok nmX6 rfl (by decide) tw_278 rfl (by decide +kernel) q_oki_t dF6_note_9 ?_
    refine s_nw ?_
    refine s_aload_n X rfl dF6_note_12 ?_
    refine s_iload_n X rfl dF6_note_13 ?_
    refine s_put X (T := TX6) (C := RX6) (N := 15) tu_X6 tyX6_ok nmX6 rfl (by decide) tw_280 rfl (by decide +kernel) q_oki_t dF6_note_14 ?_
    refine s_nw ?_
    exact s_F6_note_17 X hJ

def sp_F6_note : qS := fun av w Q => ∃ (rln : Int) (rfa : Int) (rpl : Int) (rst : Int) (rnx : Int) (rtk : Int) (rnm : Int) (rnp : Int) (rnd : Int) (a : Int) (b : Int), av = [q2 0, q1 a, q1 b] ∧ w = [.inr (6, [q2 1, q2 2, q2 3, q2 4, q2 5, q2 6, q1 rln, q1 rfa, q1 rpl, q1 rst, q1 rnx, q1 rtk, q1 rnm, q1 rnp, q1 rnd])] ∧ (∀ (x_rfa : Int) (x_rpl : Int), (rfa = 0 ∧ x_rfa = a ∧ x_rpl = b ∨ ¬ rfa = 0 ∧ x_rfa = rfa ∧ x_rpl = rpl) → Q none ([.inr (6, [q2 1, q2 2, q2 3, q2 4, q2 5, q2 6, q1 rln, q1 x_rfa, q1 x_rpl, q1 rst, q1 rnx, q1 rtk, q1 rnm, q1 rnp, q1 rnd])]))
set_option maxHeartbeats 4000000 in
set_option maxRecDepth 100000 in
theorem m_F6_note (l : Launch) : q_M l yX6_note cX6_note 3 none 0 0 sp_F6_note := by
  refine q_meth (by decide) (fun av w Q h => by obtain ⟨rln, rfa, rpl, rst, rnx, rtk, rnm, rnp, rnd, a, b, rfl, rfl, hQ⟩ := h; exact Nat.le_of_ble_eq_true rfl) ?_
  intro p e R s m args below meth c dC dI k g A av w Q hsp oka okw X
  obtain ⟨rln, rfa, rpl, rst, rnx, rtk, rnm, rnp, rnd, a, b, rfl, rfl, hQ⟩ := hsp
  have o_a : -2147483648 ≤ a ∧ a ≤ 2147483647 := oka _ (List.mem_of_getElem? (i := 1) rfl)
  have o_b : -2147483648 ≤ b ∧ b ≤ 2147483647 := oka _ (List.mem_of_getElem? (i := 2) rfl)
  refine s_mono (s_F6_note_0 X (J := fun _ _ _ _ => False) (fun d => s_cutF)) ?_
  rintro lv st w' ⟨rfl, rfl, rfl⟩
  apply And.intro
  · intro hq_4
    exact hQ _ _ (by first | assumption | exact q_rg_up (by assumption) (by omega) | exact q_rg_up (q_rg_up (by assumption) (by omega)) (by omega) | exact q_rg_cpy (by assumption) (by assumption) | omega)
  · intro hq_4
    apply And.intro
    · exact trivial
    apply And.intro
    · exact trivial
    exact hQ _ _ (by first | assumption | exact q_rg_up (by assumption) (by omega) | exact q_rg_up (q_rg_up (by assumption) (by omega)) (by omega) | exact q_rg_cpy (by assumption) (by assumption) | omega)

theorem dF6_readSlot_0 : decode cX6_readSlot 0 = .ok (.aload_n 0, 1) := by decide +kernel
theorem dF6_readSlot_1 : decode cX6_readSlot 1 = .ok (.invokevirtual 55, 3) := by decide +kernel
theorem dF6_readSlot_4 : decode cX6_readSlot 4 = .ok (.iconst 3, 1) := by decide +kernel
theorem dF6_readSlot_5 : decode cX6_readSlot 5 = .ok (.iload_n 1, 1) := by decide +kernel
theorem dF6_readSlot_6 : decode cX6_readSlot 6 = .ok (.imul, 1) := by decide +kernel
theorem dF6_readSlot_7 : decode cX6_readSlot 7 = .ok (.iload_n 2, 1) := by decide +kernel
theorem dF6_readSlot_8 : decode cX6_readSlot 8 = .ok (.iadd, 1) := by decide +kernel
theorem dF6_readSlot_9 : decode cX6_readSlot 9 = .ok (.istore_n 3, 1) := by decide +kernel
theorem dF6_readSlot_10 : decode cX6_readSlot 10 = .ok (.getstatic 200, 3) := by decide +kernel
theorem dF6_readSlot_13 : decode cX6_readSlot 13 = .ok (.iload_n 3, 1) := by decide +kernel
theorem dF6_readSlot_14 : decode cX6_readSlot 14 = .ok (.iaload, 1) := by decide +kernel
theorem dF6_readSlot_15 : decode cX6_readSlot 15 = .ok (.iconst 2, 1) := by decide +kernel
theorem dF6_readSlot_16 : decode cX6_readSlot 16 = .ok (.if_icmp .ne 29, 3) := by decide +kernel
theorem dF6_readSlot_19 : decode cX6_readSlot 19 = .ok (.aload_n 0, 1) := by decide +kernel
theorem dF6_readSlot_20 : decode cX6_readSlot 20 = .ok (.getfield 39, 3) := by decide +kernel
theorem dF6_readSlot_23 : decode cX6_readSlot 23 = .ok (.iload_n 2, 1) := by decide +kernel
theorem dF6_readSlot_24 : decode cX6_readSlot 24 = .ok (.aload_n 0, 1) := by decide +kernel
theorem dF6_readSlot_25 : decode cX6_readSlot 25 = .ok (.invokevirtual 210, 3) := by decide +kernel
theorem dF6_readSlot_28 : decode cX6_readSlot 28 = .ok (.iastore, 1) := by decide +kernel
theorem dF6_readSlot_29 : decode cX6_readSlot 29 = .ok (.aload_n 0, 1) := by decide +kernel
theorem dF6_readSlot_30 : decode cX6_readSlot 30 = .ok (.getfield 39, 3) := by decide +kernel
theorem dF6_readSlot_33 : decode cX6_readSlot 33 = .ok (.iload_n 2, 1) := by decide +kernel
theorem dF6_readSlot_34 : decode cX6_readSlot 34 = .ok (.iaload, 1) := by decide +kernel
theorem dF6_readSlot_35 : decode cX6_readSlot 35 = .ok (.iconst (-1), 1) := by decide +kernel
theorem dF6_readSlot_36 : decode cX6_readSlot 36 = .ok (.if_icmp .eq 7, 3) := by decide +kernel
theorem dF6_readSlot_39 : decode cX6_readSlot 39 = .ok (.iconst 1, 1) := by decide +kernel
theorem dF6_readSlot_40 : decode cX6_readSlot 40 = .ok (.goto 4, 3) := by decide +kernel
theorem dF6_readSlot_43 : decode cX6_readSlot 43 = .ok (.iconst 0, 1) := by decide +kernel
theorem dF6_readSlot_44 : decode cX6_readSlot 44 = .ok (.ireturn, 1) := by decide +kernel
theorem dF6_readSlot_45 : decode cX6_readSlot 45 = .ok (.getstatic 200, 3) := by decide +kernel
theorem dF6_readSlot_48 : decode cX6_readSlot 48 = .ok (.iload_n 3, 1) := by decide +kernel
theorem dF6_readSlot_49 : decode cX6_readSlot 49 = .ok (.iaload, 1) := by decide +kernel
theorem dF6_readSlot_50 : decode cX6_readSlot 50 = .ok (.iconst 1, 1) := by decide +kernel
theorem dF6_readSlot_51 : decode cX6_readSlot 51 = .ok (.if_icmp .ne 11, 3) := by decide +kernel
theorem dF6_readSlot_54 : decode cX6_readSlot 54 = .ok (.aload_n 0, 1) := by decide +kernel
theorem dF6_readSlot_55 : decode cX6_readSlot 55 = .ok (.getfield 58, 3) := by decide +kernel
theorem dF6_readSlot_58 : decode cX6_readSlot 58 = .ok (.iconst 2, 1) := by decide +kernel
theorem dF6_readSlot_59 : decode cX6_readSlot 59 = .ok (.if_icmp .eq 5, 3) := by decide +kernel
theorem dF6_readSlot_62 : decode cX6_readSlot 62 = .ok (.iconst 0, 1) := by decide +kernel
theorem dF6_readSlot_63 : decode cX6_readSlot 63 = .ok (.ireturn, 1) := by decide +kernel
theorem dF6_readSlot_64 : decode cX6_readSlot 64 = .ok (.aload_n 0, 1) := by decide +kernel
theorem dF6_readSlot_65 : decode cX6_readSlot 65 = .ok (.getfield 39, 3) := by decide +kernel
theorem dF6_readSlot_68 : decode cX6_readSlot 68 = .ok (.iload_n 2, 1) := by decide +kernel
theorem dF6_readSlot_69 : decode cX6_readSlot 69 = .ok (.aload_n 0, 1) := by decide +kernel
theorem dF6_readSlot_70 : decode cX6_readSlot 70 = .ok (.getfield 130, 3) := by decide +kernel
theorem dF6_readSlot_73 : decode cX6_readSlot 73 = .ok (.iastore, 1) := by decide +kernel
theorem dF6_readSlot_74 : decode cX6_readSlot 74 = .ok (.iload_n 1, 1) := by decide +kernel
theorem dF6_readSlot_75 : decode cX6_readSlot 75 = .ok (.iconst 5, 1) := by decide +kernel
theorem dF6_readSlot_76 : decode cX6_readSlot 76 = .ok (.if_icmp .eq 9, 3) := by decide +kernel
theorem dF6_readSlot_79 : decode cX6_readSlot 79 = .ok (.iload_n 1, 1) := by decide +kernel
theorem dF6_readSlot_80 : decode cX6_readSlot 80 = .ok (.bipush 13, 2) := by decide +kernel
theorem dF6_readSlot_82 : decode cX6_readSlot 82 = .ok (.if_icmp .ne 25, 3) := by decide +kernel
theorem dF6_readSlot_85 : decode cX6_readSlot 85 = .ok (.iload_n 2, 1) := by decide +kernel
theorem dF6_readSlot_86 : decode cX6_readSlot 86 = .ok (.iconst 1, 1) := by decide +kernel
theorem dF6_readSlot_87 : decode cX6_readSlot 87 = .ok (.if_icmp .ne 20, 3) := by decide +kernel
theorem dF6_readSlot_90 : decode cX6_readSlot 90 = .ok (.aload_n 0, 1) := by decide +kernel
theorem dF6_readSlot_91 : decode cX6_readSlot 91 = .ok (.getfield 130, 3) := by decide +kernel
theorem dF6_readSlot_94 : decode cX6_readSlot 94 = .ok (.aload_n 0, 1) := by decide +kernel
theorem dF6_readSlot_95 : decode cX6_readSlot 95 = .ok (.getfield 39, 3) := by decide +kernel
theorem dF6_readSlot_98 : decode cX6_readSlot 98 = .ok (.iconst 0, 1) := by decide +kernel
theorem dF6_readSlot_99 : decode cX6_readSlot 99 = .ok (.iaload, 1) := by decide +kernel
theorem dF6_readSlot_100 : decode cX6_readSlot 100 = .ok (.if_icmp .ne 7, 3) := by decide +kernel
theorem dF6_readSlot_103 : decode cX6_readSlot 103 = .ok (.iconst 1, 1) := by decide +kernel
theorem dF6_readSlot_104 : decode cX6_readSlot 104 = .ok (.goto 4, 3) := by decide +kernel
theorem dF6_readSlot_107 : decode cX6_readSlot 107 = .ok (.iconst 0, 1) := by decide +kernel
theorem dF6_readSlot_108 : decode cX6_readSlot 108 = .ok (.istore 4, 2) := by decide +kernel
theorem dF6_readSlot_110 : decode cX6_readSlot 110 = .ok (.aload_n 0, 1) := by decide +kernel
theorem dF6_readSlot_111 : decode cX6_readSlot 111 = .ok (.getfield 130, 3) := by decide +kernel
theorem dF6_readSlot_114 : decode cX6_readSlot 114 = .ok (.getstatic 213, 3) := by decide +kernel
theorem dF6_readSlot_117 : decode cX6_readSlot 117 = .ok (.iload_n 3, 1) := by decide +kernel
theorem dF6_readSlot_118 : decode cX6_readSlot 118 = .ok (.iaload, 1) := by decide +kernel
theorem dF6_readSlot_119 : decode cX6_readSlot 119 = .ok (.if_icmp .lt 20, 3) := by decide +kernel
theorem dF6_readSlot_122 : decode cX6_readSlot 122 = .ok (.aload_n 0, 1) := by decide +kernel
theorem dF6_readSlot_123 : decode cX6_readSlot 123 = .ok (.getfield 130, 3) := by decide +kernel
theorem dF6_readSlot_126 : decode cX6_readSlot 126 = .ok (.getstatic 216, 3) := by decide +kernel
theorem dF6_readSlot_129 : decode cX6_readSlot 129 = .ok (.iload_n 3, 1) := by decide +kernel
theorem dF6_readSlot_130 : decode cX6_readSlot 130 = .ok (.iaload, 1) := by decide +kernel
theorem dF6_readSlot_131 : decode cX6_readSlot 131 = .ok (.if_icmp .gt 8, 3) := by decide +kernel
theorem dF6_readSlot_134 : decode cX6_readSlot 134 = .ok (.iload 4, 2) := by decide +kernel
theorem dF6_readSlot_136 : decode cX6_readSlot 136 = .ok (.ifCond .eq 12, 3) := by decide +kernel
theorem dF6_readSlot_139 : decode cX6_readSlot 139 = .ok (.aload_n 0, 1) := by decide +kernel
theorem dF6_readSlot_140 : decode cX6_readSlot 140 = .ok (.iconst 2, 1) := by decide +kernel
theorem dF6_readSlot_141 : decode cX6_readSlot 141 = .ok (.aload_n 0, 1) := by decide +kernel
theorem dF6_readSlot_142 : decode cX6_readSlot 142 = .ok (.getfield 72, 3) := by decide +kernel
theorem dF6_readSlot_145 : decode cX6_readSlot 145 = .ok (.invokevirtual 106, 3) := by decide +kernel
theorem dF6_readSlot_148 : decode cX6_readSlot 148 = .ok (.iconst 1, 1) := by decide +kernel
theorem dF6_readSlot_149 : decode cX6_readSlot 149 = .ok (.ireturn, 1) := by decide +kernel
def is_F6_readSlot : Nat → List Nat := fun d => []
set_option maxRecDepth 100000 in
def b_F6_readSlot_148 (J : Nat → List qV → List qV → qW → Prop) (Q : qR) : qK := x_int 1 (x_zret Q)
set_option maxRecDepth 100000 in
theorem s_F6_readSlot_148 {p : Program} {l : Launch} {e : Env} {R : Room} {s : State} {m : MethodId} {args : Array Value} {below : List Frame} {meth : Method} {c : Code} {nW : Nat} {dC : Nat → ClassId} {dI : Nat → Nat → Nat} {k : Nat → ClassId} {g : Nat → Nat} {A : Nat → Prop} {J : Nat → List qV → List qV → qW → Prop} {Q : qR} (X : q_X p R s m args meth c cX6_readSlot 5 nW 6 127 RX6 (some .boolean) dC dI k g A) (hJ : ∀ d : Nat, q_Sd p l e R s m args below meth c 5 nW dC dI k g A (MQ below (q_post (dC, dI) k g nW Q A) args s 0 0 A) d (x_cut (is_F6_readSlot d) (J d))) : q_Sd p l e R s m args below meth c 5 nW dC dI k g A (MQ below (q_post (dC, dI) k g nW Q A) args s 0 0 A) 148 (b_F6_readSlot_148 J Q) := by
  unfold b_F6_readSlot_148
  refine s_iconst X ⟨by decide, by decide⟩ dF6_readSlot_148 ?_
  exact s_zret X dF6_readSlot_149
set_option maxRecDepth 100000 in
def b_F6_readSlot_139 (J : Nat → List qV → List qV → qW → Prop) (Q : qR) : qK := x_aload 0 (x_int 2 (x_aload 0 (x_get 6 9 (x_call (some 6) 3 sp_F6_note (x_nw (b_F6_readSlot_148 J Q))))))
set_option maxRecDepth 100000 in
theorem s_F6_readSlot_139 {p : Program} {l : Launch} {e : Env} {R : Room} {s : State} {m : MethodId} {args : Array Value} {below : List Frame} {meth : Method} {c : Code} {nW : Nat} {dC : Nat → ClassId} {dI : Nat → Nat → Nat} {k : Nat → ClassId} {g : Nat → Nat} {A : Nat → Prop} {J : Nat → List qV → List qV → qW → Prop} {Q : qR} (X : q_X p R s m args meth c cX6_readSlot 5 nW 6 127 RX6 (some .boolean) dC dI k g A) (hJ : ∀ d : Nat, q_Sd p l e R s m args below meth c 5 nW dC dI k g A (MQ below (q_post (dC, dI) k g nW Q A) args s 0 0 A) d (x_cut (is_F6_readSlot d) (J d))) : q_Sd p l e R s m args below meth c 5 nW dC dI k g A (MQ below (q_post (dC, dI) k g nW Q A) args s 0 0 A) 139 (b_F6_readSlot_139 J Q) := by
  unfold b_F6_readSlot_139
  refine s_aload_n X rfl dF6_readSlot_139 ?_
  refine s_iconst X ⟨by decide, by decide⟩ dF6_readSlot_140 ?_
  refine s_aload_n X rfl dF6_readSlot_141 ?_
  refine s_get X (T := TX6) (C := RX6) (N := 15) tu_X6 rfl (by decide) tw_282 dF6_readSlot_142 ?_
  refine s_callV X (m_F6_note l) tw_391 tw_392 tw_1514 tw_128 tw_393 rfl (by decide +kernel) ⟨by decide, by decide⟩ dF6_readSlot_145 ?_
  refine s_nw ?_
  exact s_F6_readSlot_148 X hJ
set_option maxRecDepth 100000 in
def b_F6_readSlot_108 (J : Nat → List qV → List qV → qW → Prop) (Q : qR) : qK := x_istore 4 (x_aload 0 (x_get 6 12 (x_stat 2 (x_iload 3 (x_sald 2 qs_2 (x_icmp_lt (b_F6_readSlot_139 J Q) (x_aload 0 (x_get 6 12 (x_stat 3 (x_iload 3 (x_sald 3 qs_3 (x_icmp_gt (b_F6_readSlot_139 J Q) (x_iload 4 (x_if_eq (b_F6_readSlot_148 J Q) (b_F6_readSlot_139 J Q)))))))))))))))
set_option maxRecDepth 100000 in
theorem s_F6_readSlot_108 {p : Program} {l : Launch} {e : Env} {R : Room} {s : State} {m : MethodId} {args : Array Value} {below : List Frame} {meth : Method} {c : Code} {nW : Nat} {dC : Nat → ClassId} {dI : Nat → Nat → Nat} {k : Nat → ClassId} {g : Nat → Nat} {A : Nat → Prop} {J : Nat → List qV → List qV → qW → Prop} {Q : qR} (X : q_X p R s m args meth c cX6_readSlot 5 nW 6 127 RX6 (some .boolean) dC dI k g A) (hJ : ∀ d : Nat, q_Sd p l e R s m args below meth c 5 nW dC dI k g A (MQ below (q_post (dC, dI) k g nW Q A) args s 0 0 A) d (x_cut (is_F6_readSlot d) (J d))) : q_Sd p l e R s m args below meth c 5 nW dC dI k g A (MQ below (q_post (dC, dI) k g nW Q A) args s 0 0 A) 108 (b_F6_readSlot_108 J Q) := by
  unfold b_F6_readSlot_108
  refine s_istore X (by decide) dF6_readSlot_108 ?_
  refine s_aload_n X rfl dF6_readSlot_110 ?_
  refine s_get X (T := TX6) (C := RX6) (N := 15) tu_X6 rfl (by decide) tw_285 dF6_readSlot_111 ?_
  refine s_stat X (nm := _) (xs := qs_2) rfl (List.mem_of_getElem? (i := 1) rfl) dF6_readSlot_114 ?_
  refine s_iload_n X rfl dF6_readSlot_117 ?_
  refine s_sald X (nm := _) rfl qs_2_ok dF6_readSlot_118 ?_
  refine s_icmp_lt X (tgt := 139) dF6_readSlot_119 (by decide) ?_ ?_
  · exact s_F6_readSlot_139 X hJ
  · refine s_aload_n X rfl dF6_readSlot_122 ?_
    refine s_get X (T := TX6) (C := RX6) (N := 15) tu_X6 rfl (by decide) tw_285 dF6_readSlot_123 ?_
    refine s_stat X (nm := _) (xs := qs_3) rfl (List.mem_of_getElem? (i := 2) rfl) dF6_readSlot_126 ?_
    refine s_iload_n X rfl dF6_readSlot_129 ?_
    refine s_sald X (nm := _) rfl qs_3_ok dF6_readSlot_130 ?_
    refine s_icmp_gt X (tgt := 139) dF6_readSlot_131 (by decide) ?_ ?_
    · exact s_F6_readSlot_139 X hJ
    · refine s_iload X dF6_readSlot_134 ?_
      refine s_if_eq X (tgt := 148) dF6_readSlot_136 (by decide) ?_ ?_
      · exact s_F6_readSlot_148 X hJ
      · exact s_F6_readSlot_139 X hJ
set_option maxRecDepth 100000 in
def b_F6_readSlot_107 (J : Nat → List qV → List qV → qW → Prop) (Q : qR) : qK := x_int 0 (b_F6_readSlot_108 J Q)
set_option maxRecDepth 100000 in
theorem s_F6_readSlot_107 {p : Program} {l : Launch} {e : Env} {R : Room} {s : State} {m : MethodId} {args : Array Value} {below : List Frame} {meth : Method} {c : Code} {nW : Nat} {dC : Nat → ClassId} {dI : Nat → Nat → Nat} {k : Nat → ClassId} {g : Nat → Nat} {A : Nat → Prop} {J : Nat → List qV → List qV → qW → Prop} {Q : qR} (X : q_X p R s m args meth c cX6_readSlot 5 nW 6 127 RX6 (some .boolean) dC dI k g A) (hJ : ∀ d : Nat, q_Sd p l e R s m args below meth c 5 nW dC dI k g A (MQ below (q_post (dC, dI) k g nW Q A) args s 0 0 A) d (x_cut (is_F6_readSlot d) (J d))) : q_Sd p l e R s m args below meth c 5 nW dC dI k g A (MQ below (q_post (dC, dI) k g nW Q A) args s 0 0 A) 107 (b_F6_readSlot_107 J Q) := by
  unfold b_F6_readSlot_107
  refine s_iconst X ⟨by decide, by decide⟩ dF6_readSlot_107 ?_
  exact s_F6_readSlot_108 X hJ
set_option maxRecDepth 100000 in
def b_F6_readSlot_85 (J : Nat → List qV → List qV → qW → Prop) (Q : qR) : qK := x_iload 2 (x_int 1 (x_icmp_ne (b_F6_readSlot_107 J Q) (x_aload 0 (x_get 6 12 (x_aload 0 (x_get 6 4 (x_int 0 (x_iald (x_icmp_ne (b_F6_readSlot_107 J Q) (x_int 1 (b_F6_readSlot_108 J Q)))))))))))
set_option maxRecDepth 100000 in
theorem s_F6_readSlot_85 {p : Program} {l : Launch} {e : Env} {R : Room} {s : State} {m : MethodId} {args : Array Value} {below : List Frame} {meth : Method} {c : Code} {nW : Nat} {dC : Nat → ClassId} {dI : Nat → Nat → Nat} {k : Nat → ClassId} {g : Nat → Nat} {A : Nat → Prop} {J : Nat → List qV → List qV → qW → Prop} {Q : qR} (X : q_X p R s m args meth c cX6_readSlot 5 nW 6 127 RX6 (some .boolean) dC dI k g A) (hJ : ∀ d : Nat, q_Sd p l e R s m args below meth c 5 nW dC dI k g A (MQ below (q_post (dC, dI) k g nW Q A) args s 0 0 A) d (x_cut (is_F6_readSlot d) (J d))) : q_Sd p l e R s m args below meth c 5 nW dC dI k g A (MQ below (q_post (dC, dI) k g nW Q A) args s 0 0 A) 85 (b_F6_readSlot_85 J Q) := by
  unfold b_F6_readSlot_85
  refine s_iload_n X rfl dF6_readSlot_85 ?_
  refine s_iconst X ⟨by decide, by decide⟩ dF6_readSlot_86 ?_
  refine s_icmp_ne X (tgt := 107) dF6_readSlot_87 (by decide) ?_ ?_
  · exact s_F6_readSlot_107 X hJ
  · refine s_aload_n X rfl dF6_readSlot_90 ?_
    refine s_get X (T := TX6) (C := RX6) (N := 15) tu_X6 rfl (by decide) tw_285 dF6_readSlot_91 ?_
    refine s_aload_n X rfl dF6_readSlot_94 ?_
    refine s_get X (T := TX6) (C := RX6) (N := 15) tu_X6 rfl (by decide) tw_275 dF6_readSlot_95 ?_
    refine s_iconst X ⟨by decide, by decide⟩ dF6_readSlot_98 ?_
    refine s_iald X dF6_readSlot_99 ?_
    refine s_icmp_ne X (tgt := 107) dF6_readSlot_100 (by decide) ?_ ?_
    · exact s_F6_readSlot_107 X hJ
    · refine s_iconst X ⟨by decide, by decide⟩ dF6_readSlot_103 ?_
      refine s_goto X (tgt := 108) dF6_readSlot_104 (by decide) ?_
      exact s_F6_readSlot_108 X hJ
set_option maxRecDepth 100000 in
def b_F6_readSlot_62 (J : Nat → List qV → List qV → qW → Prop) (Q : qR) : qK := x_int 0 (x_zret Q)
set_option maxRecDepth 100000 in
theorem s_F6_readSlot_62 {p : Program} {l : Launch} {e : Env} {R : Room} {s : State} {m : MethodId} {args : Array Value} {below : List Frame} {meth : Method} {c : Code} {nW : Nat} {dC : Nat → ClassId} {dI : Nat → Nat → Nat} {k : Nat → ClassId} {g : Nat → Nat} {A : Nat → Prop} {J : Nat → List qV → List qV → qW → Prop} {Q : qR} (X : q_X p R s m args meth c cX6_readSlot 5 nW 6 127 RX6 (some .boolean) dC dI k g A) (hJ : ∀ d : Nat, q_Sd p l e R s m args below meth c 5 nW dC dI k g A (MQ below (q_post (dC, dI) k g nW Q A) args s 0 0 A) d (x_cut (is_F6_readSlot d) (J d))) : q_Sd p l e R s m args below meth c 5 nW dC dI k g A (MQ below (q_post (dC, dI) k g nW Q A) args s 0 0 A) 62 (b_F6_readSlot_62 J Q) := by
  unfold b_F6_readSlot_62
  refine s_iconst X ⟨by decide, by decide⟩ dF6_readSlot_62 ?_
  exact s_zret X dF6_readSlot_63
set_option maxRecDepth 100000 in
def b_F6_readSlot_44 (J : Nat → List qV → List qV → qW → Prop) (Q : qR) : qK := x_zret Q
set_option maxRecDepth 100000 in
theorem s_F6_readSlot_44 {p : Program} {l : Launch} {e : Env} {R : Room} {s : State} {m : MethodId} {args : Array Value} {below : List Frame} {meth : Method} {c : Code} {nW : Nat} {dC : Nat → ClassId} {dI : Nat → Nat → Nat} {k : Nat → ClassId} {g : Nat → Nat} {A : Nat → Prop} {J : Nat → List qV → List qV → qW → Prop} {Q : qR} (X : q_X p R s m args meth c cX6_readSlot 5 nW 6 127 RX6 (some .boolean) dC dI k g A) (hJ : ∀ d : Nat, q_Sd p l e R s m args below meth c 5 nW dC dI k g A (MQ below (q_post (dC, dI) k g nW Q A) args s 0 0 A) d (x_cut (is_F6_readSlot d) (J d))) : q_Sd p l e R s m args below meth c 5 nW dC dI k g A (MQ below (q_post (dC, dI) k g nW Q A) args s 0 0 A) 44 (b_F6_readSlot_44 J Q) := by
  unfold b_F6_readSlot_44
  exact s_zret X dF6_readSlot_44
set_option maxRecDepth 100000 in
def b_F6_readSlot_36 (J : Nat → List qV → List qV → qW → Prop) (Q : qR) : qK := x_icmp_eq (x_int 0 (b_F6_readSlot_44 J Q)) (x_int 1 (b_F6_readSlot_44 J Q))
set_option maxRecDepth 100000 in
theorem s_F6_readSlot_36 {p : Program} {l : Launch} {e : Env} {R : Room} {s : State} {m : MethodId} {args : Array Value} {below : List Frame} {meth : Method} {c : Code} {nW : Nat} {dC : Nat → ClassId} {dI : Nat → Nat → Nat} {k : Nat → ClassId} {g : Nat → Nat} {A : Nat → Prop} {J : Nat → List qV → List qV → qW → Prop} {Q : qR} (X : q_X p R s m args meth c cX6_readSlot 5 nW 6 127 RX6 (some .boolean) dC dI k g A) (hJ : ∀ d : Nat, q_Sd p l e R s m args below meth c 5 nW dC dI k g A (MQ below (q_post (dC, dI) k g nW Q A) args s 0 0 A) d (x_cut (is_F6_readSlot d) (J d))) : q_Sd p l e R s m args below meth c 5 nW dC dI k g A (MQ below (q_post (dC, dI) k g nW Q A) args s 0 0 A) 36 (b_F6_readSlot_36 J Q) := by
  unfold b_F6_readSlot_36
  refine s_icmp_eq X (tgt := 43) dF6_readSlot_36 (by decide) ?_ ?_
  · refine s_iconst X ⟨by decide, by decide⟩ dF6_readSlot_43 ?_
    exact s_F6_readSlot_44 X hJ
  · refine s_iconst X ⟨by decide, by decide⟩ dF6_readSlot_39 ?_
    refine s_goto X (tgt := 44) dF6_readSlot_40 (by decide) ?_
    exact s_F6_readSlot_44 X hJ
set_option maxRecDepth 100000 in
def b_F6_readSlot_0 (J : Nat → List qV → List qV → qW → Prop) (Q : qR) : qK := x_aload 0 (x_call (some 6) 1 sp_F6_advance (x_nw (x_int 3 (x_iload 1 (x_imul (x_iload 2 (x_iadd (x_istore 3 (x_stat 1 (x_iload 3 (x_sald 1 qs_1 (x_int 2 (x_icmp_ne (x_stat 1 (x_iload 3 (x_sald 1 qs_1 (x_int 1 (x_icmp_ne (b_F6_readSlot_62 J Q) (x_aload 0 (x_get 6 11 (x_int 2 (x_icmp_eq (x_aload 0 (x_get 6 4 (x_iload 2 (x_aload 0 (x_get 6 12 (x_iast (x_nw (x_iload 1 (x_int 5 (x_icmp_eq (b_F6_readSlot_85 J Q) (x_iload 1 (x_int 13 (x_icmp_ne (b_F6_readSlot_107 J Q) (b_F6_readSlot_85 J Q)))))))))))))) (b_F6_readSlot_62 J Q)))))))))) (x_aload 0 (x_get 6 4 (x_iload 2 (x_aload 0 (x_callr (some 6) 1 spr_F6_offenceWord (x_iast (x_nw (x_aload 0 (x_get 6 4 (x_iload 2 (x_iald (x_int (-1) (b_F6_readSlot_36 J Q))))))))))))))))))))))))))
set_option maxRecDepth 100000 in
theorem s_F6_readSlot_0 {p : Program} {l : Launch} {e : Env} {R : Room} {s : State} {m : MethodId} {args : Array Value} {below : List Frame} {meth : Method} {c : Code} {nW : Nat} {dC : Nat → ClassId} {dI : Nat → Nat → Nat} {k : Nat → ClassId} {g : Nat → Nat} {A : Nat → Prop} {J : Nat → List qV → List qV → qW → Prop} {Q : qR} (X : q_X p R s m args meth c cX6_readSlot 5 nW 6 127 RX6 (some .boolean) dC dI k g A) (hJ : ∀ d : Nat, q_Sd p l e R s m args below meth c 5 nW dC dI k g A (MQ below (q_post (dC, dI) k g nW Q A) args s 0 0 A) d (x_cut (is_F6_readSlot d) (J d))) : q_Sd p l e R s m args below meth c 5 nW dC dI k g A (MQ below (q_post (dC, dI) k g nW Q A) args s 0 0 A) 0 (b_F6_readSlot_0 J Q) := by
  unfold b_F6_readSlot_0
  refine s_aload_n X rfl dF6_readSlot_0 ?_
  refine s_callV X (m_F6_advance l) tw_373 tw_374 tw_1507 tw_128 tw_375 rfl (by decide +kernel) ⟨by decide, by decide⟩ dF6_readSlot_1 ?_
  refine s_nw ?_
  refine s_iconst X ⟨by decide, by decide⟩ dF6_readSlot_4 ?_
  refine s_iload_n X rfl dF6_readSlot_5 ?_
  refine s_imul X dF6_readSlot_6 ?_
  refine s_iload_n X rfl dF6_readSlot_7 ?_
  refine s_iadd X dF6_readSlot_8 ?_
  refine s_istore_n X rfl (by decide) dF6_readSlot_9 ?_
  refine s_stat X (nm := _) (xs := qs_1) rfl (List.mem_of_getElem? (i := 0) rfl) dF6_readSlot_10 ?_
  refine s_iload_n X rfl dF6_readSlot_13 ?_
  refine s_sald X (nm := _) rfl qs_1_ok dF6_readSlot_14 ?_
  refine s_iconst X ⟨by decide, by decide⟩ dF6_readSlot_15 ?_
  refine s_icmp_ne X (tgt := 45) dF6_readSlot_16 (by decide) ?_ ?_
  · refine s_stat X (nm := _) (xs := qs_1) rfl (List.mem_of_getElem? (i := 0) rfl) dF6_readSlot_45 ?_
    refine s_iload_n X rfl dF6_readSlot_48 ?_
    refine s_sald X (nm := _) rfl qs_1_ok dF6_readSlot_49 ?_
    refine s_iconst X ⟨by decide, by decide⟩ dF6_readSlot_50 ?_
    refine s_icmp_ne X (tgt := 62) dF6_readSlot_51 (by decide) ?_ ?_
    · exact s_F6_readSlot_62 X hJ
    · refine s_aload_n X rfl dF6_readSlot_54 ?_
      refine s_get X (T := TX6) (C := RX6) (N := 15) tu_X6 rfl (by decide) tw_284 dF6_readSlot_55 ?_
      refine s_iconst X ⟨by decide, by decide⟩ dF6_readSlot_58 ?_
      refine s_icmp_eq X (tgt := 64) dF6_readSlot_59 (by decide) ?_ ?_
      · refine s_aload_n X rfl dF6_readSlot_64 ?_
        refine s_get X (T := TX6) (C := RX6) (N := 15) tu_X6 rfl (by decide) tw_275 dF6_readSlot_65 ?_
        refine s_iload_n X rfl dF6_readSlot_68 ?_
        refine s_aload_n X rfl dF6_readSlot_69 ?_
        refine s_get X (T := TX6) (C := RX6) (N := 15) tu_X6 rfl (by decide) tw_285 dF6_readSlot_70 ?_
        refine s_iast X dF6_readSlot_73 ?_
        refine s_nw ?_
        refine s_iload_n X rfl dF6_readSlot_74 ?_
        refine s_iconst X ⟨by decide, by decide⟩ dF6_readSlot_75 ?_
        refine s_icmp_eq X (tgt := 85) dF6_readSlot_76 (by decide) ?_ ?_
        · exact s_F6_readSlot_85 X hJ
        · refine s_iload_n X rfl dF6_readSlot_79 ?_
          refine s_bipush X ⟨by decide, by decide⟩ (by decide) dF6_readSlot_80 ?_
          refine s_icmp_ne X (tgt := 107) dF6_readSlot_82 (by decide) ?_ ?_
          · exact s_F6_readSlot_107 X hJ
          · exact s_F6_readSlot_85 X hJ
      · exact s_F6_readSlot_62 X hJ
  · refine s_aload_n X rfl dF6_readSlot_19 ?_
    refine s_get X (T := TX6) (C := RX6) (N := 15) tu_X6 rfl (by decide) tw_275 dF6_readSlot_20 ?_
    refine s_iload_n X rfl dF6_readSlot_23 ?_
    refine s_aload_n X rfl dF6_readSlot_24 ?_
    refine s_callVr X (m_F6_offenceWord l) tw_466 tw_467 tw_1515 tw_128 tw_468 rfl (by decide +kernel) ⟨by decide, by decide⟩ dF6_readSlot_25 ?_
    refine s_iast X dF6_readSlot_28 ?_
    refine s_nw ?_
    refine s_aload_n X rfl dF6_readSlot_29 ?_
    refine s_get X (T := TX6) (C := RX6) (N := 15) tu_X6 rfl (by decide) tw_275 dF6_readSlot_30 ?_
    refine s_iload_n X rfl dF6_readSlot_33 ?_
    refine s_iald X dF6_readSlot_34 ?_
    refine s_iconst X ⟨by decide, by decide⟩ dF6_readSlot_35 ?_
    exact s_F6_readSlot_36 X hJ

def sp_F6_readSlot : qS := fun av w Q => ∃ (rln : Int) (rfa : Int) (rpl : Int) (rst : Int) (rnx : Int) (rtk : Int) (rnm : Int) (rnp : Int) (rnd : Int) (tp : Nat → Int) (rv : Nat → Int) (a : Int) (b : Int), av = [q2 0, q1 a, q1 b] ∧ w = [.inr (6, [q2 3, q2 4, q2 5, q2 6, q2 2, q2 1, q1 rln, q1 rfa, q1 rpl, q1 rst, q1 rnx, q1 rtk, q1 rnm, q1 rnp, q1 rnd]), .inl (1, 600, .inl tp), .inl (0, 3, .inl rv)] ∧ (0 ≤ rln ∧ rln ≤ 600 ∧ 0 ≤ rnx ∧ rnx ≤ rln ∧ 0 ≤ rst ∧ rst ≤ 600) ∧ (0 ≤ a ∧ a ≤ 16 ∧ 0 ≤ b ∧ b ≤ 2) ∧ (¬ slT a b = 0) ∧ (∀ (r : Int) (x_rst : Int) (x_rnx : Int) (x_rtk : Int) (x_rnm : Int) (x_rfa : Int) (x_rpl : Int) (x_rv : Nat → Int), (SlR (tc tp) rln rnx a b rfa rpl rv r x_rst x_rnx x_rfa x_rpl x_rv ∧ (rnx ≤ x_rnx ∧ x_rnx ≤ rln ∧ 0 ≤ x_rst ∧ x_rst ≤ 600)) → Q (some (q1 r)) ([.inr (6, [q2 3, q2 4, q2 5, q2 6, q2 2, q2 1, q1 rln, q1 x_rfa, q1 x_rpl, q1 x_rst, q1 x_rnx, q1 x_rtk, q1 x_rnm, q1 rnp, q1 rnd]), .inl (1, 600, .inl tp), .inl (0, 3, .inl x_rv)]))
set_option maxHeartbeats 4000000 in
set_option maxRecDepth 100000 in
theorem m_F6_readSlot (l : Launch) : q_M l yX6_readSlot cX6_readSlot 5 (some .boolean) 6 127 sp_F6_readSlot := by
  refine q_meth (by decide) (fun av w Q h => by obtain ⟨rln, rfa, rpl, rst, rnx, rtk, rnm, rnp, rnd, tp, rv, a, b, rfl, rfl, hr, ha, hty, hQ⟩ := h; exact Nat.le_of_ble_eq_true rfl) ?_
  intro p e R s m args below meth c dC dI k g A av w Q hsp oka okw X
  obtain ⟨rln, rfa, rpl, rst, rnx, rtk, rnm, rnp, rnd, tp, rv, a, b, rfl, rfl, hr, ha, hty, hQ⟩ := hsp
  have o_a : -2147483648 ≤ a ∧ a ≤ 2147483647 := oka _ (List.mem_of_getElem? (i := 1) rfl)
  have o_b : -2147483648 ≤ b ∧ b ≤ 2147483647 := oka _ (List.mem_of_getElem? (i := 2) rfl)
  refine s_mono (s_F6_readSlot_0 X (J := fun _ _ _ _ => False) (fun d => s_cutF)) ?_
  rintro lv st w' ⟨rfl, rfl, rfl⟩
  refine Exists.intro [0, 1, 3, 4, 5, 6, 2] (Exists.intro [q2 0] (Exists.intro ([.inr (6, [q2 2, q2 3, q2 4, q2 5, q2 6, q2 1, q1 _, q1 _, q1 _, q1 _, q1 _, q1 _, q1 _, q1 _, q1 _]), .inl (1, 600, .inl _)]) (And.intro rfl (And.intro rfl (And.intro rfl (And.intro ⟨⟨_, rfl⟩, rfl⟩ ?_))))))
  refine Exists.intro _ (Exists.intro _ (Exists.intro _ (Exists.intro _ (Exists.intro _ (Exists.intro _ (Exists.intro _ (Exists.intro _ (Exists.intro _ (Exists.intro _ (And.intro rfl (And.intro rfl (And.intro (by first | assumption | exact q_rg_up (by assumption) (by omega) | exact q_rg_up (q_rg_up (by assumption) (by omega)) (by omega) | exact q_rg_cpy (by assumption) (by assumption) | omega) (?_)))))))))))))
  intro x_rst_1 x_rnx_1 x_rtk_1 x_rnm_1 hq_1
  intro zq_6 hq_6
  first | replace hq_6 := e_mul hq_6 (by omega) | replace hq_6 := e_rng hq_6
  intro zq_8 hq_8
  first | replace hq_8 := e_add hq_8 (by omega) | replace hq_8 := e_rng hq_8
  apply And.intro
  · exact ⟨by omega, by rw [show ((qs_1).length : Int) = 51 from rfl]; omega⟩
  intro zq_14 hq_14
  have e14 : zq_14 = slT a b := (by rw [hq_14]; unfold slT; rw [show zq_8 = 3 * a + b by omega])
  apply And.intro
  · intro hq_16
    apply And.intro
    · exact ⟨by omega, by rw [show ((qs_1).length : Int) = 51 from rfl]; omega⟩
    intro zq_49 hq_49
    have e49 : zq_49 = slT a b := by rw [hq_49]; unfold slT; rw [show zq_8 = 3 * a + b by omega]
    apply And.intro
    · intro hq_51
      apply And.intro
      · first | exact Or.inl rfl | exact Or.inr rfl | omega
      exact hQ _ _ _ _ _ _ _ _ ⟨(by first | exact SlR_o1 hq_1.1 (by omega) hq_25 (by omega) | exact SlR_o0 hq_1.1 (by omega) hq_25 (by omega) | exact SlR_n0 hq_1.1 hty (by omega) (by omega) | exact SlR_n1 (by rw [← hq_59]; exact hq_1.1) (by omega) (by omega)), by omega⟩
    · intro hq_51
      apply And.intro
      · intro hq_59
        apply And.intro
        · exact ⟨by omega, by omega⟩
        apply And.intro
        · intro hq_76
          apply And.intro
          · intro hq_87
            apply And.intro
            · exact ⟨by omega, by rw [show ((qs_2).length : Int) = 51 from rfl]; omega⟩
            intro zq_118 hq_118
            have e118 : zq_118 = slL a b := by rw [hq_118]; unfold slL; rw [show zq_8 = 3 * a + b by omega]
            apply And.intro
            · intro hq_119
              refine Exists.intro [0, 3, 4, 5, 6, 2, 1] (Exists.intro [q2 0, q1 _, q1 _] (Exists.intro ([.inr (6, [q2 1, q2 2, q2 3, q2 4, q2 5, q2 6, q1 _, q1 _, q1 _, q1 _, q1 _, q1 _, q1 _, q1 _, q1 _])]) (And.intro rfl (And.intro rfl (And.intro rfl (And.intro ⟨⟨_, rfl⟩, rfl⟩ ?_))))))
              refine Exists.intro _ (Exists.intro _ (Exists.intro _ (Exists.intro _ (Exists.intro _ (Exists.intro _ (Exists.intro _ (Exists.intro _ (Exists.intro _ (Exists.intro _ (Exists.intro _ (And.intro rfl (And.intro rfl (?_)))))))))))))
              intro x_rfa_145 x_rpl_145 hq_145
              apply And.intro
              · first | exact Or.inl rfl | exact Or.inr rfl | omega
              exact hQ _ _ _ _ _ _ _ _ ⟨(by first | exact SlR_o1 hq_1.1 (by omega) hq_25 (by omega) | exact SlR_o0 hq_1.1 (by omega) hq_25 (by omega) | exact SlR_n0 hq_1.1 hty (by omega) (by omega) | exact SlR_n1 (by rw [← hq_59]; exact hq_1.1) (by omega) (by omega)), by omega⟩
            · intro hq_119
              apply And.intro
              · exact ⟨by omega, by rw [show ((qs_3).length : Int) = 51 from rfl]; omega⟩
              intro zq_130 hq_130
              have e130 : zq_130 = slG a b := by rw [hq_130]; unfold slG; rw [show zq_8 = 3 * a + b by omega]
              apply And.intro
              · intro hq_131
                refine Exists.intro [0, 3, 4, 5, 6, 2, 1] (Exists.intro [q2 0, q1 _, q1 _] (Exists.intro ([.inr (6, [q2 1, q2 2, q2 3, q2 4, q2 5, q2 6, q1 _, q1 _, q1 _, q1 _, q1 _, q1 _, q1 _, q1 _, q1 _])]) (And.intro rfl (And.intro rfl (And.intro rfl (And.intro ⟨⟨_, rfl⟩, rfl⟩ ?_))))))
                refine Exists.intro _ (Exists.intro _ (Exists.intro _ (Exists.intro _ (Exists.intro _ (Exists.intro _ (Exists.intro _ (Exists.intro _ (Exists.intro _ (Exists.intro _ (Exists.intro _ (And.intro rfl (And.intro rfl (?_)))))))))))))
                intro x_rfa_145 x_rpl_145 hq_145
                apply And.intro
                · first | exact Or.inl rfl | exact Or.inr rfl | omega
                exact hQ _ _ _ _ _ _ _ _ ⟨(by first | exact SlR_o1 hq_1.1 (by omega) hq_25 (by omega) | exact SlR_o0 hq_1.1 (by omega) hq_25 (by omega) | exact SlR_n0 hq_1.1 hty (by omega) (by omega) | exact SlR_n1 (by rw [← hq_59]; exact hq_1.1) (by omega) (by omega)), by omega⟩
              · intro hq_131
                apply And.intro
                · intro hq_136
                  apply And.intro
                  · first | exact Or.inl rfl | exact Or.inr rfl | omega
                  exact hQ _ _ _ _ _ _ _ _ ⟨(by first | exact SlR_o1 hq_1.1 (by omega) hq_25 (by omega) | exact SlR_o0 hq_1.1 (by omega) hq_25 (by omega) | exact SlR_n0 hq_1.1 hty (by omega) (by omega) | exact SlR_n1 (by rw [← hq_59]; exact hq_1.1) (by omega) (by omega)), by omega⟩
                · intro hq_136
                  refine Exists.intro [0, 3, 4, 5, 6, 2, 1] (Exists.intro [q2 0, q1 _, q1 _] (Exists.intro ([.inr (6, [q2 1, q2 2, q2 3, q2 4, q2 5, q2 6, q1 _, q1 _, q1 _, q1 _, q1 _, q1 _, q1 _, q1 _, q1 _])]) (And.intro rfl (And.intro rfl (And.intro rfl (And.intro ⟨⟨_, rfl⟩, rfl⟩ ?_))))))
                  refine Exists.intro _ (Exists.intro _ (Exists.intro _ (Exists.intro _ (Exists.intro _ (Exists.intro _ (Exists.intro _ (Exists.intro _ (Exists.intro _ (Exists.intro _ (Exists.intro _ (And.intro rfl (And.intro rfl (?_)))))))))))))
                  intro x_rfa_145 x_rpl_145 hq_145
                  apply And.intro
                  · first | exact Or.inl rfl | exact Or.inr rfl | omega
                  exact hQ _ _ _ _ _ _ _ _ ⟨(by first | exact SlR_o1 hq_1.1 (by omega) hq_25 (by omega) | exact SlR_o0 hq_1.1 (by omega) hq_25 (by omega) | exact SlR_n0 hq_1.1 hty (by omega) (by omega) | exact SlR_n1 (by rw [← hq_59]; exact hq_1.1) (by omega) (by omega)), by omega⟩
          · intro hq_87
            apply And.intro
            · exact ⟨by omega, by omega⟩
            intro zq_99 hq_99
            have e99 : b = 1 → zq_99 = rv 0 := fun e9 => by rw [hq_99, e9]; exact q_up_n (by decide)
            apply And.intro
            · intro hq_100
              apply And.intro
              · exact ⟨by omega, by rw [show ((qs_2).length : Int) = 51 from rfl]; omega⟩
              intro zq_118 hq_118
              have e118 : zq_118 = slL a b := by rw [hq_118]; unfold slL; rw [show zq_8 = 3 * a + b by omega]
              apply And.intro
              · intro hq_119
                refine Exists.intro [0, 3, 4, 5, 6, 2, 1] (Exists.intro [q2 0, q1 _, q1 _] (Exists.intro ([.inr (6, [q2 1, q2 2, q2 3, q2 4, q2 5, q2 6, q1 _, q1 _, q1 _, q1 _, q1 _, q1 _, q1 _, q1 _, q1 _])]) (And.intro rfl (And.intro rfl (And.intro rfl (And.intro ⟨⟨_, rfl⟩, rfl⟩ ?_))))))
                refine Exists.intro _ (Exists.intro _ (Exists.intro _ (Exists.intro _ (Exists.intro _ (Exists.intro _ (Exists.intro _ (Exists.intro _ (Exists.intro _ (Exists.intro _ (Exists.intro _ (And.intro rfl (And.intro rfl (?_)))))))))))))
                intro x_rfa_145 x_rpl_145 hq_145
                apply And.intro
                · first | exact Or.inl rfl | exact Or.inr rfl | omega
                exact hQ _ _ _ _ _ _ _ _ ⟨(by first | exact SlR_o1 hq_1.1 (by omega) hq_25 (by omega) | exact SlR_o0 hq_1.1 (by omega) hq_25 (by omega) | exact SlR_n0 hq_1.1 hty (by omega) (by omega) | exact SlR_n1 (by rw [← hq_59]; exact hq_1.1) (by omega) (by omega)), by omega⟩
              · intro hq_119
                apply And.intro
                · exact ⟨by omega, by rw [show ((qs_3).length : Int) = 51 from rfl]; omega⟩
                intro zq_130 hq_130
                have e130 : zq_130 = slG a b := by rw [hq_130]; unfold slG; rw [show zq_8 = 3 * a + b by omega]
                apply And.intro
                · intro hq_131
                  refine Exists.intro [0, 3, 4, 5, 6, 2, 1] (Exists.intro [q2 0, q1 _, q1 _] (Exists.intro ([.inr (6, [q2 1, q2 2, q2 3, q2 4, q2 5, q2 6, q1 _, q1 _, q1 _, q1 _, q1 _, q1 _, q1 _, q1 _, q1 _])]) (And.intro rfl (And.intro rfl (And.intro rfl (And.intro ⟨⟨_, rfl⟩, rfl⟩ ?_))))))
                  refine Exists.intro _ (Exists.intro _ (Exists.intro _ (Exists.intro _ (Exists.intro _ (Exists.intro _ (Exists.intro _ (Exists.intro _ (Exists.intro _ (Exists.intro _ (Exists.intro _ (And.intro rfl (And.intro rfl (?_)))))))))))))
                  intro x_rfa_145 x_rpl_145 hq_145
                  apply And.intro
                  · first | exact Or.inl rfl | exact Or.inr rfl | omega
                  exact hQ _ _ _ _ _ _ _ _ ⟨(by first | exact SlR_o1 hq_1.1 (by omega) hq_25 (by omega) | exact SlR_o0 hq_1.1 (by omega) hq_25 (by omega) | exact SlR_n0 hq_1.1 hty (by omega) (by omega) | exact SlR_n1 (by rw [← hq_59]; exact hq_1.1) (by omega) (by omega)), by omega⟩
                · intro hq_131
                  apply And.intro
                  · intro hq_136
                    apply And.intro
                    · first | exact Or.inl rfl | exact Or.inr rfl | omega
                    exact hQ _ _ _ _ _ _ _ _ ⟨(by first | exact SlR_o1 hq_1.1 (by omega) hq_25 (by omega) | exact SlR_o0 hq_1.1 (by omega) hq_25 (by omega) | exact SlR_n0 hq_1.1 hty (by omega) (by omega) | exact SlR_n1 (by rw [← hq_59]; exact hq_1.1) (by omega) (by omega)), by omega⟩
                  · intro hq_136
                    refine Exists.intro [0, 3, 4, 5, 6, 2, 1] (Exists.intro [q2 0, q1 _, q1 _] (Exists.intro ([.inr (6, [q2 1, q2 2, q2 3, q2 4, q2 5, q2 6, q1 _, q1 _, q1 _, q1 _, q1 _, q1 _, q1 _, q1 _, q1 _])]) (And.intro rfl (And.intro rfl (And.intro rfl (And.intro ⟨⟨_, rfl⟩, rfl⟩ ?_))))))
                    refine Exists.intro _ (Exists.intro _ (Exists.intro _ (Exists.intro _ (Exists.intro _ (Exists.intro _ (Exists.intro _ (Exists.intro _ (Exists.intro _ (Exists.intro _ (Exists.intro _ (And.intro rfl (And.intro rfl (?_)))))))))))))
                    intro x_rfa_145 x_rpl_145 hq_145
                    apply And.intro
                    · first | exact Or.inl rfl | exact Or.inr rfl | omega
                    exact hQ _ _ _ _ _ _ _ _ ⟨(by first | exact SlR_o1 hq_1.1 (by omega) hq_25 (by omega) | exact SlR_o0 hq_1.1 (by omega) hq_25 (by omega) | exact SlR_n0 hq_1.1 hty (by omega) (by omega) | exact SlR_n1 (by rw [← hq_59]; exact hq_1.1) (by omega) (by omega)), by omega⟩
            · intro hq_100
              apply And.intro
              · exact ⟨by omega, by rw [show ((qs_2).length : Int) = 51 from rfl]; omega⟩
              intro zq_118 hq_118
              have e118 : zq_118 = slL a b := by rw [hq_118]; unfold slL; rw [show zq_8 = 3 * a + b by omega]
              apply And.intro
              · intro hq_119
                refine Exists.intro [0, 3, 4, 5, 6, 2, 1] (Exists.intro [q2 0, q1 _, q1 _] (Exists.intro ([.inr (6, [q2 1, q2 2, q2 3, q2 4, q2 5, q2 6, q1 _, q1 _, q1 _, q1 _, q1 _, q1 _, q1 _, q1 _, q1 _])]) (And.intro rfl (And.intro rfl (And.intro rfl (And.intro ⟨⟨_, rfl⟩, rfl⟩ ?_))))))
                refine Exists.intro _ (Exists.intro _ (Exists.intro _ (Exists.intro _ (Exists.intro _ (Exists.intro _ (Exists.intro _ (Exists.intro _ (Exists.intro _ (Exists.intro _ (Exists.intro _ (And.intro rfl (And.intro rfl (?_)))))))))))))
                intro x_rfa_145 x_rpl_145 hq_145
                apply And.intro
                · first | exact Or.inl rfl | exact Or.inr rfl | omega
                exact hQ _ _ _ _ _ _ _ _ ⟨(by first | exact SlR_o1 hq_1.1 (by omega) hq_25 (by omega) | exact SlR_o0 hq_1.1 (by omega) hq_25 (by omega) | exact SlR_n0 hq_1.1 hty (by omega) (by omega) | exact SlR_n1 (by rw [← hq_59]; exact hq_1.1) (by omega) (by omega)), by omega⟩
              · intro hq_119
                apply And.intro
                · exact ⟨by omega, by rw [show ((qs_3).length : Int) = 51 from rfl]; omega⟩
                intro zq_130 hq_130
                have e130 : zq_130 = slG a b := by rw [hq_130]; unfold slG; rw [show zq_8 = 3 * a + b by omega]
                apply And.intro
                · intro hq_131
                  refine Exists.intro [0, 3, 4, 5, 6, 2, 1] (Exists.intro [q2 0, q1 _, q1 _] (Exists.intro ([.inr (6, [q2 1, q2 2, q2 3, q2 4, q2 5, q2 6, q1 _, q1 _, q1 _, q1 _, q1 _, q1 _, q1 _, q1 _, q1 _])]) (And.intro rfl (And.intro rfl (And.intro rfl (And.intro ⟨⟨_, rfl⟩, rfl⟩ ?_))))))
                  refine Exists.intro _ (Exists.intro _ (Exists.intro _ (Exists.intro _ (Exists.intro _ (Exists.intro _ (Exists.intro _ (Exists.intro _ (Exists.intro _ (Exists.intro _ (Exists.intro _ (And.intro rfl (And.intro rfl (?_)))))))))))))
                  intro x_rfa_145 x_rpl_145 hq_145
                  apply And.intro
                  · first | exact Or.inl rfl | exact Or.inr rfl | omega
                  exact hQ _ _ _ _ _ _ _ _ ⟨(by first | exact SlR_o1 hq_1.1 (by omega) hq_25 (by omega) | exact SlR_o0 hq_1.1 (by omega) hq_25 (by omega) | exact SlR_n0 hq_1.1 hty (by omega) (by omega) | exact SlR_n1 (by rw [← hq_59]; exact hq_1.1) (by omega) (by omega)), by omega⟩
                · intro hq_131
                  apply And.intro
                  · intro hq_136
                    apply And.intro
                    · first | exact Or.inl rfl | exact Or.inr rfl | omega
                    exact hQ _ _ _ _ _ _ _ _ ⟨(by first | exact SlR_o1 hq_1.1 (by omega) hq_25 (by omega) | exact SlR_o0 hq_1.1 (by omega) hq_25 (by omega) | exact SlR_n0 hq_1.1 hty (by omega) (by omega) | exact SlR_n1 (by rw [← hq_59]; exact hq_1.1) (by omega) (by omega)), by omega⟩
                  · intro hq_136
                    refine Exists.intro [0, 3, 4, 5, 6, 2, 1] (Exists.intro [q2 0, q1 _, q1 _] (Exists.intro ([.inr (6, [q2 1, q2 2, q2 3, q2 4, q2 5, q2 6, q1 _, q1 _, q1 _, q1 _, q1 _, q1 _, q1 _, q1 _, q1 _])]) (And.intro rfl (And.intro rfl (And.intro rfl (And.intro ⟨⟨_, rfl⟩, rfl⟩ ?_))))))
                    refine Exists.intro _ (Exists.intro _ (Exists.intro _ (Exists.intro _ (Exists.intro _ (Exists.intro _ (Exists.intro _ (Exists.intro _ (Exists.intro _ (Exists.intro _ (Exists.intro _ (And.intro rfl (And.intro rfl (?_)))))))))))))
                    intro x_rfa_145 x_rpl_145 hq_145
                    apply And.intro
                    · first | exact Or.inl rfl | exact Or.inr rfl | omega
                    exact hQ _ _ _ _ _ _ _ _ ⟨(by first | exact SlR_o1 hq_1.1 (by omega) hq_25 (by omega) | exact SlR_o0 hq_1.1 (by omega) hq_25 (by omega) | exact SlR_n0 hq_1.1 hty (by omega) (by omega) | exact SlR_n1 (by rw [← hq_59]; exact hq_1.1) (by omega) (by omega)), by omega⟩
        · intro hq_76
          apply And.intro
          · intro hq_82
            apply And.intro
            · exact ⟨by omega, by rw [show ((qs_2).length : Int) = 51 from rfl]; omega⟩
            intro zq_118 hq_118
            have e118 : zq_118 = slL a b := by rw [hq_118]; unfold slL; rw [show zq_8 = 3 * a + b by omega]
            apply And.intro
            · intro hq_119
              refine Exists.intro [0, 3, 4, 5, 6, 2, 1] (Exists.intro [q2 0, q1 _, q1 _] (Exists.intro ([.inr (6, [q2 1, q2 2, q2 3, q2 4, q2 5, q2 6, q1 _, q1 _, q1 _, q1 _, q1 _, q1 _, q1 _, q1 _, q1 _])]) (And.intro rfl (And.intro rfl (And.intro rfl (And.intro ⟨⟨_, rfl⟩, rfl⟩ ?_))))))
              refine Exists.intro _ (Exists.intro _ (Exists.intro _ (Exists.intro _ (Exists.intro _ (Exists.intro _ (Exists.intro _ (Exists.intro _ (Exists.intro _ (Exists.intro _ (Exists.intro _ (And.intro rfl (And.intro rfl (?_)))))))))))))
              intro x_rfa_145 x_rpl_145 hq_145
              apply And.intro
              · first | exact Or.inl rfl | exact Or.inr rfl | omega
              exact hQ _ _ _ _ _ _ _ _ ⟨(by first | exact SlR_o1 hq_1.1 (by omega) hq_25 (by omega) | exact SlR_o0 hq_1.1 (by omega) hq_25 (by omega) | exact SlR_n0 hq_1.1 hty (by omega) (by omega) | exact SlR_n1 (by rw [← hq_59]; exact hq_1.1) (by omega) (by omega)), by omega⟩
            · intro hq_119
              apply And.intro
              · exact ⟨by omega, by rw [show ((qs_3).length : Int) = 51 from rfl]; omega⟩
              intro zq_130 hq_130
              have e130 : zq_130 = slG a b := by rw [hq_130]; unfold slG; rw [show zq_8 = 3 * a + b by omega]
              apply And.intro
              · intro hq_131
                refine Exists.intro [0, 3, 4, 5, 6, 2, 1] (Exists.intro [q2 0, q1 _, q1 _] (Exists.intro ([.inr (6, [q2 1, q2 2, q2 3, q2 4, q2 5, q2 6, q1 _, q1 _, q1 _, q1 _, q1 _, q1 _, q1 _, q1 _, q1 _])]) (And.intro rfl (And.intro rfl (And.intro rfl (And.intro ⟨⟨_, rfl⟩, rfl⟩ ?_))))))
                refine Exists.intro _ (Exists.intro _ (Exists.intro _ (Exists.intro _ (Exists.intro _ (Exists.intro _ (Exists.intro _ (Exists.intro _ (Exists.intro _ (Exists.intro _ (Exists.intro _ (And.intro rfl (And.intro rfl (?_)))))))))))))
                intro x_rfa_145 x_rpl_145 hq_145
                apply And.intro
                · first | exact Or.inl rfl | exact Or.inr rfl | omega
                exact hQ _ _ _ _ _ _ _ _ ⟨(by first | exact SlR_o1 hq_1.1 (by omega) hq_25 (by omega) | exact SlR_o0 hq_1.1 (by omega) hq_25 (by omega) | exact SlR_n0 hq_1.1 hty (by omega) (by omega) | exact SlR_n1 (by rw [← hq_59]; exact hq_1.1) (by omega) (by omega)), by omega⟩
              · intro hq_131
                apply And.intro
                · intro hq_136
                  apply And.intro
                  · first | exact Or.inl rfl | exact Or.inr rfl | omega
                  exact hQ _ _ _ _ _ _ _ _ ⟨(by first | exact SlR_o1 hq_1.1 (by omega) hq_25 (by omega) | exact SlR_o0 hq_1.1 (by omega) hq_25 (by omega) | exact SlR_n0 hq_1.1 hty (by omega) (by omega) | exact SlR_n1 (by rw [← hq_59]; exact hq_1.1) (by omega) (by omega)), by omega⟩
                · intro hq_136
                  refine Exists.intro [0, 3, 4, 5, 6, 2, 1] (Exists.intro [q2 0, q1 _, q1 _] (Exists.intro ([.inr (6, [q2 1, q2 2, q2 3, q2 4, q2 5, q2 6, q1 _, q1 _, q1 _, q1 _, q1 _, q1 _, q1 _, q1 _, q1 _])]) (And.intro rfl (And.intro rfl (And.intro rfl (And.intro ⟨⟨_, rfl⟩, rfl⟩ ?_))))))
                  refine Exists.intro _ (Exists.intro _ (Exists.intro _ (Exists.intro _ (Exists.intro _ (Exists.intro _ (Exists.intro _ (Exists.intro _ (Exists.intro _ (Exists.intro _ (Exists.intro _ (And.intro rfl (And.intro rfl (?_)))))))))))))
                  intro x_rfa_145 x_rpl_145 hq_145
                  apply And.intro
                  · first | exact Or.inl rfl | exact Or.inr rfl | omega
                  exact hQ _ _ _ _ _ _ _ _ ⟨(by first | exact SlR_o1 hq_1.1 (by omega) hq_25 (by omega) | exact SlR_o0 hq_1.1 (by omega) hq_25 (by omega) | exact SlR_n0 hq_1.1 hty (by omega) (by omega) | exact SlR_n1 (by rw [← hq_59]; exact hq_1.1) (by omega) (by omega)), by omega⟩
          · intro hq_82
            apply And.intro
            · intro hq_87
              apply And.intro
              · exact ⟨by omega, by rw [show ((qs_2).length : Int) = 51 from rfl]; omega⟩
              intro zq_118 hq_118
              have e118 : zq_118 = slL a b := by rw [hq_118]; unfold slL; rw [show zq_8 = 3 * a + b by omega]
              apply And.intro
              · intro hq_119
                refine Exists.intro [0, 3, 4, 5, 6, 2, 1] (Exists.intro [q2 0, q1 _, q1 _] (Exists.intro ([.inr (6, [q2 1, q2 2, q2 3, q2 4, q2 5, q2 6, q1 _, q1 _, q1 _, q1 _, q1 _, q1 _, q1 _, q1 _, q1 _])]) (And.intro rfl (And.intro rfl (And.intro rfl (And.intro ⟨⟨_, rfl⟩, rfl⟩ ?_))))))
                refine Exists.intro _ (Exists.intro _ (Exists.intro _ (Exists.intro _ (Exists.intro _ (Exists.intro _ (Exists.intro _ (Exists.intro _ (Exists.intro _ (Exists.intro _ (Exists.intro _ (And.intro rfl (And.intro rfl (?_)))))))))))))
                intro x_rfa_145 x_rpl_145 hq_145
                apply And.intro
                · first | exact Or.inl rfl | exact Or.inr rfl | omega
                exact hQ _ _ _ _ _ _ _ _ ⟨(by first | exact SlR_o1 hq_1.1 (by omega) hq_25 (by omega) | exact SlR_o0 hq_1.1 (by omega) hq_25 (by omega) | exact SlR_n0 hq_1.1 hty (by omega) (by omega) | exact SlR_n1 (by rw [← hq_59]; exact hq_1.1) (by omega) (by omega)), by omega⟩
              · intro hq_119
                apply And.intro
                · exact ⟨by omega, by rw [show ((qs_3).length : Int) = 51 from rfl]; omega⟩
                intro zq_130 hq_130
                have e130 : zq_130 = slG a b := by rw [hq_130]; unfold slG; rw [show zq_8 = 3 * a + b by omega]
                apply And.intro
                · intro hq_131
                  refine Exists.intro [0, 3, 4, 5, 6, 2, 1] (Exists.intro [q2 0, q1 _, q1 _] (Exists.intro ([.inr (6, [q2 1, q2 2, q2 3, q2 4, q2 5, q2 6, q1 _, q1 _, q1 _, q1 _, q1 _, q1 _, q1 _, q1 _, q1 _])]) (And.intro rfl (And.intro rfl (And.intro rfl (And.intro ⟨⟨_, rfl⟩, rfl⟩ ?_))))))
                  refine Exists.intro _ (Exists.intro _ (Exists.intro _ (Exists.intro _ (Exists.intro _ (Exists.intro _ (Exists.intro _ (Exists.intro _ (Exists.intro _ (Exists.intro _ (Exists.intro _ (And.intro rfl (And.intro rfl (?_)))))))))))))
                  intro x_rfa_145 x_rpl_145 hq_145
                  apply And.intro
                  · first | exact Or.inl rfl | exact Or.inr rfl | omega
                  exact hQ _ _ _ _ _ _ _ _ ⟨(by first | exact SlR_o1 hq_1.1 (by omega) hq_25 (by omega) | exact SlR_o0 hq_1.1 (by omega) hq_25 (by omega) | exact SlR_n0 hq_1.1 hty (by omega) (by omega) | exact SlR_n1 (by rw [← hq_59]; exact hq_1.1) (by omega) (by omega)), by omega⟩
                · intro hq_131
                  apply And.intro
                  · intro hq_136
                    apply And.intro
                    · first | exact Or.inl rfl | exact Or.inr rfl | omega
                    exact hQ _ _ _ _ _ _ _ _ ⟨(by first | exact SlR_o1 hq_1.1 (by omega) hq_25 (by omega) | exact SlR_o0 hq_1.1 (by omega) hq_25 (by omega) | exact SlR_n0 hq_1.1 hty (by omega) (by omega) | exact SlR_n1 (by rw [← hq_59]; exact hq_1.1) (by omega) (by omega)), by omega⟩
                  · intro hq_136
                    refine Exists.intro [0, 3, 4, 5, 6, 2, 1] (Exists.intro [q2 0, q1 _, q1 _] (Exists.intro ([.inr (6, [q2 1, q2 2, q2 3, q2 4, q2 5, q2 6, q1 _, q1 _, q1 _, q1 _, q1 _, q1 _, q1 _, q1 _, q1 _])]) (And.intro rfl (And.intro rfl (And.intro rfl (And.intro ⟨⟨_, rfl⟩, rfl⟩ ?_))))))
                    refine Exists.intro _ (Exists.intro _ (Exists.intro _ (Exists.intro _ (Exists.intro _ (Exists.intro _ (Exists.intro _ (Exists.intro _ (Exists.intro _ (Exists.intro _ (Exists.intro _ (And.intro rfl (And.intro rfl (?_)))))))))))))
                    intro x_rfa_145 x_rpl_145 hq_145
                    apply And.intro
                    · first | exact Or.inl rfl | exact Or.inr rfl | omega
                    exact hQ _ _ _ _ _ _ _ _ ⟨(by first | exact SlR_o1 hq_1.1 (by omega) hq_25 (by omega) | exact SlR_o0 hq_1.1 (by omega) hq_25 (by omega) | exact SlR_n0 hq_1.1 hty (by omega) (by omega) | exact SlR_n1 (by rw [← hq_59]; exact hq_1.1) (by omega) (by omega)), by omega⟩
            · intro hq_87
              apply And.intro
              · exact ⟨by omega, by omega⟩
              intro zq_99 hq_99
              have e99 : b = 1 → zq_99 = rv 0 := fun e9 => by rw [hq_99, e9]; exact q_up_n (by decide)
              apply And.intro
              · intro hq_100
                apply And.intro
                · exact ⟨by omega, by rw [show ((qs_2).length : Int) = 51 from rfl]; omega⟩
                intro zq_118 hq_118
                have e118 : zq_118 = slL a b := by rw [hq_118]; unfold slL; rw [show zq_8 = 3 * a + b by omega]
                apply And.intro
                · intro hq_119
                  refine Exists.intro [0, 3, 4, 5, 6, 2, 1] (Exists.intro [q2 0, q1 _, q1 _] (Exists.intro ([.inr (6, [q2 1, q2 2, q2 3, q2 4, q2 5, q2 6, q1 _, q1 _, q1 _, q1 _, q1 _, q1 _, q1 _, q1 _, q1 _])]) (And.intro rfl (And.intro rfl (And.intro rfl (And.intro ⟨⟨_, rfl⟩, rfl⟩ ?_))))))
                  refine Exists.intro _ (Exists.intro _ (Exists.intro _ (Exists.intro _ (Exists.intro _ (Exists.intro _ (Exists.intro _ (Exists.intro _ (Exists.intro _ (Exists.intro _ (Exists.intro _ (And.intro rfl (And.intro rfl (?_)))))))))))))
                  intro x_rfa_145 x_rpl_145 hq_145
                  apply And.intro
                  · first | exact Or.inl rfl | exact Or.inr rfl | omega
                  exact hQ _ _ _ _ _ _ _ _ ⟨(by first | exact SlR_o1 hq_1.1 (by omega) hq_25 (by omega) | exact SlR_o0 hq_1.1 (by omega) hq_25 (by omega) | exact SlR_n0 hq_1.1 hty (by omega) (by omega) | exact SlR_n1 (by rw [← hq_59]; exact hq_1.1) (by omega) (by omega)), by omega⟩
                · intro hq_119
                  apply And.intro
                  · exact ⟨by omega, by rw [show ((qs_3).length : Int) = 51 from rfl]; omega⟩
                  intro zq_130 hq_130
                  have e130 : zq_130 = slG a b := by rw [hq_130]; unfold slG; rw [show zq_8 = 3 * a + b by omega]
                  apply And.intro
                  · intro hq_131
                    refine Exists.intro [0, 3, 4, 5, 6, 2, 1] (Exists.intro [q2 0, q1 _, q1 _] (Exists.intro ([.inr (6, [q2 1, q2 2, q2 3, q2 4, q2 5, q2 6, q1 _, q1 _, q1 _, q1 _, q1 _, q1 _, q1 _, q1 _, q1 _])]) (And.intro rfl (And.intro rfl (And.intro rfl (And.intro ⟨⟨_, rfl⟩, rfl⟩ ?_))))))
                    refine Exists.intro _ (Exists.intro _ (Exists.intro _ (Exists.intro _ (Exists.intro _ (Exists.intro _ (Exists.intro _ (Exists.intro _ (Exists.intro _ (Exists.intro _ (Exists.intro _ (And.intro rfl (And.intro rfl (?_)))))))))))))
                    intro x_rfa_145 x_rpl_145 hq_145
                    apply And.intro
                    · first | exact Or.inl rfl | exact Or.inr rfl | omega
                    exact hQ _ _ _ _ _ _ _ _ ⟨(by first | exact SlR_o1 hq_1.1 (by omega) hq_25 (by omega) | exact SlR_o0 hq_1.1 (by omega) hq_25 (by omega) | exact SlR_n0 hq_1.1 hty (by omega) (by omega) | exact SlR_n1 (by rw [← hq_59]; exact hq_1.1) (by omega) (by omega)), by omega⟩
                  · intro hq_131
                    apply And.intro
                    · intro hq_136
                      apply And.intro
                      · first | exact Or.inl rfl | exact Or.inr rfl | omega
                      exact hQ _ _ _ _ _ _ _ _ ⟨(by first | exact SlR_o1 hq_1.1 (by omega) hq_25 (by omega) | exact SlR_o0 hq_1.1 (by omega) hq_25 (by omega) | exact SlR_n0 hq_1.1 hty (by omega) (by omega) | exact SlR_n1 (by rw [← hq_59]; exact hq_1.1) (by omega) (by omega)), by omega⟩
                    · intro hq_136
                      refine Exists.intro [0, 3, 4, 5, 6, 2, 1] (Exists.intro [q2 0, q1 _, q1 _] (Exists.intro ([.inr (6, [q2 1, q2 2, q2 3, q2 4, q2 5, q2 6, q1 _, q1 _, q1 _, q1 _, q1 _, q1 _, q1 _, q1 _, q1 _])]) (And.intro rfl (And.intro rfl (And.intro rfl (And.intro ⟨⟨_, rfl⟩, rfl⟩ ?_))))))
                      refine Exists.intro _ (Exists.intro _ (Exists.intro _ (Exists.intro _ (Exists.intro _ (Exists.intro _ (Exists.intro _ (Exists.intro _ (Exists.intro _ (Exists.intro _ (Exists.intro _ (And.intro rfl (And.intro rfl (?_)))))))))))))
                      intro x_rfa_145 x_rpl_145 hq_145
                      apply And.intro
                      · first | exact Or.inl rfl | exact Or.inr rfl | omega
                      exact hQ _ _ _ _ _ _ _ _ ⟨(by first | exact SlR_o1 hq_1.1 (by omega) hq_25 (by omega) | exact SlR_o0 hq_1.1 (by omega) hq_25 (by omega) | exact SlR_n0 hq_1.1 hty (by omega) (by omega) | exact SlR_n1 (by rw [← hq_59]; exact hq_1.1) (by omega) (by omega)), by omega⟩
              · intro hq_100
                apply And.intro
                · exact ⟨by omega, by rw [show ((qs_2).length : Int) = 51 from rfl]; omega⟩
                intro zq_118 hq_118
                have e118 : zq_118 = slL a b := by rw [hq_118]; unfold slL; rw [show zq_8 = 3 * a + b by omega]
                apply And.intro
                · intro hq_119
                  refine Exists.intro [0, 3, 4, 5, 6, 2, 1] (Exists.intro [q2 0, q1 _, q1 _] (Exists.intro ([.inr (6, [q2 1, q2 2, q2 3, q2 4, q2 5, q2 6, q1 _, q1 _, q1 _, q1 _, q1 _, q1 _, q1 _, q1 _, q1 _])]) (And.intro rfl (And.intro rfl (And.intro rfl (And.intro ⟨⟨_, rfl⟩, rfl⟩ ?_))))))
                  refine Exists.intro _ (Exists.intro _ (Exists.intro _ (Exists.intro _ (Exists.intro _ (Exists.intro _ (Exists.intro _ (Exists.intro _ (Exists.intro _ (Exists.intro _ (Exists.intro _ (And.intro rfl (And.intro rfl (?_)))))))))))))
                  intro x_rfa_145 x_rpl_145 hq_145
                  apply And.intro
                  · first | exact Or.inl rfl | exact Or.inr rfl | omega
                  exact hQ _ _ _ _ _ _ _ _ ⟨(by first | exact SlR_o1 hq_1.1 (by omega) hq_25 (by omega) | exact SlR_o0 hq_1.1 (by omega) hq_25 (by omega) | exact SlR_n0 hq_1.1 hty (by omega) (by omega) | exact SlR_n1 (by rw [← hq_59]; exact hq_1.1) (by omega) (by omega)), by omega⟩
                · intro hq_119
                  apply And.intro
                  · exact ⟨by omega, by rw [show ((qs_3).length : Int) = 51 from rfl]; omega⟩
                  intro zq_130 hq_130
                  have e130 : zq_130 = slG a b := by rw [hq_130]; unfold slG; rw [show zq_8 = 3 * a + b by omega]
                  apply And.intro
                  · intro hq_131
                    refine Exists.intro [0, 3, 4, 5, 6, 2, 1] (Exists.intro [q2 0, q1 _, q1 _] (Exists.intro ([.inr (6, [q2 1, q2 2, q2 3, q2 4, q2 5, q2 6, q1 _, q1 _, q1 _, q1 _, q1 _, q1 _, q1 _, q1 _, q1 _])]) (And.intro rfl (And.intro rfl (And.intro rfl (And.intro ⟨⟨_, rfl⟩, rfl⟩ ?_))))))
                    refine Exists.intro _ (Exists.intro _ (Exists.intro _ (Exists.intro _ (Exists.intro _ (Exists.intro _ (Exists.intro _ (Exists.intro _ (Exists.intro _ (Exists.intro _ (Exists.intro _ (And.intro rfl (And.intro rfl (?_)))))))))))))
                    intro x_rfa_145 x_rpl_145 hq_145
                    apply And.intro
                    · first | exact Or.inl rfl | exact Or.inr rfl | omega
                    exact hQ _ _ _ _ _ _ _ _ ⟨(by first | exact SlR_o1 hq_1.1 (by omega) hq_25 (by omega) | exact SlR_o0 hq_1.1 (by omega) hq_25 (by omega) | exact SlR_n0 hq_1.1 hty (by omega) (by omega) | exact SlR_n1 (by rw [← hq_59]; exact hq_1.1) (by omega) (by omega)), by omega⟩
                  · intro hq_131
                    apply And.intro
                    · intro hq_136
                      apply And.intro
                      · first | exact Or.inl rfl | exact Or.inr rfl | omega
                      exact hQ _ _ _ _ _ _ _ _ ⟨(by first | exact SlR_o1 hq_1.1 (by omega) hq_25 (by omega) | exact SlR_o0 hq_1.1 (by omega) hq_25 (by omega) | exact SlR_n0 hq_1.1 hty (by omega) (by omega) | exact SlR_n1 (by rw [← hq_59]; exact hq_1.1) (by omega) (by omega)), by omega⟩
                    · intro hq_136
                      refine Exists.intro [0, 3, 4, 5, 6, 2, 1] (Exists.intro [q2 0, q1 _, q1 _] (Exists.intro ([.inr (6, [q2 1, q2 2, q2 3, q2 4, q2 5, q2 6, q1 _, q1 _, q1 _, q1 _, q1 _, q1 _, q1 _, q1 _, q1 _])]) (And.intro rfl (And.intro rfl (And.intro rfl (And.intro ⟨⟨_, rfl⟩, rfl⟩ ?_))))))
                      refine Exists.intro _ (Exists.intro _ (Exists.intro _ (Exists.intro _ (Exists.intro _ (Exists.intro _ (Exists.intro _ (Exists.intro _ (Exists.intro _ (Exists.intro _ (Exists.intro _ (And.intro rfl (And.intro rfl (?_)))))))))))))
                      intro x_rfa_145 x_rpl_145 hq_145
                      apply And.intro
                      · first | exact Or.inl rfl | exact Or.inr rfl | omega
                      exact hQ _ _ _ _ _ _ _ _ ⟨(by first | exact SlR_o1 hq_1.1 (by omega) hq_25 (by omega) | exact SlR_o0 hq_1.1 (by omega) hq_25 (by omega) | exact SlR_n0 hq_1.1 hty (by omega) (by omega) | exact SlR_n1 (by rw [← hq_59]; exact hq_1.1) (by omega) (by omega)), by omega⟩
      · intro hq_59
        apply And.intro
        · first | exact Or.inl rfl | exact Or.inr rfl | omega
        exact hQ _ _ _ _ _ _ _ _ ⟨(by first | exact SlR_o1 hq_1.1 (by omega) hq_25 (by omega) | exact SlR_o0 hq_1.1 (by omega) hq_25 (by omega) | exact SlR_n0 hq_1.1 hty (by omega) (by omega) | exact SlR_n1 (by rw [← hq_59]; exact hq_1.1) (by omega) (by omega)), by omega⟩
  · intro hq_16
    refine Exists.intro [0, 1, 3, 4, 5, 6, 2] (Exists.intro [q2 0] (Exists.intro ([.inr (6, [q2 2, q2 3, q2 4, q2 5, q2 6, q2 1, q1 _, q1 _, q1 _, q1 _, q1 _, q1 _, q1 _, q1 _, q1 _]), .inl (1, 600, .inl _)]) (And.intro rfl (And.intro rfl (And.intro rfl (And.intro ⟨⟨_, rfl⟩, rfl⟩ ?_))))))
    refine Exists.intro _ (Exists.intro _ (Exists.intro _ (Exists.intro _ (Exists.intro _ (Exists.intro _ (Exists.intro _ (Exists.intro _ (Exists.intro _ (Exists.intro _ (And.intro rfl (And.intro rfl (And.intro (by first | assumption | exact q_rg_up (by assumption) (by omega) | exact q_rg_up (q_rg_up (by assumption) (by omega)) (by omega) | exact q_rg_cpy (by assumption) (by assumption) | omega) (?_)))))))))))))
    intro zq_25 hq_25
    apply And.intro
    · exact ⟨by omega, by omega⟩
    apply And.intro
    · exact ⟨by omega, by omega⟩
    intro zq_34 hq_34
    have e34 : zq_34 = zq_25 := by rw [hq_34]; exact q_up_s
    apply And.intro
    · intro hq_36
      apply And.intro
      · first | exact Or.inl rfl | exact Or.inr rfl | omega
      exact hQ _ _ _ _ _ _ _ _ ⟨(by first | exact SlR_o1 hq_1.1 (by omega) hq_25 (by omega) | exact SlR_o0 hq_1.1 (by omega) hq_25 (by omega) | exact SlR_n0 hq_1.1 hty (by omega) (by omega) | exact SlR_n1 (by rw [← hq_59]; exact hq_1.1) (by omega) (by omega)), by omega⟩
    · intro hq_36
      apply And.intro
      · first | exact Or.inl rfl | exact Or.inr rfl | omega
      exact hQ _ _ _ _ _ _ _ _ ⟨(by first | exact SlR_o1 hq_1.1 (by omega) hq_25 (by omega) | exact SlR_o0 hq_1.1 (by omega) hq_25 (by omega) | exact SlR_n0 hq_1.1 hty (by omega) (by omega) | exact SlR_n1 (by rw [← hq_59]; exact hq_1.1) (by omega) (by omega)), by omega⟩
