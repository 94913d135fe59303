/-! ===== a line of the reference, from its first token on ===== -/
theorem TokR_at {t : Nat → Int} {n p re be so va wo re' be' so' va' wo' : Int} (h : TokR t n p re be so va wo) (hq_2 : TokR t n re re' be' so' va' wo') : TokR t n (tE t n p) re' be' so' va' wo' := by rw [← h.2.1]; exact hq_2
theorem Lt_lt {fa pl lf lp x : Int} (hL : LtM fa pl lf lp) (hb : ¬ fa = 0 → pl < x) : ¬ lf = 0 → lp < x := fun h => by
  obtain ⟨l1, l2⟩ := hL
  have hq_2 : ¬ fa = 0 := by rw [← l1]; exact h
  rw [l2 hq_2]; exact hb hq_2
theorem fu_iff {w a cc : Int} {td D : Nat → Int} (ha : (a = 0 ∧ cc = 8 ∧ w = 0) ∨ (a = 3 ∧ cc = 6 ∧ w = 3) ∨ (a = 4 ∧ cc = 6 ∧ w = 4)) (hb : BT td 0) (hD : ∀ i : Nat, i < 161 → td i = D i) : td a.toNat = cc ↔ fulP w D := by
  obtain ⟨b0, b3, b4, -⟩ := hb
  have e0 := hD 0 (by decide)
  have e3 := hD 3 (by decide)
  have e4 := hD 4 (by decide)
  have b3 : 0 ≤ td 3 ∧ td 3 ≤ 6 := b3
  have b4 : 0 ≤ td 4 ∧ td 4 ≤ 6 := b4
  unfold fulP
  rcases ha with ⟨rfl, rfl, rfl⟩ | ⟨rfl, rfl, rfl⟩ | ⟨rfl, rfl, rfl⟩
  · show td 0 = 8 ↔ _
    omega
  · show td 3 = 6 ↔ _
    omega
  · show td 4 = 6 ↔ _
    omega
theorem fu_y {w : Int} {td D : Nat → Int} (hw : 9 ≤ w ∧ w ≤ 13) (hb : 0 ≤ td 0 ∧ td 0 ≤ 40) (hD : ∀ i : Nat, i < 161 → td i = D i) : td (0 : Int).toNat = 40 ↔ fulP w D := by
  have e0 := hD 0 (by decide)
  unfold fulP
  show td 0 = 40 ↔ _
  omega
theorem fu_s {td D : Nat → Int} (hb : 0 ≤ td 0 ∧ td 0 ≤ 10) (hD : ∀ i : Nat, i < 161 → td i = D i) : td (0 : Int).toNat = 10 ↔ fulP 16 D := by
  have e0 := hD 0 (by decide)
  unfold fulP
  show td 0 = 10 ↔ _
  omega
/-- at a line's first token -/
def LnS (t : Nat → Int) (n p fa pl : Int) (D : Nat → Int) (fp fd re be so va wo lf lp : Int) (td : Nat → Int) (mfp mfd : Int) : Prop := TokR t n p re be so va wo ∧ LtM fa pl lf lp ∧ (¬ fa = 0 → pl < tB t n p) ∧ TdR (fa = 0) D fp fd td mfp mfd ∧ ¬ tK t n p = 0 ∧ p ≤ n
theorem LnS_n {t : Nat → Int} {n w p fa pl fp fd re be so va wo lf lp mfp mfd re' be' so' va' wo' go : Int} {D td : Nat → Int} (h : LnS t n p fa pl D fp fd re be so va wo lf lp td mfp mfd) (hT : TokR t n re re' be' so' va' wo') (hf : ¬ fulP w D) (hg : ¬ go = 0) : SlM t n w p (ntF (fulP w D) 3 fa) (ntP (fulP w D) (tB t n p) fa pl) 0 re' be' so' va' wo' lf lp go := by
  obtain ⟨hq_1, hq_2, hq_3, -, hq_5, hq_6⟩ := h
  exact SlM_i (TokR_at hq_1 hT) (Lt_n hf hq_2) (ful_b hq_3) hq_5 hq_6 hg
theorem LnS_f {t : Nat → Int} {n w p fa pl fp fd re be so va wo lf lp mfp mfd re' be' so' va' wo' go lf' lp' z b at' : Int} {D td : Nat → Int} (h : LnS t n p fa pl D fp fd re be so va wo lf lp td mfp mfd) (hat : at' = tB t n p) (hT : TokR t n re re' be' so' va' wo') (hP : fa = 0 → (z = b ↔ fulP w D)) (hF : z = b ∧ (lf = 0 ∧ lf' = 3 ∧ lp' = at' ∨ ¬ lf = 0 ∧ lf' = lf ∧ lp' = lp) ∨ ¬ z = b ∧ lf' = lf ∧ lp' = lp) (hg : ¬ go = 0) : SlM t n w p (ntF (fulP w D) 3 fa) (ntP (fulP w D) (tB t n p) fa pl) 0 re' be' so' va' wo' lf' lp' go := by
  obtain ⟨hq_1, hq_2, hq_3, -, hq_5, hq_6⟩ := h
  subst hat
  exact SlM_i (TokR_at hq_1 hT) (Lt_full hq_2 hP hF) (ful_b hq_3) hq_5 hq_6 hg
theorem LnS_t {t : Nat → Int} {n p fa pl fp fd re be so va wo lf lp mfp mfd : Int} {P : Prop} {D td : Nat → Int} (h : LnS t n p fa pl D fp fd re be so va wo lf lp td mfp mfd) : TdR (ntF P 3 fa = 0) D fp fd td mfp mfd := TdR_f h.2.2.2.1
theorem li_r0 {t : Nat → Int} {n p g : Int} (h : g = liW t n p 0) : -1 ≤ g ∧ g ≤ 8 := by
  have e : liW t n p 0 = boP t (tB t n p) (tE t n p) (tK t n p) := by
    unfold liW liP
    rw [if_pos rfl]
  rw [h, e]
  unfold boP pif
  (repeat' split) <;> decide
theorem li_r1 {t : Nat → Int} {n p g : Int} (h : g = liW t n p 1) : g = -1 ∨ (9 ≤ g ∧ g ≤ 13) := by
  have e : liW t n p 1 = yeP t (tB t n p) (tE t n p) (tK t n p) := by
    unfold liW liP
    rw [if_neg (by decide), if_pos rfl]
  rw [h, e]
  unfold yeP pif
  (repeat' split) <;> decide
theorem li_r2 {t : Nat → Int} {n p g : Int} (h : g = liW t n p 2) : g = -1 ∨ g = 14 ∨ g = 15 := by
  have e : liW t n p 2 = leP t (tB t n p) (tE t n p) (tK t n p) := by
    unfold liW liP
    rw [if_neg (by decide), if_neg (by decide), if_pos rfl]
  rw [h, e]
  unfold leP pif
  (repeat' split) <;> decide
theorem li_r3 {t : Nat → Int} {n p g : Int} (h : g = liW t n p 3) : g = -1 ∨ g = 16 := by
  have e : liW t n p 3 = siP t (tB t n p) (tE t n p) (tK t n p) := by
    unfold liW liP
    rw [if_neg (by decide), if_neg (by decide), if_neg (by decide), if_pos rfl]
  rw [h, e]
  unfold siP pif
  (repeat' split) <;> decide
theorem ye_0 {w : Int} (h : 9 ≤ w ∧ w ≤ 13) : slT w ((0 : Nat) : Int) = 1 ∧ slL w ((0 : Nat) : Int) = 0 ∧ slG w ((0 : Nat) : Int) = 7 := by
  rcases (show w = 9 ∨ w = 10 ∨ w = 11 ∨ w = 12 ∨ w = 13 by omega) with rfl | rfl | rfl | rfl | rfl <;> decide
theorem ye_o {w : Int} (h : w = 9 ∨ w = 10) : slT w ((0 + 1 : Nat) : Int) = 2 ∧ slT w ((0 + 1 + 1 : Nat) : Int) = 0 := by
  rcases h with rfl | rfl <;> decide
theorem ye_g {w : Int} (h : w = 11 ∨ w = 12) : slT w ((0 + 1 : Nat) : Int) = 1 ∧ slL w ((0 + 1 : Nat) : Int) = 1 ∧ slG w ((0 + 1 : Nat) : Int) = 99 ∧ slT w ((0 + 1 + 1 : Nat) : Int) = 0 := by
  rcases h with rfl | rfl <;> decide
theorem ye_f {w : Int} (h : w = 13) : slT w ((0 + 1 : Nat) : Int) = 1 ∧ slL w ((0 + 1 : Nat) : Int) = 0 ∧ slG w ((0 + 1 : Nat) : Int) = 7 ∧ slT w ((0 + 1 + 1 : Nat) : Int) = 1 ∧ slL w ((0 + 1 + 1 : Nat) : Int) = 1 ∧ slG w ((0 + 1 + 1 : Nat) : Int) = 99 := by
  subst h
  decide
/-- a year's line behind its slots: all are read, or not -/
def YrC (t : Nat → Int) (n w p f1 p1 s re be so va wo wr lf lp go : Int) (rd : Nat → Int) : Prop := (s = 1 ∧ SlM t n w p f1 p1 3 re be so va wo lf lp go ∧ rd 1 = lvs t n w p 0 ∧ rd 2 = lvs t n w p 1 ∧ rd 3 = lvs t n w p 2) ∨ (s = 0 ∧ ¬ lok t n w p 3 ∧ wr = lnB t n w p)
theorem lvs_0 {t : Nat → Int} {n w p : Int} {j : Nat} (h : slT w j = 0) : lvs t n w p j = -1 := by unfold lvs slV; rw [if_pos h]
theorem Yr_0 {t : Nat → Int} {n w p f1 p1 re be so va wo wr lf lp go re0 be0 so0 va0 wo0 lf0 lp0 go0 : Int} {j : Nat} {rd : Nat → Int} (h : SlM t n w p f1 p1 j re0 be0 so0 va0 wo0 lf0 lp0 go0) (hw : ¬ w = -1) (hj : j < 3) (hn : ¬ slOk t n w j (lps t n w p j) ∧ wr = tB t n (lps t n w p j)) : YrC t n w p f1 p1 0 re be so va wo wr lf lp go rd := Or.inr ⟨rfl, lok_n hj hn.1, by rw [lnB_j hw hj h.2.2.1 hn.1]; exact hn.2⟩
/-- behind the second slot, where the third is none -/
theorem Yr_2 {t : Nat → Int} {n w p f1 p1 s re be so va wo wr lf lp go re0 be0 so0 va0 wo0 lf0 lp0 go0 : Int} {rd rd0 : Nat → Int} (hq_0 : SlM t n w p f1 p1 1 re0 be0 so0 va0 wo0 lf0 lp0 go0) (hw : ¬ w = -1) (h : TkP t n w p f1 p1 1 2 (q_up rd0 1 (lvs t n w p 0)) s re be so va wo wr lf lp go rd) (hq_3 : rd0 3 = -1) (hz : slT w ((1 + 1 : Nat) : Int) = 0) : YrC t n w p f1 p1 s re be so va wo wr lf lp go rd := by
  rcases h with ⟨hq_1, hq_2, rfl⟩ | ⟨rfl, hq_2, hq_4⟩
  · refine Or.inl ⟨hq_1, SlM_z hq_2 hz, ?_, ?_, ?_⟩
    · rw [q_up_n (by decide), q_up_s]
    · exact q_up_s
    · rw [q_up_n (by decide), q_up_n (by decide), hq_3, lvs_0 hz]
  · exact Yr_0 hq_0 hw (by decide) ⟨hq_2, hq_4⟩
theorem Yr_3 {t : Nat → Int} {n w p f1 p1 s re be so va wo wr lf lp go re0 be0 so0 va0 wo0 lf0 lp0 go0 : Int} {rd rd0 rd1 : Nat → Int} (hq_0 : SlM t n w p f1 p1 2 re0 be0 so0 va0 wo0 lf0 lp0 go0) (hw : ¬ w = -1) (e1 : rd1 = q_up (q_up rd0 1 (lvs t n w p 0)) 2 (lvs t n w p 1)) (h : TkP t n w p f1 p1 2 3 rd1 s re be so va wo wr lf lp go rd) : YrC t n w p f1 p1 s re be so va wo wr lf lp go rd := by
  subst e1
  rcases h with ⟨hq_1, hq_2, rfl⟩ | ⟨rfl, hq_2, hq_4⟩
  · refine Or.inl ⟨hq_1, hq_2, ?_, ?_, ?_⟩
    · rw [q_up_n (by decide), q_up_n (by decide), q_up_s]
    · rw [q_up_n (by decide), q_up_s]
    · exact q_up_s
  · exact Yr_0 hq_0 hw (by decide) ⟨hq_2, hq_4⟩
theorem Yr_o {t : Nat → Int} {n w p f1 p1 re be so va wo wr lf lp go : Int} {rd : Nat → Int} (h : YrC t n w p f1 p1 1 re be so va wo wr lf lp go rd) (hw : w = 9 ∨ w = 10) : 0 ≤ rd 2 ∧ rd 2 ≤ 3 := by
  rcases h with ⟨-, hq_2, -, hq_4, -⟩ | ⟨hq_1, -⟩
  · rw [hq_4]
    exact SlM_of hq_2 1 (by decide) (by decide) (ye_o hw).1
  · exact absurd hq_1 (by decide)
theorem Yr_y {t : Nat → Int} {n w p f1 p1 s fp fd re be so va wo wr lf lp go mfp mfd : Int} {rd D td td' : Nat → Int} {fa : Int} (h : YrC t n w p f1 p1 s re be so va wo wr lf lp go rd) (hq_0 : ¬ s = 0) (hw : 9 ≤ w ∧ w ≤ 13) (hf1 : f1 = ntF (fulP w D) 3 fa) (hk : KpR 4 40 td (q_up rd 0 (w - 9)) td') (hT : TdR (fa = 0) D fp fd td mfp mfd) (hb : 0 ≤ td 0) : LnM t n w p f1 p1 D fp fd s re be so va wo wr lf lp go td' mfp mfd := by
  rcases h with ⟨rfl, hq_2, hq_3, hq_4, hq_5⟩ | ⟨hq_1, -⟩
  · refine LnM_1 hq_2 (fun hq_9 => ?_)
    have hq_8 := lfa_m hq_9
    rw [hf1] at hq_8
    obtain ⟨e8, nf⟩ := ntF_0 (by decide) hq_8
    obtain ⟨hD, dq_1, dq_2⟩ := hT e8
    refine ⟨kp_4 hw hk hD nf hb q_up_s (by rw [q_up_n (by decide)]; exact hq_3) (by rw [q_up_n (by decide)]; exact hq_4) (by rw [q_up_n (by decide)]; exact hq_5), ?_, ?_⟩
    · rw [fpN_n (by omega)]; exact dq_1
    · rw [fdN_n (by omega)]; exact dq_2
  · exact absurd hq_1 hq_0
theorem Yr_n {t : Nat → Int} {n w p f1 p1 s fp fd re be so va wo wr lf lp go mfp mfd : Int} {rd D td : Nat → Int} (h : YrC t n w p f1 p1 s re be so va wo wr lf lp go rd) (hq_0 : s = 0) : LnM t n w p f1 p1 D fp fd 0 re be so va wo wr lf lp go td mfp mfd := by
  rcases h with ⟨hq_1, -⟩ | ⟨-, hq_2, hq_3⟩
  · exact absurd (hq_0.symm.trans hq_1) (by decide)
  · exact Or.inr ⟨rfl, hq_2, hq_3⟩
def FW0 (g : Int) : Prop := g = 0 ∨ g = 3 ∨ g = 4
def FW1 (g s : Int) : Prop := (g = 0 ∧ s = 0) ∨ (g = 3 ∧ s = 3) ∨ (g = 4 ∧ s = 4)
def FW2 (g v s : Int) : Prop := (g = 0 ∧ v = 0 ∧ s = 8) ∨ (g = 3 ∧ v = 3 ∧ s = 6) ∨ (g = 4 ∧ v = 4 ∧ s = 6)
def FW3 (g s1 s0 v : Int) : Prop := (s1 = 0 ∧ s0 = 5 ∧ v = 8 ∧ g = 0) ∨ (s1 = 3 ∧ s0 = 25 ∧ v = 6 ∧ g = 3) ∨ (s1 = 4 ∧ s0 = 37 ∧ v = 6 ∧ g = 4)
def FW6 (g : Int) : Prop := g = 1 ∨ g = 2 ∨ g = 5 ∨ g = 6 ∨ g = 7 ∨ g = 8
theorem FW2_r {g v s : Int} (h : FW2 g v s) : 0 ≤ v ∧ v ≤ 4 := by unfold FW2 at h; omega
theorem FW2_f {g v s : Int} (h : FW2 g v s) : (v = 0 ∧ s = 8 ∧ g = 0) ∨ (v = 3 ∧ s = 6 ∧ g = 3) ∨ (v = 4 ∧ s = 6 ∧ g = 4) := by unfold FW2 at h; omega
theorem FW6_8 {g : Int} (h : FW6 g) (hq_1 : ¬ g = 1) (hq_2 : ¬ g = 2) (hq_5 : ¬ g = 5) (hq_6 : ¬ g = 6) (hq_7 : ¬ g = 7) : g = 8 := by unfold FW6 at h; omega

theorem dF12_boroughLine_0 : decode cX12_boroughLine 0 = .ok (.lload_n 1, 1) := by decide +kernel
theorem dF12_boroughLine_1 : decode cX12_boroughLine 1 = .ok (.ldc2_w 187, 3) := by decide +kernel
theorem dF12_boroughLine_4 : decode cX12_boroughLine 4 = .ok (.lcmp, 1) := by decide +kernel
theorem dF12_boroughLine_5 : decode cX12_boroughLine 5 = .ok (.ifCond .eq 19, 3) := by decide +kernel
theorem dF12_boroughLine_8 : decode cX12_boroughLine 8 = .ok (.lload_n 1, 1) := by decide +kernel
theorem dF12_boroughLine_9 : decode cX12_boroughLine 9 = .ok (.ldc2_w 189, 3) := by decide +kernel
theorem dF12_boroughLine_12 : decode cX12_boroughLine 12 = .ok (.lcmp, 1) := by decide +kernel
theorem dF12_boroughLine_13 : decode cX12_boroughLine 13 = .ok (.ifCond .eq 11, 3) := by decide +kernel
theorem dF12_boroughLine_16 : decode cX12_boroughLine 16 = .ok (.lload_n 1, 1) := by decide +kernel
theorem dF12_boroughLine_17 : decode cX12_boroughLine 17 = .ok (.ldc2_w 191, 3) := by decide +kernel
theorem dF12_boroughLine_20 : decode cX12_boroughLine 20 = .ok (.lcmp, 1) := by decide +kernel
theorem dF12_boroughLine_21 : decode cX12_boroughLine 21 = .ok (.ifCond .ne 109, 3) := by decide +kernel
theorem dF12_boroughLine_24 : decode cX12_boroughLine 24 = .ok (.lload_n 1, 1) := by decide +kernel
theorem dF12_boroughLine_25 : decode cX12_boroughLine 25 = .ok (.ldc2_w 187, 3) := by decide +kernel
theorem dF12_boroughLine_28 : decode cX12_boroughLine 28 = .ok (.lcmp, 1) := by decide +kernel
theorem dF12_boroughLine_29 : decode cX12_boroughLine 29 = .ok (.ifCond .ne 7, 3) := by decide +kernel
theorem dF12_boroughLine_32 : decode cX12_boroughLine 32 = .ok (.iconst 0, 1) := by decide +kernel
theorem dF12_boroughLine_33 : decode cX12_boroughLine 33 = .ok (.goto 16, 3) := by decide +kernel
theorem dF12_boroughLine_36 : decode cX12_boroughLine 36 = .ok (.lload_n 1, 1) := by decide +kernel
theorem dF12_boroughLine_37 : decode cX12_boroughLine 37 = .ok (.ldc2_w 189, 3) := by decide +kernel
theorem dF12_boroughLine_40 : decode cX12_boroughLine 40 = .ok (.lcmp, 1) := by decide +kernel
theorem dF12_boroughLine_41 : decode cX12_boroughLine 41 = .ok (.ifCond .ne 7, 3) := by decide +kernel
theorem dF12_boroughLine_44 : decode cX12_boroughLine 44 = .ok (.iconst 3, 1) := by decide +kernel
theorem dF12_boroughLine_45 : decode cX12_boroughLine 45 = .ok (.goto 4, 3) := by decide +kernel
theorem dF12_boroughLine_48 : decode cX12_boroughLine 48 = .ok (.iconst 4, 1) := by decide +kernel
theorem dF12_boroughLine_49 : decode cX12_boroughLine 49 = .ok (.istore 4, 2) := by decide +kernel
theorem dF12_boroughLine_51 : decode cX12_boroughLine 51 = .ok (.lload_n 1, 1) := by decide +kernel
theorem dF12_boroughLine_52 : decode cX12_boroughLine 52 = .ok (.ldc2_w 187, 3) := by decide +kernel
theorem dF12_boroughLine_55 : decode cX12_boroughLine 55 = .ok (.lcmp, 1) := by decide +kernel
theorem dF12_boroughLine_56 : decode cX12_boroughLine 56 = .ok (.ifCond .ne 8, 3) := by decide +kernel
theorem dF12_boroughLine_59 : decode cX12_boroughLine 59 = .ok (.bipush 8, 2) := by decide +kernel
theorem dF12_boroughLine_61 : decode cX12_boroughLine 61 = .ok (.goto 18, 3) := by decide +kernel
theorem dF12_boroughLine_64 : decode cX12_boroughLine 64 = .ok (.lload_n 1, 1) := by decide +kernel
theorem dF12_boroughLine_65 : decode cX12_boroughLine 65 = .ok (.ldc2_w 189, 3) := by decide +kernel
theorem dF12_boroughLine_68 : decode cX12_boroughLine 68 = .ok (.lcmp, 1) := by decide +kernel
theorem dF12_boroughLine_69 : decode cX12_boroughLine 69 = .ok (.ifCond .ne 8, 3) := by decide +kernel
theorem dF12_boroughLine_72 : decode cX12_boroughLine 72 = .ok (.bipush 6, 2) := by decide +kernel
theorem dF12_boroughLine_74 : decode cX12_boroughLine 74 = .ok (.goto 5, 3) := by decide +kernel
theorem dF12_boroughLine_77 : decode cX12_boroughLine 77 = .ok (.bipush 6, 2) := by decide +kernel
theorem dF12_boroughLine_79 : decode cX12_boroughLine 79 = .ok (.istore 5, 2) := by decide +kernel
theorem dF12_boroughLine_81 : decode cX12_boroughLine 81 = .ok (.aload_n 0, 1) := by decide +kernel
theorem dF12_boroughLine_82 : decode cX12_boroughLine 82 = .ok (.iload 4, 2) := by decide +kernel
theorem dF12_boroughLine_84 : decode cX12_boroughLine 84 = .ok (.iload 5, 2) := by decide +kernel
theorem dF12_boroughLine_86 : decode cX12_boroughLine 86 = .ok (.iload_n 3, 1) := by decide +kernel
theorem dF12_boroughLine_87 : decode cX12_boroughLine 87 = .ok (.invokevirtual 193, 3) := by decide +kernel
theorem dF12_boroughLine_90 : decode cX12_boroughLine 90 = .ok (.aload_n 0, 1) := by decide +kernel
theorem dF12_boroughLine_91 : decode cX12_boroughLine 91 = .ok (.invokevirtual 152, 3) := by decide +kernel
theorem dF12_boroughLine_94 : decode cX12_boroughLine 94 = .ok (.aload_n 0, 1) := by decide +kernel
theorem dF12_boroughLine_95 : decode cX12_boroughLine 95 = .ok (.iload 4, 2) := by decide +kernel
theorem dF12_boroughLine_97 : decode cX12_boroughLine 97 = .ok (.lload_n 1, 1) := by decide +kernel
theorem dF12_boroughLine_98 : decode cX12_boroughLine 98 = .ok (.ldc2_w 187, 3) := by decide +kernel
theorem dF12_boroughLine_101 : decode cX12_boroughLine 101 = .ok (.lcmp, 1) := by decide +kernel
theorem dF12_boroughLine_102 : decode cX12_boroughLine 102 = .ok (.ifCond .ne 7, 3) := by decide +kernel
theorem dF12_boroughLine_105 : decode cX12_boroughLine 105 = .ok (.iconst 5, 1) := by decide +kernel
theorem dF12_boroughLine_106 : decode cX12_boroughLine 106 = .ok (.goto 18, 3) := by decide +kernel
theorem dF12_boroughLine_109 : decode cX12_boroughLine 109 = .ok (.lload_n 1, 1) := by decide +kernel
theorem dF12_boroughLine_110 : decode cX12_boroughLine 110 = .ok (.ldc2_w 189, 3) := by decide +kernel
theorem dF12_boroughLine_113 : decode cX12_boroughLine 113 = .ok (.lcmp, 1) := by decide +kernel
theorem dF12_boroughLine_114 : decode cX12_boroughLine 114 = .ok (.ifCond .ne 8, 3) := by decide +kernel
theorem dF12_boroughLine_117 : decode cX12_boroughLine 117 = .ok (.bipush 25, 2) := by decide +kernel
theorem dF12_boroughLine_119 : decode cX12_boroughLine 119 = .ok (.goto 5, 3) := by decide +kernel
theorem dF12_boroughLine_122 : decode cX12_boroughLine 122 = .ok (.bipush 37, 2) := by decide +kernel
theorem dF12_boroughLine_124 : decode cX12_boroughLine 124 = .ok (.iload 5, 2) := by decide +kernel
theorem dF12_boroughLine_126 : decode cX12_boroughLine 126 = .ok (.invokevirtual 197, 3) := by decide +kernel
theorem dF12_boroughLine_129 : decode cX12_boroughLine 129 = .ok (.ireturn, 1) := by decide +kernel
theorem dF12_boroughLine_130 : decode cX12_boroughLine 130 = .ok (.lload_n 1, 1) := by decide +kernel
theorem dF12_boroughLine_131 : decode cX12_boroughLine 131 = .ok (.ldc2_w 200, 3) := by decide +kernel
theorem dF12_boroughLine_134 : decode cX12_boroughLine 134 = .ok (.lcmp, 1) := by decide +kernel
theorem dF12_boroughLine_135 : decode cX12_boroughLine 135 = .ok (.ifCond .eq 48, 3) := by decide +kernel
theorem dF12_boroughLine_138 : decode cX12_boroughLine 138 = .ok (.lload_n 1, 1) := by decide +kernel
theorem dF12_boroughLine_139 : decode cX12_boroughLine 139 = .ok (.ldc2_w 202, 3) := by decide +kernel
theorem dF12_boroughLine_142 : decode cX12_boroughLine 142 = .ok (.lcmp, 1) := by decide +kernel
theorem dF12_boroughLine_143 : decode cX12_boroughLine 143 = .ok (.ifCond .eq 40, 3) := by decide +kernel
theorem dF12_boroughLine_146 : decode cX12_boroughLine 146 = .ok (.lload_n 1, 1) := by decide +kernel
theorem dF12_boroughLine_147 : decode cX12_boroughLine 147 = .ok (.ldc2_w 204, 3) := by decide +kernel
theorem dF12_boroughLine_150 : decode cX12_boroughLine 150 = .ok (.lcmp, 1) := by decide +kernel
theorem dF12_boroughLine_151 : decode cX12_boroughLine 151 = .ok (.ifCond .eq 32, 3) := by decide +kernel
theorem dF12_boroughLine_154 : decode cX12_boroughLine 154 = .ok (.lload_n 1, 1) := by decide +kernel
theorem dF12_boroughLine_155 : decode cX12_boroughLine 155 = .ok (.ldc2_w 206, 3) := by decide +kernel
theorem dF12_boroughLine_158 : decode cX12_boroughLine 158 = .ok (.lcmp, 1) := by decide +kernel
theorem dF12_boroughLine_159 : decode cX12_boroughLine 159 = .ok (.ifCond .eq 24, 3) := by decide +kernel
theorem dF12_boroughLine_162 : decode cX12_boroughLine 162 = .ok (.lload_n 1, 1) := by decide +kernel
theorem dF12_boroughLine_163 : decode cX12_boroughLine 163 = .ok (.ldc2_w 208, 3) := by decide +kernel
theorem dF12_boroughLine_166 : decode cX12_boroughLine 166 = .ok (.lcmp, 1) := by decide +kernel
theorem dF12_boroughLine_167 : decode cX12_boroughLine 167 = .ok (.ifCond .eq 16, 3) := by decide +kernel
theorem dF12_boroughLine_170 : decode cX12_boroughLine 170 = .ok (.lload_n 1, 1) := by decide +kernel
theorem dF12_boroughLine_171 : decode cX12_boroughLine 171 = .ok (.ldc2_w 210, 3) := by decide +kernel
theorem dF12_boroughLine_174 : decode cX12_boroughLine 174 = .ok (.lcmp, 1) := by decide +kernel
theorem dF12_boroughLine_175 : decode cX12_boroughLine 175 = .ok (.ifCond .eq 8, 3) := by decide +kernel
theorem dF12_boroughLine_178 : decode cX12_boroughLine 178 = .ok (.aload_n 0, 1) := by decide +kernel
theorem dF12_boroughLine_179 : decode cX12_boroughLine 179 = .ok (.invokevirtual 140, 3) := by decide +kernel
theorem dF12_boroughLine_182 : decode cX12_boroughLine 182 = .ok (.ireturn, 1) := by decide +kernel
theorem dF12_boroughLine_183 : decode cX12_boroughLine 183 = .ok (.aload_n 0, 1) := by decide +kernel
theorem dF12_boroughLine_184 : decode cX12_boroughLine 184 = .ok (.invokevirtual 152, 3) := by decide +kernel
theorem dF12_boroughLine_187 : decode cX12_boroughLine 187 = .ok (.lload_n 1, 1) := by decide +kernel
theorem dF12_boroughLine_188 : decode cX12_boroughLine 188 = .ok (.ldc2_w 200, 3) := by decide +kernel
theorem dF12_boroughLine_191 : decode cX12_boroughLine 191 = .ok (.lcmp, 1) := by decide +kernel
theorem dF12_boroughLine_192 : decode cX12_boroughLine 192 = .ok (.ifCond .eq 11, 3) := by decide +kernel
theorem dF12_boroughLine_195 : decode cX12_boroughLine 195 = .ok (.lload_n 1, 1) := by decide +kernel
theorem dF12_boroughLine_196 : decode cX12_boroughLine 196 = .ok (.ldc2_w 202, 3) := by decide +kernel
theorem dF12_boroughLine_199 : decode cX12_boroughLine 199 = .ok (.lcmp, 1) := by decide +kernel
theorem dF12_boroughLine_200 : decode cX12_boroughLine 200 = .ok (.ifCond .ne 23, 3) := by decide +kernel
theorem dF12_boroughLine_203 : decode cX12_boroughLine 203 = .ok (.lload_n 1, 1) := by decide +kernel
theorem dF12_boroughLine_204 : decode cX12_boroughLine 204 = .ok (.ldc2_w 200, 3) := by decide +kernel
theorem dF12_boroughLine_207 : decode cX12_boroughLine 207 = .ok (.lcmp, 1) := by decide +kernel
theorem dF12_boroughLine_208 : decode cX12_boroughLine 208 = .ok (.ifCond .ne 10, 3) := by decide +kernel
theorem dF12_boroughLine_211 : decode cX12_boroughLine 211 = .ok (.aload_n 0, 1) := by decide +kernel
theorem dF12_boroughLine_212 : decode cX12_boroughLine 212 = .ok (.invokevirtual 212, 3) := by decide +kernel
theorem dF12_boroughLine_215 : decode cX12_boroughLine 215 = .ok (.goto 7, 3) := by decide +kernel
theorem dF12_boroughLine_218 : decode cX12_boroughLine 218 = .ok (.aload_n 0, 1) := by decide +kernel
theorem dF12_boroughLine_219 : decode cX12_boroughLine 219 = .ok (.invokevirtual 215, 3) := by decide +kernel
theorem dF12_boroughLine_222 : decode cX12_boroughLine 222 = .ok (.ireturn, 1) := by decide +kernel
theorem dF12_boroughLine_223 : decode cX12_boroughLine 223 = .ok (.lload_n 1, 1) := by decide +kernel
theorem dF12_boroughLine_224 : decode cX12_boroughLine 224 = .ok (.ldc2_w 204, 3) := by decide +kernel
theorem dF12_boroughLine_227 : decode cX12_boroughLine 227 = .ok (.lcmp, 1) := by decide +kernel
theorem dF12_boroughLine_228 : decode cX12_boroughLine 228 = .ok (.ifCond .ne 10, 3) := by decide +kernel
theorem dF12_boroughLine_231 : decode cX12_boroughLine 231 = .ok (.aload_n 0, 1) := by decide +kernel
theorem dF12_boroughLine_232 : decode cX12_boroughLine 232 = .ok (.invokevirtual 218, 3) := by decide +kernel
theorem dF12_boroughLine_235 : decode cX12_boroughLine 235 = .ok (.goto 37, 3) := by decide +kernel
theorem dF12_boroughLine_238 : decode cX12_boroughLine 238 = .ok (.lload_n 1, 1) := by decide +kernel
theorem dF12_boroughLine_239 : decode cX12_boroughLine 239 = .ok (.ldc2_w 206, 3) := by decide +kernel
theorem dF12_boroughLine_242 : decode cX12_boroughLine 242 = .ok (.lcmp, 1) := by decide +kernel
theorem dF12_boroughLine_243 : decode cX12_boroughLine 243 = .ok (.ifCond .ne 10, 3) := by decide +kernel
theorem dF12_boroughLine_246 : decode cX12_boroughLine 246 = .ok (.aload_n 0, 1) := by decide +kernel
theorem dF12_boroughLine_247 : decode cX12_boroughLine 247 = .ok (.invokevirtual 221, 3) := by decide +kernel
theorem dF12_boroughLine_250 : decode cX12_boroughLine 250 = .ok (.goto 22, 3) := by decide +kernel
theorem dF12_boroughLine_253 : decode cX12_boroughLine 253 = .ok (.lload_n 1, 1) := by decide +kernel
theorem dF12_boroughLine_254 : decode cX12_boroughLine 254 = .ok (.ldc2_w 208, 3) := by decide +kernel
theorem dF12_boroughLine_257 : decode cX12_boroughLine 257 = .ok (.lcmp, 1) := by decide +kernel
theorem dF12_boroughLine_258 : decode cX12_boroughLine 258 = .ok (.ifCond .ne 10, 3) := by decide +kernel
theorem dF12_boroughLine_261 : decode cX12_boroughLine 261 = .ok (.aload_n 0, 1) := by decide +kernel
theorem dF12_boroughLine_262 : decode cX12_boroughLine 262 = .ok (.invokevirtual 224, 3) := by decide +kernel
theorem dF12_boroughLine_265 : decode cX12_boroughLine 265 = .ok (.goto 7, 3) := by decide +kernel
theorem dF12_boroughLine_268 : decode cX12_boroughLine 268 = .ok (.aload_n 0, 1) := by decide +kernel
theorem dF12_boroughLine_269 : decode cX12_boroughLine 269 = .ok (.invokevirtual 227, 3) := by decide +kernel
theorem dF12_boroughLine_272 : decode cX12_boroughLine 272 = .ok (.ireturn, 1) := by decide +kernel
def is_F12_boroughLine : Nat → List Nat := fun d => if d = 24 then [0, 1, 3] else if d = 49 then [0, 1, 3] else if d = 79 then [0, 1, 3, 4] else if d = 124 then [5] else if d = 183 then [0, 1] else []
set_option maxRecDepth 100000 in
def b_F12_boroughLine_272 (J : Nat → List qV → List qV → qW → Prop) (Q : qR) : qK := x_zret Q
set_option maxRecDepth 100000 in
theorem s_F12_boroughLine_272 {p : Program} {l : Launch} {e : Env} {R : Room} {s : State} {m : MethodId} {args : Array Value} {below : List Frame} {meth : Method} {c : Code} {nW : Nat} {dC : Nat → ClassId} {dI : Nat → Nat → Nat} {k : Nat → ClassId} {g : Nat → Nat} {A : Nat → Prop} {J : Nat → List qV → List qV → qW → Prop} {Q : qR} (X : q_X p R s m args meth c cX12_boroughLine 6 nW 5 114 RX12 (some .boolean) dC dI k g A) (hJ : ∀ d : Nat, q_Sd p l e R s m args below meth c 6 nW dC dI k g A (MQ below (q_post (dC, dI) k g nW Q A) args s 0 0 A) d (x_cut (is_F12_boroughLine d) (J d))) : q_Sd p l e R s m args below meth c 6 nW dC dI k g A (MQ below (q_post (dC, dI) k g nW Q A) args s 0 0 A) 272 (b_F12_boroughLine_272 J Q) := by
  unfold b_F12_boroughLine_272
  exact s_zret X dF12_boroughLine_272
set_option maxRecDepth 100000 in
def b_F12_boroughLine_222 (J : Nat → List qV → List qV → qW → Prop) (Q : qR) : qK := x_zret Q
set_option maxRecDepth 100000 in
theorem s_F12_boroughLine_222 {p : Program} {l : Launch} {e : Env} {R : Room} {s : State} {m : MethodId} {args : Array Value} {below : List Frame} {meth : Method} {c : Code} {nW : Nat} {dC : Nat → ClassId} {dI : Nat → Nat → Nat} {k : Nat → ClassId} {g : Nat → Nat} {A : Nat → Prop} {J : Nat → List qV → List qV → qW → Prop} {Q : qR} (X : q_X p R s m args meth c cX12_boroughLine 6 nW 5 114 RX12 (some .boolean) dC dI k g A) (hJ : ∀ d : Nat, q_Sd p l e R s m args below meth c 6 nW dC dI k g A (MQ below (q_post (dC, dI) k g nW Q A) args s 0 0 A) d (x_cut (is_F12_boroughLine d) (J d))) : q_Sd p l e R s m args below meth c 6 nW dC dI k g A (MQ below (q_post (dC, dI) k g nW Q A) args s 0 0 A) 222 (b_F12_boroughLine_222 J Q) := by
  unfold b_F12_boroughLine_222
  exact s_zret X dF12_boroughLine_222
set_option maxRecDepth 100000 in
def b_F12_boroughLine_203 (J : Nat → List qV → List qV → qW → Prop) (Q : qR) : qK := x_lload 1 (x_lng 1886351218 (x_lcmp (x_if_ne (x_aload 0 (x_call (some 12) 1 sp_F12_caughtLine (x_nw (b_F12_boroughLine_222 J Q)))) (x_aload 0 (x_call (some 12) 1 sp_F12_poorLine (x_nw (b_F12_boroughLine_222 J Q)))))))
set_option maxRecDepth 100000 in
theorem s_F12_boroughLine_203 {p : Program} {l : Launch} {e : Env} {R : Room} {s : State} {m : MethodId} {args : Array Value} {below : List Frame} {meth : Method} {c : Code} {nW : Nat} {dC : Nat → ClassId} {dI : Nat → Nat → Nat} {k : Nat → ClassId} {g : Nat → Nat} {A : Nat → Prop} {J : Nat → List qV → List qV → qW → Prop} {Q : qR} (X : q_X p R s m args meth c cX12_boroughLine 6 nW 5 114 RX12 (some .boolean) dC dI k g A) (hJ : ∀ d : Nat, q_Sd p l e R s m args below meth c 6 nW dC dI k g A (MQ below (q_post (dC, dI) k g nW Q A) args s 0 0 A) d (x_cut (is_F12_boroughLine d) (J d))) : q_Sd p l e R s m args below meth c 6 nW dC dI k g A (MQ below (q_post (dC, dI) k g nW Q A) args s 0 0 A) 203 (b_F12_boroughLine_203 J Q) := by
  unfold b_F12_boroughLine_203
  refine s_lload_n X rfl dF12_boroughLine_203 ?_
  refine s_ldc2 X ⟨by decide, by decide⟩ tw_1106 dF12_boroughLine_204 ?_
  refine s_lcmp X dF12_boroughLine_207 ?_
  refine s_if_ne X (tgt := 218) dF12_boroughLine_208 (by decide) ?_ ?_
  · refine s_aload_n X rfl dF12_boroughLine_218 ?_
    refine s_callV X (m_F12_caughtLine l) tw_1121 tw_1122 tw_1552 tw_134 tw_1123 rfl (by decide +kernel) ⟨by decide, by decide⟩ dF12_boroughLine_219 ?_
    refine s_nw ?_
    exact s_F12_boroughLine_222 X hJ
  · refine s_aload_n X rfl dF12_boroughLine_211 ?_
    refine s_callV X (m_F12_poorLine l) tw_1112 tw_1113 tw_1609 tw_134 tw_1114 rfl (by decide +kernel) ⟨by decide, by decide⟩ dF12_boroughLine_212 ?_
    refine s_nw ?_
    refine s_goto X (tgt := 222) dF12_boroughLine_215 (by decide) ?_
    exact s_F12_boroughLine_222 X hJ
set_option maxRecDepth 100000 in
def b_F12_boroughLine_183 (J : Nat → List qV → List qV → qW → Prop) (Q : qR) : qK := x_aload 0 (x_call (some 12) 1 sp_F12_token (x_nw (x_lload 1 (x_lng 1886351218 (x_lcmp (x_if_eq (b_F12_boroughLine_203 J Q) (x_lload 1 (x_lng 109270232688756 (x_lcmp (x_if_ne (x_lload 1 (x_lng 426953501796 (x_lcmp (x_if_ne (x_lload 1 (x_lng 1885434739 (x_lcmp (x_if_ne (x_lload 1 (x_lng 427071599731 (x_lcmp (x_if_ne (x_aload 0 (x_call (some 12) 1 sp_F12_wishLine (x_nw (b_F12_boroughLine_272 J Q)))) (x_aload 0 (x_call (some 12) 1 sp_F12_costLine (x_nw (b_F12_boroughLine_272 J Q)))))))) (x_aload 0 (x_call (some 12) 1 sp_F12_passLine (x_nw (b_F12_boroughLine_272 J Q)))))))) (x_aload 0 (x_call (some 12) 1 sp_F12_childLine (x_nw (b_F12_boroughLine_272 J Q)))))))) (b_F12_boroughLine_203 J Q)))))))))))
set_option maxRecDepth 100000 in
theorem s_F12_boroughLine_183 {p : Program} {l : Launch} {e : Env} {R : Room} {s : State} {m : MethodId} {args : Array Value} {below : List Frame} {meth : Method} {c : Code} {nW : Nat} {dC : Nat → ClassId} {dI : Nat → Nat → Nat} {k : Nat → ClassId} {g : Nat → Nat} {A : Nat → Prop} {J : Nat → List qV → List qV → qW → Prop} {Q : qR} (X : q_X p R s m args meth c cX12_boroughLine 6 nW 5 114 RX12 (some .boolean) dC dI k g A) (hJ : ∀ d : Nat, q_Sd p l e R s m args below meth c 6 nW dC dI k g A (MQ below (q_post (dC, dI) k g nW Q A) args s 0 0 A) d (x_cut (is_F12_boroughLine d) (J d))) : q_Sd p l e R s m args below meth c 6 nW dC dI k g A (MQ below (q_post (dC, dI) k g nW Q A) args s 0 0 A) 183 (b_F12_boroughLine_183 J Q) := by
  unfold b_F12_boroughLine_183
  refine s_aload_n X rfl dF12_boroughLine_183 ?_
  refine s_callV X (m_F12_token l) tw_1070 tw_1071 tw_1627 tw_134 tw_1072 rfl (by decide +kernel) ⟨by decide, by decide⟩ dF12_boroughLine_184 ?_
  refine s_nw ?_
  refine s_lload_n X rfl dF12_boroughLine_187 ?_
  refine s_ldc2 X ⟨by decide, by decide⟩ tw_1106 dF12_boroughLine_188 ?_
  refine s_lcmp X dF12_boroughLine_191 ?_
  refine s_if_eq X (tgt := 203) dF12_boroughLine_192 (by decide) ?_ ?_
  · exact s_F12_boroughLine_203 X hJ
  · refine s_lload_n X rfl dF12_boroughLine_195 ?_
    refine s_ldc2 X ⟨by decide, by decide⟩ tw_1107 dF12_boroughLine_196 ?_
    refine s_lcmp X dF12_boroughLine_199 ?_
    refine s_if_ne X (tgt := 223) dF12_boroughLine_200 (by decide) ?_ ?_
    · refine s_lload_n X rfl dF12_boroughLine_223 ?_
      refine s_ldc2 X ⟨by decide, by decide⟩ tw_1108 dF12_boroughLine_224 ?_
      refine s_lcmp X dF12_boroughLine_227 ?_
      refine s_if_ne X (tgt := 238) dF12_boroughLine_228 (by decide) ?_ ?_
      · refine s_lload_n X rfl dF12_boroughLine_238 ?_
        refine s_ldc2 X ⟨by decide, by decide⟩ tw_1109 dF12_boroughLine_239 ?_
        refine s_lcmp X dF12_boroughLine_242 ?_
        refine s_if_ne X (tgt := 253) dF12_boroughLine_243 (by decide) ?_ ?_
        · refine s_lload_n X rfl dF12_boroughLine_253 ?_
          refine s_ldc2 X ⟨by decide, by decide⟩ tw_1110 dF12_boroughLine_254 ?_
          refine s_lcmp X dF12_boroughLine_257 ?_
          refine s_if_ne X (tgt := 268) dF12_boroughLine_258 (by decide) ?_ ?_
          · refine s_aload_n X rfl dF12_boroughLine_268 ?_
            refine s_callV X (m_F12_wishLine l) tw_1140 tw_1141 tw_1630 tw_134 tw_1142 rfl (by decide +kernel) ⟨by decide, by decide⟩ dF12_boroughLine_269 ?_
            refine s_nw ?_
            exact s_F12_boroughLine_272 X hJ
          · refine s_aload_n X rfl dF12_boroughLine_261 ?_
            refine s_callV X (m_F12_costLine l) tw_1130 tw_1131 tw_1555 tw_134 tw_1132 rfl (by decide +kernel) ⟨by decide, by decide⟩ dF12_boroughLine_262 ?_
            refine s_nw ?_
            refine s_goto X (tgt := 272) dF12_boroughLine_265 (by decide) ?_
            exact s_F12_boroughLine_272 X hJ
        · refine s_aload_n X rfl dF12_boroughLine_246 ?_
          refine s_callV X (m_F12_passLine l) tw_1127 tw_1128 tw_1606 tw_134 tw_1129 rfl (by decide +kernel) ⟨by decide, by decide⟩ dF12_boroughLine_247 ?_
          refine s_nw ?_
          refine s_goto X (tgt := 272) dF12_boroughLine_250 (by decide) ?_
          exact s_F12_boroughLine_272 X hJ
      · refine s_aload_n X rfl dF12_boroughLine_231 ?_
        refine s_callV X (m_F12_childLine l) tw_1124 tw_1125 tw_1553 tw_134 tw_1126 rfl (by decide +kernel) ⟨by decide, by decide⟩ dF12_boroughLine_232 ?_
        refine s_nw ?_
        refine s_goto X (tgt := 272) dF12_boroughLine_235 (by decide) ?_
        exact s_F12_boroughLine_272 X hJ
    · exact s_F12_boroughLine_203 X hJ
set_option maxRecDepth 100000 in
def b_F12_boroughLine_171 (J : Nat → List qV → List qV → qW → Prop) (Q : qR) : qK := x_lng 2003399528 (x_lcmp (x_if_eq (x_cut [0, 1] (J 183)) (x_aload 0 (x_call (some 12) 1 sp_F12_fails (x_nw (x_zret Q))))))
set_option maxRecDepth 100000 in
theorem s_F12_boroughLine_171 {p : Program} {l : Launch} {e : Env} {R : Room} {s : State} {m : MethodId} {args : Array Value} {below : List Frame} {meth : Method} {c : Code} {nW : Nat} {dC : Nat → ClassId} {dI : Nat → Nat → Nat} {k : Nat → ClassId} {g : Nat → Nat} {A : Nat → Prop} {J : Nat → List qV → List qV → qW → Prop} {Q : qR} (X : q_X p R s m args meth c cX12_boroughLine 6 nW 5 114 RX12 (some .boolean) dC dI k g A) (hJ : ∀ d : Nat, q_Sd p l e R s m args below meth c 6 nW dC dI k g A (MQ below (q_post (dC, dI) k g nW Q A) args s 0 0 A) d (x_cut (is_F12_boroughLine d) (J d))) : q_Sd p l e R s m args below meth c 6 nW dC dI k g A (MQ below (q_post (dC, dI) k g nW Q A) args s 0 0 A) 171 (b_F12_boroughLine_171 J Q) := by
  unfold b_F12_boroughLine_171
  refine s_ldc2 X ⟨by decide, by decide⟩ tw_1111 dF12_boroughLine_171 ?_
  refine s_lcmp X dF12_boroughLine_174 ?_
  refine s_if_eq X (tgt := 183) dF12_boroughLine_175 (by decide) ?_ ?_
  · exact hJ 183
  · refine s_aload_n X rfl dF12_boroughLine_178 ?_
    refine s_callV X (m_F12_fails l) tw_1103 tw_1104 tw_1568 tw_134 tw_1105 rfl (by decide +kernel) ⟨by decide, by decide⟩ dF12_boroughLine_179 ?_
    refine s_nw ?_
    exact s_zret X dF12_boroughLine_182
set_option maxRecDepth 100000 in
def b_F12_boroughLine_124 (J : Nat → List qV → List qV → qW → Prop) (Q : qR) : qK := x_iload 5 (x_call (some 12) 4 sp_F12_furtherLine (x_nw (x_zret Q)))
set_option maxRecDepth 100000 in
theorem s_F12_boroughLine_124 {p : Program} {l : Launch} {e : Env} {R : Room} {s : State} {m : MethodId} {args : Array Value} {below : List Frame} {meth : Method} {c : Code} {nW : Nat} {dC : Nat → ClassId} {dI : Nat → Nat → Nat} {k : Nat → ClassId} {g : Nat → Nat} {A : Nat → Prop} {J : Nat → List qV → List qV → qW → Prop} {Q : qR} (X : q_X p R s m args meth c cX12_boroughLine 6 nW 5 114 RX12 (some .boolean) dC dI k g A) (hJ : ∀ d : Nat, q_Sd p l e R s m args below meth c 6 nW dC dI k g A (MQ below (q_post (dC, dI) k g nW Q A) args s 0 0 A) d (x_cut (is_F12_boroughLine d) (J d))) : q_Sd p l e R s m args below meth c 6 nW dC dI k g A (MQ below (q_post (dC, dI) k g nW Q A) args s 0 0 A) 124 (b_F12_boroughLine_124 J Q) := by
  unfold b_F12_boroughLine_124
  refine s_iload X dF12_boroughLine_124 ?_
  refine s_callV X (m_F12_furtherLine l) tw_1094 tw_1095 tw_1579 tw_134 tw_1096 rfl (by decide +kernel) ⟨by decide, by decide⟩ dF12_boroughLine_126 ?_
  refine s_nw ?_
  exact s_zret X dF12_boroughLine_129
set_option maxRecDepth 100000 in
def b_F12_boroughLine_79 (J : Nat → List qV → List qV → qW → Prop) (Q : qR) : qK := x_istore 5 (x_aload 0 (x_iload 4 (x_iload 5 (x_iload 3 (x_call (some 12) 4 sp_F12_full (x_nw (x_aload 0 (x_call (some 12) 1 sp_F12_token (x_nw (x_aload 0 (x_iload 4 (x_lload 1 (x_lng 123581014175598 (x_lcmp (x_if_ne (x_lload 1 (x_lng 1685024626 (x_lcmp (x_if_ne (x_int 37 (x_cut [5] (J 124))) (x_int 25 (x_cut [5] (J 124))))))) (x_int 5 (x_cut [5] (J 124))))))))))))))))))
set_option maxRecDepth 100000 in
theorem s_F12_boroughLine_79 {p : Program} {l : Launch} {e : Env} {R : Room} {s : State} {m : MethodId} {args : Array Value} {below : List Frame} {meth : Method} {c : Code} {nW : Nat} {dC : Nat → ClassId} {dI : Nat → Nat → Nat} {k : Nat → ClassId} {g : Nat → Nat} {A : Nat → Prop} {J : Nat → List qV → List qV → qW → Prop} {Q : qR} (X : q_X p R s m args meth c cX12_boroughLine 6 nW 5 114 RX12 (some .boolean) dC dI k g A) (hJ : ∀ d : Nat, q_Sd p l e R s m args below meth c 6 nW dC dI k g A (MQ below (q_post (dC, dI) k g nW Q A) args s 0 0 A) d (x_cut (is_F12_boroughLine d) (J d))) : q_Sd p l e R s m args below meth c 6 nW dC dI k g A (MQ below (q_post (dC, dI) k g nW Q A) args s 0 0 A) 79 (b_F12_boroughLine_79 J Q) := by
  unfold b_F12_boroughLine_79
  refine s_istore X (by decide) dF12_boroughLine_79 ?_
  refine s_aload_n X rfl dF12_boroughLine_81 ?_
  refine s_iload X dF12_boroughLine_82 ?_
  refine s_iload X dF12_boroughLine_84 ?_
  refine s_iload_n X rfl dF12_boroughLine_86 ?_
  refine s_callV X (m_F12_full l) tw_1088 tw_1089 tw_1578 tw_134 tw_1090 rfl (by decide +kernel) ⟨by decide, by decide⟩ dF12_boroughLine_87 ?_
  refine s_nw ?_
  refine s_aload_n X rfl dF12_boroughLine_90 ?_
  refine s_callV X (m_F12_token l) tw_1070 tw_1071 tw_1627 tw_134 tw_1072 rfl (by decide +kernel) ⟨by decide, by decide⟩ dF12_boroughLine_91 ?_
  refine s_nw ?_
  refine s_aload_n X rfl dF12_boroughLine_94 ?_
  refine s_iload X dF12_boroughLine_95 ?_
  refine s_lload_n X rfl dF12_boroughLine_97 ?_
  refine s_ldc2 X ⟨by decide, by decide⟩ tw_1085 dF12_boroughLine_98 ?_
  refine s_lcmp X dF12_boroughLine_101 ?_
  refine s_if_ne X (tgt := 109) dF12_boroughLine_102 (by decide) ?_ ?_
  · refine s_lload_n X rfl dF12_boroughLine_109 ?_
    refine s_ldc2 X ⟨by decide, by decide⟩ tw_1086 dF12_boroughLine_110 ?_
    refine s_lcmp X dF12_boroughLine_113 ?_
    refine s_if_ne X (tgt := 122) dF12_boroughLine_114 (by decide) ?_ ?_
    · refine s_bipush X ⟨by decide, by decide⟩ (by decide) dF12_boroughLine_122 ?_
      exact hJ 124
    · refine s_bipush X ⟨by decide, by decide⟩ (by decide) dF12_boroughLine_117 ?_
      refine s_goto X (tgt := 124) dF12_boroughLine_119 (by decide) ?_
      exact hJ 124
  · refine s_iconst X ⟨by decide, by decide⟩ dF12_boroughLine_105 ?_
    refine s_goto X (tgt := 124) dF12_boroughLine_106 (by decide) ?_
    exact hJ 124
set_option maxRecDepth 100000 in
def b_F12_boroughLine_49 (J : Nat → List qV → List qV → qW → Prop) (Q : qR) : qK := x_istore 4 (x_lload 1 (x_lng 123581014175598 (x_lcmp (x_if_ne (x_lload 1 (x_lng 1685024626 (x_lcmp (x_if_ne (x_int 6 (x_cut [0, 1, 3, 4] (J 79))) (x_int 6 (x_cut [0, 1, 3, 4] (J 79))))))) (x_int 8 (x_cut [0, 1, 3, 4] (J 79)))))))
set_option maxRecDepth 100000 in
theorem s_F12_boroughLine_49 {p : Program} {l : Launch} {e : Env} {R : Room} {s : State} {m : MethodId} {args : Array Value} {below : List Frame} {meth : Method} {c : Code} {nW : Nat} {dC : Nat → ClassId} {dI : Nat → Nat → Nat} {k : Nat → ClassId} {g : Nat → Nat} {A : Nat → Prop} {J : Nat → List qV → List qV → qW → Prop} {Q : qR} (X : q_X p R s m args meth c cX12_boroughLine 6 nW 5 114 RX12 (some .boolean) dC dI k g A) (hJ : ∀ d : Nat, q_Sd p l e R s m args below meth c 6 nW dC dI k g A (MQ below (q_post (dC, dI) k g nW Q A) args s 0 0 A) d (x_cut (is_F12_boroughLine d) (J d))) : q_Sd p l e R s m args below meth c 6 nW dC dI k g A (MQ below (q_post (dC, dI) k g nW Q A) args s 0 0 A) 49 (b_F12_boroughLine_49 J Q) := by
  unfold b_F12_boroughLine_49
  refine s_istore X (by decide) dF12_boroughLine_49 ?_
  refine s_lload_n X rfl dF12_boroughLine_51 ?_
  refine s_ldc2 X ⟨by decide, by decide⟩ tw_1085 dF12_boroughLine_52 ?_
  refine s_lcmp X dF12_boroughLine_55 ?_
  refine s_if_ne X (tgt := 64) dF12_boroughLine_56 (by decide) ?_ ?_
  · refine s_lload_n X rfl dF12_boroughLine_64 ?_
    refine s_ldc2 X ⟨by decide, by decide⟩ tw_1086 dF12_boroughLine_65 ?_
    refine s_lcmp X dF12_boroughLine_68 ?_
    refine s_if_ne X (tgt := 77) dF12_boroughLine_69 (by decide) ?_ ?_
    · refine s_bipush X ⟨by decide, by decide⟩ (by decide) dF12_boroughLine_77 ?_
      exact hJ 79
    · refine s_bipush X ⟨by decide, by decide⟩ (by decide) dF12_boroughLine_72 ?_
      refine s_goto X (tgt := 79) dF12_boroughLine_74 (by decide) ?_
      exact hJ 79
  · refine s_bipush X ⟨by decide, by decide⟩ (by decide) dF12_boroughLine_59 ?_
    refine s_goto X (tgt := 79) dF12_boroughLine_61 (by decide) ?_
    exact hJ 79
set_option maxRecDepth 100000 in
def b_F12_boroughLine_24 (J : Nat → List qV → List qV → qW → Prop) (Q : qR) : qK := x_lload 1 (x_lng 123581014175598 (x_lcmp (x_if_ne (x_lload 1 (x_lng 1685024626 (x_lcmp (x_if_ne (x_int 4 (x_cut [0, 1, 3] (J 49))) (x_int 3 (x_cut [0, 1, 3] (J 49))))))) (x_int 0 (x_cut [0, 1, 3] (J 49))))))
set_option maxRecDepth 100000 in
theorem s_F12_boroughLine_24 {p : Program} {l : Launch} {e : Env} {R : Room} {s : State} {m : MethodId} {args : Array Value} {below : List Frame} {meth : Method} {c : Code} {nW : Nat} {dC : Nat → ClassId} {dI : Nat → Nat → Nat} {k : Nat → ClassId} {g : Nat → Nat} {A : Nat → Prop} {J : Nat → List qV → List qV → qW → Prop} {Q : qR} (X : q_X p R s m args meth c cX12_boroughLine 6 nW 5 114 RX12 (some .boolean) dC dI k g A) (hJ : ∀ d : Nat, q_Sd p l e R s m args below meth c 6 nW dC dI k g A (MQ below (q_post (dC, dI) k g nW Q A) args s 0 0 A) d (x_cut (is_F12_boroughLine d) (J d))) : q_Sd p l e R s m args below meth c 6 nW dC dI k g A (MQ below (q_post (dC, dI) k g nW Q A) args s 0 0 A) 24 (b_F12_boroughLine_24 J Q) := by
  unfold b_F12_boroughLine_24
  refine s_lload_n X rfl dF12_boroughLine_24 ?_
  refine s_ldc2 X ⟨by decide, by decide⟩ tw_1085 dF12_boroughLine_25 ?_
  refine s_lcmp X dF12_boroughLine_28 ?_
  refine s_if_ne X (tgt := 36) dF12_boroughLine_29 (by decide) ?_ ?_
  · refine s_lload_n X rfl dF12_boroughLine_36 ?_
    refine s_ldc2 X ⟨by decide, by decide⟩ tw_1086 dF12_boroughLine_37 ?_
    refine s_lcmp X dF12_boroughLine_40 ?_
    refine s_if_ne X (tgt := 48) dF12_boroughLine_41 (by decide) ?_ ?_
    · refine s_iconst X ⟨by decide, by decide⟩ dF12_boroughLine_48 ?_
      exact hJ 49
    · refine s_iconst X ⟨by decide, by decide⟩ dF12_boroughLine_44 ?_
      refine s_goto X (tgt := 49) dF12_boroughLine_45 (by decide) ?_
      exact hJ 49
  · refine s_iconst X ⟨by decide, by decide⟩ dF12_boroughLine_32 ?_
    refine s_goto X (tgt := 49) dF12_boroughLine_33 (by decide) ?_
    exact hJ 49
set_option maxRecDepth 100000 in
def b_F12_boroughLine_0 (J : Nat → List qV → List qV → qW → Prop) (Q : qR) : qK := x_lload 1 (x_lng 123581014175598 (x_lcmp (x_if_eq (x_cut [0, 1, 3] (J 24)) (x_lload 1 (x_lng 1685024626 (x_lcmp (x_if_eq (x_cut [0, 1, 3] (J 24)) (x_lload 1 (x_lng 2003792491 (x_lcmp (x_if_ne (x_lload 1 (x_lng 1886351218 (x_lcmp (x_if_eq (x_cut [0, 1] (J 183)) (x_lload 1 (x_lng 109270232688756 (x_lcmp (x_if_eq (x_cut [0, 1] (J 183)) (x_lload 1 (x_lng 426953501796 (x_lcmp (x_if_eq (x_cut [0, 1] (J 183)) (x_lload 1 (x_lng 1885434739 (x_lcmp (x_if_eq (x_cut [0, 1] (J 183)) (x_lload 1 (x_lng 427071599731 (x_lcmp (x_if_eq (x_cut [0, 1] (J 183)) (x_lload 1 (b_F12_boroughLine_171 J Q)))))))))))))))))))))) (x_cut [0, 1, 3] (J 24)))))))))))))
set_option maxRecDepth 100000 in
theorem s_F12_boroughLine_0 {p : Program} {l : Launch} {e : Env} {R : Room} {s : State} {m : MethodId} {args : Array Value} {below : List Frame} {meth : Method} {c : Code} {nW : Nat} {dC : Nat → ClassId} {dI : Nat → Nat → Nat} {k : Nat → ClassId} {g : Nat → Nat} {A : Nat → Prop} {J : Nat → List qV → List qV → qW → Prop} {Q : qR} (X : q_X p R s m args meth c cX12_boroughLine 6 nW 5 114 RX12 (some .boolean) dC dI k g A) (hJ : ∀ d : Nat, q_Sd p l e R s m args below meth c 6 nW dC dI k g A (MQ below (q_post (dC, dI) k g nW Q A) args s 0 0 A) d (x_cut (is_F12_boroughLine d) (J d))) : q_Sd p l e R s m args below meth c 6 nW dC dI k g A (MQ below (q_post (dC, dI) k g nW Q A) args s 0 0 A) 0 (b_F12_boroughLine_0 J Q) := by
  unfold b_F12_boroughLine_0
  refine s_lload_n X rfl dF12_boroughLine_0 ?_
  refine s_ldc2 X ⟨by decide, by decide⟩ tw_1085 dF12_boroughLine_1 ?_
  refine s_lcmp X dF12_boroughLine_4 ?_
  refine s_if_eq X (tgt := 24) dF12_boroughLine_5 (by decide) ?_ ?_
  · exact hJ 24
  · refine s_lload_n X rfl dF12_boroughLine_8 ?_
    refine s_ldc2 X ⟨by decide, by decide⟩ tw_1086 dF12_boroughLine_9 ?_
    refine s_lcmp X dF12_boroughLine_12 ?_
    refine s_if_eq X (tgt := 24) dF12_boroughLine_13 (by decide) ?_ ?_
    · exact hJ 24
    · refine s_lload_n X rfl dF12_boroughLine_16 ?_
      refine s_ldc2 X ⟨by decide, by decide⟩ tw_1087 dF12_boroughLine_17 ?_
      refine s_lcmp X dF12_boroughLine_20 ?_
      refine s_if_ne X (tgt := 130) dF12_boroughLine_21 (by decide) ?_ ?_
      · refine s_lload_n X rfl dF12_boroughLine_130 ?_
        refine s_ldc2 X ⟨by decide, by decide⟩ tw_1106 dF12_boroughLine_131 ?_
        refine s_lcmp X dF12_boroughLine_134 ?_
        refine s_if_eq X (tgt := 183) dF12_boroughLine_135 (by decide) ?_ ?_
        · exact hJ 183
        · refine s_lload_n X rfl dF12_boroughLine_138 ?_
          refine s_ldc2 X ⟨by decide, by decide⟩ tw_1107 dF12_boroughLine_139 ?_
          refine s_lcmp X dF12_boroughLine_142 ?_
          refine s_if_eq X (tgt := 183) dF12_boroughLine_143 (by decide) ?_ ?_
          · exact hJ 183
          · refine s_lload_n X rfl dF12_boroughLine_146 ?_
            refine s_ldc2 X ⟨by decide, by decide⟩ tw_1108 dF12_boroughLine_147 ?_
            refine s_lcmp X dF12_boroughLine_150 ?_
            refine s_if_eq X (tgt := 183) dF12_boroughLine_151 (by decide) ?_ ?_
            · exact hJ 183
            · refine s_lload_n X rfl dF12_boroughLine_154 ?_
              refine s_ldc2 X ⟨by decide, by decide⟩ tw_1109 dF12_boroughLine_155 ?_
              refine s_lcmp X dF12_boroughLine_158 ?_
              refine s_if_eq X (tgt := 183) dF12_boroughLine_159 (by decide) ?_ ?_
              · exact hJ 183
              · refine s_lload_n X rfl dF12_boroughLine_162 ?_
                refine s_ldc2 X ⟨by decide, by decide⟩ tw_1110 dF12_boroughLine_163 ?_
                refine s_lcmp X dF12_boroughLine_166 ?_
                refine s_if_eq X (tgt := 183) dF12_boroughLine_167 (by decide) ?_ ?_
                · exact hJ 183
                · refine s_lload_n X rfl dF12_boroughLine_170 ?_
                  exact s_F12_boroughLine_171 X hJ
      · exact hJ 24

def sp_F12_boroughLine : qS := fun av w Q => ∃ (mco : Int) (mre : Int) (mle : Int) (mbe : Int) (mso : Int) (mva : Int) (mwo : Int) (mwr : Int) (mlf : Int) (mlp : Int) (mfp : Int) (mfd : Int) (mgo : Int) (mbo : Int) (mpe : Int) (mye : Int) (mpr : Int) (mld : Int) (msi : Int) (mse : Int) (tp : Nat → Int) (re : Nat → Int) (td : Nat → Int) (ww : Int) (gw : Int) (gp : Int) (gf : Int) (gq : Int) (gD : Nat → Int) (gfp : Int) (gfd : Int) (b : Int), av = [q2 0, q3 ww, q1 b] ∧ w = [.inr (12, [q1 mco, q2 1, q2 4, q2 5, q2 6, q2 7, q2 8, q2 9, q2 10, q2 11, q1 mre, q1 mle, q1 mbe, q1 mso, q1 mva, q3 mwo, q1 mwr, q1 mlf, q1 mlp, q2 3, q2 2, q1 mfp, q1 mfd, q1 mgo, q1 mbo, q1 mpe, q1 mye, q2 12, q1 mpr, q2 13, q2 14, q2 15, q2 16, q1 mld, q2 17, q1 msi, q2 18, q2 19, q2 20, q2 21, q2 22, q1 mse, q2 23, q2 24, q2 25]), .inl (1, 2400, .inl tp), .inl (0, 4, .inl re), .inl (0, 161, .inl td)] ∧ (0 ≤ mre ∧ mre ≤ mle ∧ mle ≤ 600) ∧ (LnS (tc tp) mle gp gf gq gD gfp gfd mre mbe mso mva mwo mlf mlp td mfp mfd) ∧ (¬ mgo = 0) ∧ (ww = woT (tc tp) mle gp) ∧ (gp ≤ mle) ∧ (gw = liW (tc tp) mle gp 0) ∧ (b = tB (tc tp) mle gp) ∧ (BT td 0) ∧ (∀ (r : Int) (x_mre : Int) (x_mbe : Int) (x_mso : Int) (x_mva : Int) (x_mwo : Int) (x_mwr : Int) (x_mlf : Int) (x_mlp : Int) (x_mgo : Int) (x_mfp : Int) (x_mfd : Int) (x_re : Nat → Int) (x_td : Nat → Int), ((r = 0 ∨ r = 1 ∧ (x_mso = 0 ∨ mre < x_mre)) ∧ mre ≤ x_mre ∧ x_mre ≤ mle ∧ BT x_td 0 ∧ LnO (tc tp) mle 0 gp gf gq gD gfp gfd r x_mre x_mbe x_mso x_mva x_mwo x_mwr x_mlf x_mlp x_mgo x_td x_mfp x_mfd) → Q (some (q1 r)) ([.inr (12, [q1 mco, q2 1, q2 4, q2 5, q2 6, q2 7, q2 8, q2 9, q2 10, q2 11, q1 x_mre, q1 mle, q1 x_mbe, q1 x_mso, q1 x_mva, q3 x_mwo, q1 x_mwr, q1 x_mlf, q1 x_mlp, q2 3, q2 2, q1 x_mfp, q1 x_mfd, q1 x_mgo, q1 mbo, q1 mpe, q1 mye, q2 12, q1 mpr, q2 13, q2 14, q2 15, q2 16, q1 mld, q2 17, q1 msi, q2 18, q2 19, q2 20, q2 21, q2 22, q1 mse, q2 23, q2 24, q2 25]), .inl (1, 2400, .inl tp), .inl (0, 4, .inl x_re), .inl (0, 161, .inl x_td)]))
def I_F12_boroughLine (mco : Int) (mre : Int) (mle : Int) (mbe : Int) (mso : Int) (mva : Int) (mwo : Int) (mwr : Int) (mlf : Int) (mlp : Int) (mfp : Int) (mfd : Int) (mgo : Int) (mbo : Int) (mpe : Int) (mye : Int) (mpr : Int) (mld : Int) (msi : Int) (mse : Int) (tp : Nat → Int) (re : Nat → Int) (td : Nat → Int) (ww : Int) (gw : Int) (gp : Int) (gf : Int) (gq : Int) (gD : Nat → Int) (gfp : Int) (gfd : Int) (b : Int) : Nat → Nat → List qV → List qV → qW → Prop := fun dz mz vz sz wz => if dz = 24 then (∃ (u9 : Unit), vz = [q2 0, q3 ww, q1 b] ∧ sz = [] ∧ wz = [.inr (12, [q1 mco, q2 1, q2 4, q2 5, q2 6, q2 7, q2 8, q2 9, q2 10, q2 11, q1 mre, q1 mle, q1 mbe, q1 mso, q1 mva, q3 mwo, q1 mwr, q1 mlf, q1 mlp, q2 3, q2 2, q1 mfp, q1 mfd, q1 mgo, q1 mbo, q1 mpe, q1 mye, q2 12, q1 mpr, q2 13, q2 14, q2 15, q2 16, q1 mld, q2 17, q1 msi, q2 18, q2 19, q2 20, q2 21, q2 22, q1 mse, q2 23, q2 24, q2 25]), .inl (1, 2400, .inl tp), .inl (0, 4, .inl re), .inl (0, 161, .inl td)] ∧ mz = 5 ∧ (FW0 gw)) else if dz = 49 then (∃ (s0 : Int), vz = [q2 0, q3 ww, q1 b] ∧ sz = [q1 s0] ∧ wz = [.inr (12, [q1 mco, q2 1, q2 4, q2 5, q2 6, q2 7, q2 8, q2 9, q2 10, q2 11, q1 mre, q1 mle, q1 mbe, q1 mso, q1 mva, q3 mwo, q1 mwr, q1 mlf, q1 mlp, q2 3, q2 2, q1 mfp, q1 mfd, q1 mgo, q1 mbo, q1 mpe, q1 mye, q2 12, q1 mpr, q2 13, q2 14, q2 15, q2 16, q1 mld, q2 17, q1 msi, q2 18, q2 19, q2 20, q2 21, q2 22, q1 mse, q2 23, q2 24, q2 25]), .inl (1, 2400, .inl tp), .inl (0, 4, .inl re), .inl (0, 161, .inl td)] ∧ mz = 4 ∧ (FW1 gw s0)) else if dz = 79 then (∃ (s0 : Int) (v4 : Int), vz = [q2 0, q3 ww, q1 b, q1 v4] ∧ sz = [q1 s0] ∧ wz = [.inr (12, [q1 mco, q2 1, q2 4, q2 5, q2 6, q2 7, q2 8, q2 9, q2 10, q2 11, q1 mre, q1 mle, q1 mbe, q1 mso, q1 mva, q3 mwo, q1 mwr, q1 mlf, q1 mlp, q2 3, q2 2, q1 mfp, q1 mfd, q1 mgo, q1 mbo, q1 mpe, q1 mye, q2 12, q1 mpr, q2 13, q2 14, q2 15, q2 16, q1 mld, q2 17, q1 msi, q2 18, q2 19, q2 20, q2 21, q2 22, q1 mse, q2 23, q2 24, q2 25]), .inl (1, 2400, .inl tp), .inl (0, 4, .inl re), .inl (0, 161, .inl td)] ∧ mz = 3 ∧ (FW2 gw v4 s0)) else if dz = 124 then (∃ (y_mre : Int) (y_mbe : Int) (y_mso : Int) (y_mva : Int) (y_mwo : Int) (y_mlf : Int) (y_mlp : Int) (s0 : Int) (s1 : Int) (v5 : Int), vz = [q1 v5] ∧ sz = [q1 s0, q1 s1, q2 0] ∧ wz = [.inr (12, [q1 mco, q2 1, q2 4, q2 5, q2 6, q2 7, q2 8, q2 9, q2 10, q2 11, q1 y_mre, q1 mle, q1 y_mbe, q1 y_mso, q1 y_mva, q3 y_mwo, q1 mwr, q1 y_mlf, q1 y_mlp, q2 3, q2 2, q1 mfp, q1 mfd, q1 mgo, q1 mbo, q1 mpe, q1 mye, q2 12, q1 mpr, q2 13, q2 14, q2 15, q2 16, q1 mld, q2 17, q1 msi, q2 18, q2 19, q2 20, q2 21, q2 22, q1 mse, q2 23, q2 24, q2 25]), .inl (1, 2400, .inl tp), .inl (0, 4, .inl re), .inl (0, 161, .inl td)] ∧ mz = 2 ∧ (mre ≤ y_mre ∧ y_mre ≤ mle ∧ (y_mso = 0 ∨ mre < y_mre)) ∧ (FW3 gw s1 s0 v5) ∧ (SlM (tc tp) mle gw gp (ntF (fulP gw gD) 3 gf) (ntP (fulP gw gD) (tB (tc tp) mle gp) gf gq) 0 y_mre y_mbe y_mso y_mva y_mwo y_mlf y_mlp mgo)) else if dz = 183 then (∃ (u9 : Unit), vz = [q2 0, q3 ww] ∧ sz = [] ∧ wz = [.inr (12, [q1 mco, q2 1, q2 4, q2 5, q2 6, q2 7, q2 8, q2 9, q2 10, q2 11, q1 mre, q1 mle, q1 mbe, q1 mso, q1 mva, q3 mwo, q1 mwr, q1 mlf, q1 mlp, q2 3, q2 2, q1 mfp, q1 mfd, q1 mgo, q1 mbo, q1 mpe, q1 mye, q2 12, q1 mpr, q2 13, q2 14, q2 15, q2 16, q1 mld, q2 17, q1 msi, q2 18, q2 19, q2 20, q2 21, q2 22, q1 mse, q2 23, q2 24, q2 25]), .inl (1, 2400, .inl tp), .inl (0, 4, .inl re), .inl (0, 161, .inl td)] ∧ mz = 1 ∧ (FW6 gw)) else False
set_option maxHeartbeats 4000000 in
set_option maxRecDepth 100000 in
theorem m_F12_boroughLine (l : Launch) : q_M l yX12_boroughLine cX12_boroughLine 6 (some .boolean) 5 114 sp_F12_boroughLine := by
  refine q_meth (by decide) (fun av w Q h => by obtain ⟨mco, mre, mle, mbe, mso, mva, mwo, mwr, mlf, mlp, mfp, mfd, mgo, mbo, mpe, mye, mpr, mld, msi, mse, tp, re, td, ww, gw, gp, gf, gq, gD, gfp, gfd, b, rfl, rfl, htp, hLS, hgo, hww, hgp2, hgw, hat, hbt, hQ⟩ := h; exact Nat.le_of_ble_eq_true rfl) ?_
  intro p e R s m args below meth c dC dI k g A av w Q hsp oka okw X
  obtain ⟨mco, mre, mle, mbe, mso, mva, mwo, mwr, mlf, mlp, mfp, mfd, mgo, mbo, mpe, mye, mpr, mld, msi, mse, tp, re, td, ww, gw, gp, gf, gq, gD, gfp, gfd, b, rfl, rfl, htp, hLS, hgo, hww, hgp2, hgw, hat, hbt, hQ⟩ := hsp
  have o_b : -2147483648 ≤ b ∧ b ≤ 2147483647 := oka _ (List.mem_of_getElem? (i := 2) rfl)
  refine s_mono (s_F12_boroughLine_0 X (J := fun dz vz sz wz => ∃ mz, I_F12_boroughLine mco mre mle mbe mso mva mwo mwr mlf mlp mfp mfd mgo mbo mpe mye mpr mld msi mse tp re td ww gw gp gf gq gD gfp gfd b dz mz vz sz wz) (q_loopn (I_F12_boroughLine mco mre mle mbe mso mva mwo mwr mlf mlp mfp mfd mgo mbo mpe mye mpr mld msi mse tp re td ww gw gp gf gq gD gfp gfd b) (fun dz J => if dz = 24 then b_F12_boroughLine_24 J Q else if dz = 49 then b_F12_boroughLine_49 J Q else if dz = 79 then b_F12_boroughLine_79 J Q else if dz = 124 then b_F12_boroughLine_124 J Q else if dz = 183 then b_F12_boroughLine_183 J Q else q_F) ?hs ?hv)) ?_
  case hs =>
    intro d J hJ
    by_cases hq_24 : d = 24
    · subst hq_24; exact s_F12_boroughLine_24 X hJ
    by_cases hq_49 : d = 49
    · subst hq_49; exact s_F12_boroughLine_49 X hJ
    by_cases hq_79 : d = 79
    · subst hq_79; exact s_F12_boroughLine_79 X hJ
    by_cases hq_124 : d = 124
    · subst hq_124; exact s_F12_boroughLine_124 X hJ
    by_cases hq_183 : d = 183
    · subst hq_183; exact s_F12_boroughLine_183 X hJ
    simp only [hq_24, hq_49, hq_79, hq_124, hq_183, if_false]
    exact s_F
  case hv =>
    intro dz mz vz sz wz hI okv oks okw hlen
    by_cases hq_24 : dz = 24
    · subst hq_24
      obtain ⟨_, rfl, rfl, rfl, hn, hw9⟩ := hI
      intro zq_28 hq_28
      replace hq_28 := wb_0 (i := 0) hww hgp2 hgw (by decide) (by decide) hq_28
      apply And.intro
      · intro hq_29
        replace hq_28 := wb0 hq_28 hq_29
        intro zq_40 hq_40
        replace hq_40 := wb_0 (i := 3) hww hgp2 hgw (by decide) (by decide) hq_40
        apply And.intro
        · intro hq_41
          replace hq_40 := wb0 hq_40 hq_41
          exact ⟨_, ⟨_, rfl, rfl, rfl, rfl, (by unfold FW0 at hw9; unfold FW1; omega)⟩, by omega⟩
        · intro hq_41
          replace hq_40 := wb1 hq_40 hq_41
          exact ⟨_, ⟨_, rfl, rfl, rfl, rfl, (by unfold FW0 at hw9; unfold FW1; omega)⟩, by omega⟩
      · intro hq_29
        replace hq_28 := wb1 hq_28 hq_29
        exact ⟨_, ⟨_, rfl, rfl, rfl, rfl, (by unfold FW0 at hw9; unfold FW1; omega)⟩, by omega⟩
    by_cases hq_49 : dz = 49
    · subst hq_49
      obtain ⟨s0, rfl, rfl, rfl, hn, hw9⟩ := hI
      intro zq_55 hq_55
      replace hq_55 := wb_0 (i := 0) hww hgp2 hgw (by decide) (by decide) hq_55
      apply And.intro
      · intro hq_56
        replace hq_55 := wb0 hq_55 hq_56
        intro zq_68 hq_68
        replace hq_68 := wb_0 (i := 3) hww hgp2 hgw (by decide) (by decide) hq_68
        apply And.intro
        · intro hq_69
          replace hq_68 := wb0 hq_68 hq_69
          exact ⟨_, ⟨_, _, rfl, rfl, rfl, rfl, (by unfold FW1 at hw9; unfold FW2; omega)⟩, by omega⟩
        · intro hq_69
          replace hq_68 := wb1 hq_68 hq_69
          exact ⟨_, ⟨_, _, rfl, rfl, rfl, rfl, (by unfold FW1 at hw9; unfold FW2; omega)⟩, by omega⟩
      · intro hq_56
        replace hq_55 := wb1 hq_55 hq_56
        exact ⟨_, ⟨_, _, rfl, rfl, rfl, rfl, (by unfold FW1 at hw9; unfold FW2; omega)⟩, by omega⟩
    by_cases hq_79 : dz = 79
    · subst hq_79
      obtain ⟨s0, v4, rfl, rfl, rfl, hn, hw9⟩ := hI
      have r9 := FW2_r hw9
      refine Exists.intro [0, 3, 1, 4, 5, 6, 7, 8, 9, 10, 11, 2, 12, 13, 14, 15, 16, 17, 18, 19, 20, 21, 22, 23, 24, 25] (Exists.intro [q2 0, q1 _, q1 _, q1 _] (Exists.intro ([.inr (12, [q1 _, q2 2, q2 3, q2 4, q2 5, q2 6, q2 7, q2 8, q2 9, q2 10, q1 _, q1 _, q1 _, q1 _, q1 _, q3 _, q1 _, q1 _, q1 _, q2 1, q2 11, q1 _, q1 _, q1 _, q1 _, q1 _, q1 _, q2 12, q1 _, q2 13, q2 14, q2 15, q2 16, q1 _, q2 17, q1 _, q2 18, q2 19, q2 20, q2 21, q2 22, q1 _, q2 23, q2 24, q2 25]), .inl (0, 161, .inl _)]) (And.intro rfl (And.intro rfl (And.intro rfl (And.intro ⟨⟨_, rfl⟩, rfl⟩ ?_))))))
      refine Exists.intro _ (Exists.intro _ (Exists.intro _ (Exists.intro _ (Exists.intro _ (Exists.intro _ (Exists.intro _ (Exists.intro _ (Exists.intro _ (Exists.intro _ (Exists.intro _ (Exists.intro _ (Exists.intro _ (Exists.intro _ (Exists.intro _ (Exists.intro _ (Exists.intro _ (Exists.intro _ (Exists.intro _ (Exists.intro _ (Exists.intro _ (Exists.intro _ (Exists.intro _ (Exists.intro _ (And.intro rfl (And.intro rfl (And.intro (by first | omega | assumption | exact q_rg_up (by assumption) (by omega) | exact q_rg_up (q_rg_up (by assumption) (by omega)) (by omega) | exact q_rg_cpy (by assumption) (by assumption)) (And.intro (by rw [hat]; exact Lt_lt hLS.2.1 hLS.2.2.1) (?_))))))))))))))))))))))))))))
      intro x_mlf_87 x_mlp_87 hq_87
      refine Exists.intro [0, 1, 4, 5, 6, 7, 8, 9, 10, 11, 3, 2, 12, 13, 14, 15, 16, 17, 18, 19, 20, 21, 22, 23, 24, 25] (Exists.intro [q2 0] (Exists.intro ([.inr (12, [q1 _, q2 1, q2 2, q2 3, q2 4, q2 5, q2 6, q2 7, q2 8, q2 9, q1 _, q1 _, q1 _, q1 _, q1 _, q3 _, q1 _, q1 _, q1 _, q2 10, q2 11, q1 _, q1 _, q1 _, q1 _, q1 _, q1 _, q2 12, q1 _, q2 13, q2 14, q2 15, q2 16, q1 _, q2 17, q1 _, q2 18, q2 19, q2 20, q2 21, q2 22, q1 _, q2 23, q2 24, q2 25]), .inl (1, 2400, .inl _)]) (And.intro rfl (And.intro rfl (And.intro rfl (And.intro ⟨⟨_, rfl⟩, rfl⟩ ?_))))))
      refine Exists.intro _ (Exists.intro _ (Exists.intro _ (Exists.intro _ (Exists.intro _ (Exists.intro _ (Exists.intro _ (Exists.intro _ (Exists.intro _ (Exists.intro _ (Exists.intro _ (Exists.intro _ (Exists.intro _ (Exists.intro _ (Exists.intro _ (Exists.intro _ (Exists.intro _ (Exists.intro _ (Exists.intro _ (Exists.intro _ (Exists.intro _ (And.intro rfl (And.intro rfl (And.intro (by first | omega | assumption | exact q_rg_up (by assumption) (by omega) | exact q_rg_up (q_rg_up (by assumption) (by omega)) (by omega) | exact q_rg_cpy (by assumption) (by assumption)) (?_))))))))))))))))))))))))
      intro x_mre_91 x_mbe_91 x_mso_91 x_mva_91 x_mwo_91 hq_91
      intro zq_101 hq_101
      replace hq_101 := wb_0 (i := 0) hww hgp2 hgw (by decide) (by decide) hq_101
      apply And.intro
      · intro hq_102
        replace hq_101 := wb0 hq_101 hq_102
        intro zq_113 hq_113
        replace hq_113 := wb_0 (i := 3) hww hgp2 hgw (by decide) (by decide) hq_113
        apply And.intro
        · intro hq_114
          replace hq_113 := wb0 hq_113 hq_114
          exact ⟨_, ⟨_, _, _, _, _, _, _, _, _, _, rfl, rfl, rfl, rfl, (by first | omega | assumption | exact q_rg_up (by assumption) (by omega) | exact q_rg_up (q_rg_up (by assumption) (by omega)) (by omega) | exact q_rg_cpy (by assumption) (by assumption)), (by unfold FW2 at hw9; unfold FW3; omega), (LnS_f hLS hat hq_91.1 (fun q9 => fu_iff (FW2_f hw9) hbt (hLS.2.2.2.1 q9).1) hq_87 hgo)⟩, by omega⟩
        · intro hq_114
          replace hq_113 := wb1 hq_113 hq_114
          exact ⟨_, ⟨_, _, _, _, _, _, _, _, _, _, rfl, rfl, rfl, rfl, (by first | omega | assumption | exact q_rg_up (by assumption) (by omega) | exact q_rg_up (q_rg_up (by assumption) (by omega)) (by omega) | exact q_rg_cpy (by assumption) (by assumption)), (by unfold FW2 at hw9; unfold FW3; omega), (LnS_f hLS hat hq_91.1 (fun q9 => fu_iff (FW2_f hw9) hbt (hLS.2.2.2.1 q9).1) hq_87 hgo)⟩, by omega⟩
      · intro hq_102
        replace hq_101 := wb1 hq_101 hq_102
        exact ⟨_, ⟨_, _, _, _, _, _, _, _, _, _, rfl, rfl, rfl, rfl, (by first | omega | assumption | exact q_rg_up (by assumption) (by omega) | exact q_rg_up (q_rg_up (by assumption) (by omega)) (by omega) | exact q_rg_cpy (by assumption) (by assumption)), (by unfold FW2 at hw9; unfold FW3; omega), (LnS_f hLS hat hq_91.1 (fun q9 => fu_iff (FW2_f hw9) hbt (hLS.2.2.2.1 q9).1) hq_87 hgo)⟩, by omega⟩
    by_cases hq_124 : dz = 124
    · subst hq_124
      obtain ⟨y_mre, y_mbe, y_mso, y_mva, y_mwo, y_mlf, y_mlp, s0, s1, v5, rfl, rfl, rfl, hn, hk9, hw9, hS9⟩ := hI
      refine Exists.intro [0, 1, 2, 3, 4, 5, 6, 7, 8, 9, 10, 11, 12, 13, 14, 15, 16, 17, 18, 19, 20, 21, 22, 23, 24, 25] (Exists.intro [q2 0, q1 _, q1 _, q1 _] (Exists.intro ([.inr (12, [q1 _, q2 1, q2 4, q2 5, q2 6, q2 7, q2 8, q2 9, q2 10, q2 11, q1 _, q1 _, q1 _, q1 _, q1 _, q3 _, q1 _, q1 _, q1 _, q2 3, q2 2, q1 _, q1 _, q1 _, q1 _, q1 _, q1 _, q2 12, q1 _, q2 13, q2 14, q2 15, q2 16, q1 _, q2 17, q1 _, q2 18, q2 19, q2 20, q2 21, q2 22, q1 _, q2 23, q2 24, q2 25]), .inl (1, 2400, .inl _), .inl (0, 4, .inl _), .inl (0, 161, .inl _)]) (And.intro rfl (And.intro rfl (And.intro rfl (And.intro ⟨⟨_, rfl⟩, rfl⟩ ?_))))))
      refine Exists.intro _ (Exists.intro _ (Exists.intro _ (Exists.intro _ (Exists.intro _ (Exists.intro _ (Exists.intro _ (Exists.intro _ (Exists.intro _ (Exists.intro _ (Exists.intro _ (Exists.intro _ (Exists.intro _ (Exists.intro _ (Exists.intro _ (Exists.intro _ (Exists.intro _ (Exists.intro _ (Exists.intro _ (Exists.intro _ (Exists.intro _ (Exists.intro _ (Exists.intro _ (Exists.intro gw (Exists.intro gp (Exists.intro (ntF (fulP gw gD) 3 gf) (Exists.intro (ntP (fulP gw gD) (tB (tc tp) mle gp) gf gq) (Exists.intro gD (Exists.intro gfp (Exists.intro gfd (Exists.intro _ (Exists.intro _ (Exists.intro _ (And.intro rfl (And.intro rfl (And.intro (by first | omega | assumption | exact q_rg_up (by assumption) (by omega) | exact q_rg_up (q_rg_up (by assumption) (by omega)) (by omega) | exact q_rg_cpy (by assumption) (by assumption)) (And.intro (by first | omega | assumption | exact q_rg_up (by assumption) (by omega) | exact q_rg_up (q_rg_up (by assumption) (by omega)) (by omega) | exact q_rg_cpy (by assumption) (by assumption)) (And.intro (by unfold FW3 at hw9; omega) (And.intro (fun q9 => (ntF_0 (by decide) q9).2) (And.intro hS9 (And.intro (LnS_t hLS) (?_)))))))))))))))))))))))))))))))))))))))))
      intro zq_126 x_mre_126 x_mbe_126 x_mso_126 x_mva_126 x_mwo_126 x_mwr_126 x_mlf_126 x_mlp_126 x_mgo_126 x_re_126 x_td_126 hq_126
      apply And.intro
      · first | exact Or.inl rfl | exact Or.inr rfl | omega
      exact hQ _ _ _ _ _ _ _ _ _ _ _ _ _ _ ⟨by omega, by omega, by omega, (by first | assumption | exact hq_126.2.2.2.1 | exact hq_212.2.2.2.1 | exact hq_219.2.2.2.1 | exact hq_232.2.2.2.1 | exact hq_247.2.2.2.1 | exact hq_262.2.2.2.1 | exact hq_269.2.2.2.1), (by first | (rw [hq_179.1]; exact LnO_n hgw (by omega) (hq_179.2.trans hLS.1.1)) | exact LnO_m hgw hq_126.2.2.2.2 (by unfold FW3 at hw9; omega) | exact LnO_m (w := 1) ((hq_207).symm.trans hgw) hq_212.2.2.2.2 (by decide) | exact LnO_m (w := 2) (((show gw = 2 by first | exact hq_199 | (exfalso; omega))).symm.trans hgw) hq_219.2.2.2.2 (by decide) | exact LnO_m (w := 5) ((hq_227).symm.trans hgw) hq_232.2.2.2.2 (by decide) | exact LnO_m (w := 6) ((hq_242).symm.trans hgw) hq_247.2.2.2.2 (by decide) | exact LnO_m (w := 7) ((hq_257).symm.trans hgw) hq_262.2.2.2.2 (by decide) | exact LnO_m (w := 8) (((FW6_8 hw9 (by omega) (by omega) (by omega) (by omega) (by omega))).symm.trans hgw) hq_269.2.2.2.2 (by decide))⟩
    by_cases hq_183 : dz = 183
    · subst hq_183
      obtain ⟨_, rfl, rfl, rfl, hn, hw9⟩ := hI
      refine Exists.intro [0, 1, 4, 5, 6, 7, 8, 9, 10, 11, 3, 2, 12, 13, 14, 15, 16, 17, 18, 19, 20, 21, 22, 23, 24, 25] (Exists.intro [q2 0] (Exists.intro ([.inr (12, [q1 _, q2 1, q2 2, q2 3, q2 4, q2 5, q2 6, q2 7, q2 8, q2 9, q1 _, q1 _, q1 _, q1 _, q1 _, q3 _, q1 _, q1 _, q1 _, q2 10, q2 11, q1 _, q1 _, q1 _, q1 _, q1 _, q1 _, q2 12, q1 _, q2 13, q2 14, q2 15, q2 16, q1 _, q2 17, q1 _, q2 18, q2 19, q2 20, q2 21, q2 22, q1 _, q2 23, q2 24, q2 25]), .inl (1, 2400, .inl _)]) (And.intro rfl (And.intro rfl (And.intro rfl (And.intro ⟨⟨_, rfl⟩, rfl⟩ ?_))))))
      refine Exists.intro _ (Exists.intro _ (Exists.intro _ (Exists.intro _ (Exists.intro _ (Exists.intro _ (Exists.intro _ (Exists.intro _ (Exists.intro _ (Exists.intro _ (Exists.intro _ (Exists.intro _ (Exists.intro _ (Exists.intro _ (Exists.intro _ (Exists.intro _ (Exists.intro _ (Exists.intro _ (Exists.intro _ (Exists.intro _ (Exists.intro _ (And.intro rfl (And.intro rfl (And.intro (by first | omega | assumption | exact q_rg_up (by assumption) (by omega) | exact q_rg_up (q_rg_up (by assumption) (by omega)) (by omega) | exact q_rg_cpy (by assumption) (by assumption)) (?_))))))))))))))))))))))))
      intro x_mre_184 x_mbe_184 x_mso_184 x_mva_184 x_mwo_184 hq_184
      intro zq_191 hq_191
      replace hq_191 := wb_0 (i := 1) hww hgp2 hgw (by decide) (by decide) hq_191
      apply And.intro
      · intro hq_192
        replace hq_191 := wb1 hq_191 hq_192
        intro zq_207 hq_207
        replace hq_207 := wb_0 (i := 1) hww hgp2 hgw (by decide) (by decide) hq_207
        apply And.intro
        · intro hq_208
          replace hq_207 := wb0 hq_207 hq_208
          refine Exists.intro [0, 1, 2, 3, 4, 5, 6, 7, 8, 9, 10, 11, 12, 13, 14, 15, 16, 17, 18, 19, 20, 21, 22, 23, 24, 25] (Exists.intro [q2 0] (Exists.intro ([.inr (12, [q1 _, q2 1, q2 4, q2 5, q2 6, q2 7, q2 8, q2 9, q2 10, q2 11, q1 _, q1 _, q1 _, q1 _, q1 _, q3 _, q1 _, q1 _, q1 _, q2 3, q2 2, q1 _, q1 _, q1 _, q1 _, q1 _, q1 _, q2 12, q1 _, q2 13, q2 14, q2 15, q2 16, q1 _, q2 17, q1 _, q2 18, q2 19, q2 20, q2 21, q2 22, q1 _, q2 23, q2 24, q2 25]), .inl (1, 2400, .inl _), .inl (0, 4, .inl _), .inl (0, 161, .inl _)]) (And.intro rfl (And.intro rfl (And.intro rfl (And.intro ⟨⟨_, rfl⟩, rfl⟩ ?_))))))
          refine Exists.intro _ (Exists.intro _ (Exists.intro _ (Exists.intro _ (Exists.intro _ (Exists.intro _ (Exists.intro _ (Exists.intro _ (Exists.intro _ (Exists.intro _ (Exists.intro _ (Exists.intro _ (Exists.intro _ (Exists.intro _ (Exists.intro _ (Exists.intro _ (Exists.intro _ (Exists.intro _ (Exists.intro _ (Exists.intro _ (Exists.intro _ (Exists.intro _ (Exists.intro _ (Exists.intro 2 (Exists.intro gp (Exists.intro (ntF (fulP 2 gD) 3 gf) (Exists.intro (ntP (fulP 2 gD) (tB (tc tp) mle gp) gf gq) (Exists.intro gD (Exists.intro gfp (Exists.intro gfd (And.intro rfl (And.intro rfl (And.intro (by first | omega | assumption | exact q_rg_up (by assumption) (by omega) | exact q_rg_up (q_rg_up (by assumption) (by omega)) (by omega) | exact q_rg_cpy (by assumption) (by assumption)) (And.intro (by first | omega | assumption | exact q_rg_up (by assumption) (by omega) | exact q_rg_up (q_rg_up (by assumption) (by omega)) (by omega) | exact q_rg_cpy (by assumption) (by assumption)) (And.intro rfl (And.intro (LnS_n hLS hq_184.1 (ful_n (by omega)) hgo) (And.intro (LnS_t hLS) (?_)))))))))))))))))))))))))))))))))))))
          intro zq_219 x_mre_219 x_mbe_219 x_mso_219 x_mva_219 x_mwo_219 x_mwr_219 x_mlf_219 x_mlp_219 x_mgo_219 x_re_219 x_td_219 hq_219
          apply And.intro
          · first | exact Or.inl rfl | exact Or.inr rfl | omega
          exact hQ _ _ _ _ _ _ _ _ _ _ _ _ _ _ ⟨by omega, by omega, by omega, (by first | assumption | exact hq_126.2.2.2.1 | exact hq_212.2.2.2.1 | exact hq_219.2.2.2.1 | exact hq_232.2.2.2.1 | exact hq_247.2.2.2.1 | exact hq_262.2.2.2.1 | exact hq_269.2.2.2.1), (by first | (rw [hq_179.1]; exact LnO_n hgw (by omega) (hq_179.2.trans hLS.1.1)) | exact LnO_m hgw hq_126.2.2.2.2 (by unfold FW3 at hw9; omega) | exact LnO_m (w := 1) ((hq_207).symm.trans hgw) hq_212.2.2.2.2 (by decide) | exact LnO_m (w := 2) (((show gw = 2 by first | exact hq_199 | (exfalso; omega))).symm.trans hgw) hq_219.2.2.2.2 (by decide) | exact LnO_m (w := 5) ((hq_227).symm.trans hgw) hq_232.2.2.2.2 (by decide) | exact LnO_m (w := 6) ((hq_242).symm.trans hgw) hq_247.2.2.2.2 (by decide) | exact LnO_m (w := 7) ((hq_257).symm.trans hgw) hq_262.2.2.2.2 (by decide) | exact LnO_m (w := 8) (((FW6_8 hw9 (by omega) (by omega) (by omega) (by omega) (by omega))).symm.trans hgw) hq_269.2.2.2.2 (by decide))⟩
        · intro hq_208
          replace hq_207 := wb1 hq_207 hq_208
          refine Exists.intro [0, 1, 2, 3, 4, 5, 6, 7, 8, 9, 10, 11, 12, 13, 14, 15, 16, 17, 18, 19, 20, 21, 22, 23, 24, 25] (Exists.intro [q2 0] (Exists.intro ([.inr (12, [q1 _, q2 1, q2 4, q2 5, q2 6, q2 7, q2 8, q2 9, q2 10, q2 11, q1 _, q1 _, q1 _, q1 _, q1 _, q3 _, q1 _, q1 _, q1 _, q2 3, q2 2, q1 _, q1 _, q1 _, q1 _, q1 _, q1 _, q2 12, q1 _, q2 13, q2 14, q2 15, q2 16, q1 _, q2 17, q1 _, q2 18, q2 19, q2 20, q2 21, q2 22, q1 _, q2 23, q2 24, q2 25]), .inl (1, 2400, .inl _), .inl (0, 4, .inl _), .inl (0, 161, .inl _)]) (And.intro rfl (And.intro rfl (And.intro rfl (And.intro ⟨⟨_, rfl⟩, rfl⟩ ?_))))))
          refine Exists.intro _ (Exists.intro _ (Exists.intro _ (Exists.intro _ (Exists.intro _ (Exists.intro _ (Exists.intro _ (Exists.intro _ (Exists.intro _ (Exists.intro _ (Exists.intro _ (Exists.intro _ (Exists.intro _ (Exists.intro _ (Exists.intro _ (Exists.intro _ (Exists.intro _ (Exists.intro _ (Exists.intro _ (Exists.intro _ (Exists.intro _ (Exists.intro _ (Exists.intro _ (Exists.intro 1 (Exists.intro gp (Exists.intro (ntF (fulP 1 gD) 3 gf) (Exists.intro (ntP (fulP 1 gD) (tB (tc tp) mle gp) gf gq) (Exists.intro gD (Exists.intro gfp (Exists.intro gfd (And.intro rfl (And.intro rfl (And.intro (by first | omega | assumption | exact q_rg_up (by assumption) (by omega) | exact q_rg_up (q_rg_up (by assumption) (by omega)) (by omega) | exact q_rg_cpy (by assumption) (by assumption)) (And.intro (by first | omega | assumption | exact q_rg_up (by assumption) (by omega) | exact q_rg_up (q_rg_up (by assumption) (by omega)) (by omega) | exact q_rg_cpy (by assumption) (by assumption)) (And.intro rfl (And.intro (LnS_n hLS hq_184.1 (ful_n (by omega)) hgo) (And.intro (LnS_t hLS) (?_)))))))))))))))))))))))))))))))))))))
          intro zq_212 x_mre_212 x_mbe_212 x_mso_212 x_mva_212 x_mwo_212 x_mwr_212 x_mlf_212 x_mlp_212 x_mgo_212 x_re_212 x_td_212 x_mfp_212 hq_212
          apply And.intro
          · first | exact Or.inl rfl | exact Or.inr rfl | omega
          exact hQ _ _ _ _ _ _ _ _ _ _ _ _ _ _ ⟨by omega, by omega, by omega, (by first | assumption | exact hq_126.2.2.2.1 | exact hq_212.2.2.2.1 | exact hq_219.2.2.2.1 | exact hq_232.2.2.2.1 | exact hq_247.2.2.2.1 | exact hq_262.2.2.2.1 | exact hq_269.2.2.2.1), (by first | (rw [hq_179.1]; exact LnO_n hgw (by omega) (hq_179.2.trans hLS.1.1)) | exact LnO_m hgw hq_126.2.2.2.2 (by unfold FW3 at hw9; omega) | exact LnO_m (w := 1) ((hq_207).symm.trans hgw) hq_212.2.2.2.2 (by decide) | exact LnO_m (w := 2) (((show gw = 2 by first | exact hq_199 | (exfalso; omega))).symm.trans hgw) hq_219.2.2.2.2 (by decide) | exact LnO_m (w := 5) ((hq_227).symm.trans hgw) hq_232.2.2.2.2 (by decide) | exact LnO_m (w := 6) ((hq_242).symm.trans hgw) hq_247.2.2.2.2 (by decide) | exact LnO_m (w := 7) ((hq_257).symm.trans hgw) hq_262.2.2.2.2 (by decide) | exact LnO_m (w := 8) (((FW6_8 hw9 (by omega) (by omega) (by omega) (by omega) (by omega))).symm.trans hgw) hq_269.2.2.2.2 (by decide))⟩
      · intro hq_192
        replace hq_191 := wb0 hq_191 hq_192
        intro zq_199 hq_199
        replace hq_199 := wb_0 (i := 2) hww hgp2 hgw (by decide) (by decide) hq_199
        apply And.intro
        · intro hq_200
          replace hq_199 := wb0 hq_199 hq_200
          intro zq_227 hq_227
          replace hq_227 := wb_0 (i := 5) hww hgp2 hgw (by decide) (by decide) hq_227
          apply And.intro
          · intro hq_228
            replace hq_227 := wb0 hq_227 hq_228
            intro zq_242 hq_242
            replace hq_242 := wb_0 (i := 6) hww hgp2 hgw (by decide) (by decide) hq_242
            apply And.intro
            · intro hq_243
              replace hq_242 := wb0 hq_242 hq_243
              intro zq_257 hq_257
              replace hq_257 := wb_0 (i := 7) hww hgp2 hgw (by decide) (by decide) hq_257
              apply And.intro
              · intro hq_258
                replace hq_257 := wb0 hq_257 hq_258
                refine Exists.intro [0, 1, 2, 3, 4, 5, 6, 7, 8, 9, 10, 11, 12, 13, 14, 15, 16, 17, 18, 19, 20, 21, 22, 23, 24, 25] (Exists.intro [q2 0] (Exists.intro ([.inr (12, [q1 _, q2 1, q2 4, q2 5, q2 6, q2 7, q2 8, q2 9, q2 10, q2 11, q1 _, q1 _, q1 _, q1 _, q1 _, q3 _, q1 _, q1 _, q1 _, q2 3, q2 2, q1 _, q1 _, q1 _, q1 _, q1 _, q1 _, q2 12, q1 _, q2 13, q2 14, q2 15, q2 16, q1 _, q2 17, q1 _, q2 18, q2 19, q2 20, q2 21, q2 22, q1 _, q2 23, q2 24, q2 25]), .inl (1, 2400, .inl _), .inl (0, 4, .inl _), .inl (0, 161, .inl _)]) (And.intro rfl (And.intro rfl (And.intro rfl (And.intro ⟨⟨_, rfl⟩, rfl⟩ ?_))))))
                refine Exists.intro _ (Exists.intro _ (Exists.intro _ (Exists.intro _ (Exists.intro _ (Exists.intro _ (Exists.intro _ (Exists.intro _ (Exists.intro _ (Exists.intro _ (Exists.intro _ (Exists.intro _ (Exists.intro _ (Exists.intro _ (Exists.intro _ (Exists.intro _ (Exists.intro _ (Exists.intro _ (Exists.intro _ (Exists.intro _ (Exists.intro _ (Exists.intro _ (Exists.intro _ (Exists.intro 8 (Exists.intro gp (Exists.intro (ntF (fulP 8 gD) 3 gf) (Exists.intro (ntP (fulP 8 gD) (tB (tc tp) mle gp) gf gq) (Exists.intro gD (Exists.intro gfp (Exists.intro gfd (And.intro rfl (And.intro rfl (And.intro (by first | omega | assumption | exact q_rg_up (by assumption) (by omega) | exact q_rg_up (q_rg_up (by assumption) (by omega)) (by omega) | exact q_rg_cpy (by assumption) (by assumption)) (And.intro (by first | omega | assumption | exact q_rg_up (by assumption) (by omega) | exact q_rg_up (q_rg_up (by assumption) (by omega)) (by omega) | exact q_rg_cpy (by assumption) (by assumption)) (And.intro rfl (And.intro (LnS_n hLS hq_184.1 (ful_n (by omega)) hgo) (And.intro (LnS_t hLS) (?_)))))))))))))))))))))))))))))))))))))
                intro zq_269 x_mre_269 x_mbe_269 x_mso_269 x_mva_269 x_mwo_269 x_mwr_269 x_mlf_269 x_mlp_269 x_mgo_269 x_re_269 x_td_269 x_mfp_269 hq_269
                apply And.intro
                · first | exact Or.inl rfl | exact Or.inr rfl | omega
                exact hQ _ _ _ _ _ _ _ _ _ _ _ _ _ _ ⟨by omega, by omega, by omega, (by first | assumption | exact hq_126.2.2.2.1 | exact hq_212.2.2.2.1 | exact hq_219.2.2.2.1 | exact hq_232.2.2.2.1 | exact hq_247.2.2.2.1 | exact hq_262.2.2.2.1 | exact hq_269.2.2.2.1), (by first | (rw [hq_179.1]; exact LnO_n hgw (by omega) (hq_179.2.trans hLS.1.1)) | exact LnO_m hgw hq_126.2.2.2.2 (by unfold FW3 at hw9; omega) | exact LnO_m (w := 1) ((hq_207).symm.trans hgw) hq_212.2.2.2.2 (by decide) | exact LnO_m (w := 2) (((show gw = 2 by first | exact hq_199 | (exfalso; omega))).symm.trans hgw) hq_219.2.2.2.2 (by decide) | exact LnO_m (w := 5) ((hq_227).symm.trans hgw) hq_232.2.2.2.2 (by decide) | exact LnO_m (w := 6) ((hq_242).symm.trans hgw) hq_247.2.2.2.2 (by decide) | exact LnO_m (w := 7) ((hq_257).symm.trans hgw) hq_262.2.2.2.2 (by decide) | exact LnO_m (w := 8) (((FW6_8 hw9 (by omega) (by omega) (by omega) (by omega) (by omega))).symm.trans hgw) hq_269.2.2.2.2 (by decide))⟩
              · intro hq_258
                replace hq_257 := wb1 hq_257 hq_258
                refine Exists.intro [0, 1, 2, 3, 4, 5, 6, 7, 8, 9, 10, 11, 12, 13, 14, 15, 16, 17, 18, 19, 20, 21, 22, 23, 24, 25] (Exists.intro [q2 0] (Exists.intro ([.inr (12, [q1 _, q2 1, q2 4, q2 5, q2 6, q2 7, q2 8, q2 9, q2 10, q2 11, q1 _, q1 _, q1 _, q1 _, q1 _, q3 _, q1 _, q1 _, q1 _, q2 3, q2 2, q1 _, q1 _, q1 _, q1 _, q1 _, q1 _, q2 12, q1 _, q2 13, q2 14, q2 15, q2 16, q1 _, q2 17, q1 _, q2 18, q2 19, q2 20, q2 21, q2 22, q1 _, q2 23, q2 24, q2 25]), .inl (1, 2400, .inl _), .inl (0, 4, .inl _), .inl (0, 161, .inl _)]) (And.intro rfl (And.intro rfl (And.intro rfl (And.intro ⟨⟨_, rfl⟩, rfl⟩ ?_))))))
                refine Exists.intro _ (Exists.intro _ (Exists.intro _ (Exists.intro _ (Exists.intro _ (Exists.intro _ (Exists.intro _ (Exists.intro _ (Exists.intro _ (Exists.intro _ (Exists.intro _ (Exists.intro _ (Exists.intro _ (Exists.intro _ (Exists.intro _ (Exists.intro _ (Exists.intro _ (Exists.intro _ (Exists.intro _ (Exists.intro _ (Exists.intro _ (Exists.intro _ (Exists.intro _ (Exists.intro 7 (Exists.intro gp (Exists.intro (ntF (fulP 7 gD) 3 gf) (Exists.intro (ntP (fulP 7 gD) (tB (tc tp) mle gp) gf gq) (Exists.intro gD (Exists.intro gfp (Exists.intro gfd (And.intro rfl (And.intro rfl (And.intro (by first | omega | assumption | exact q_rg_up (by assumption) (by omega) | exact q_rg_up (q_rg_up (by assumption) (by omega)) (by omega) | exact q_rg_cpy (by assumption) (by assumption)) (And.intro (by first | omega | assumption | exact q_rg_up (by assumption) (by omega) | exact q_rg_up (q_rg_up (by assumption) (by omega)) (by omega) | exact q_rg_cpy (by assumption) (by assumption)) (And.intro rfl (And.intro (LnS_n hLS hq_184.1 (ful_n (by omega)) hgo) (And.intro (LnS_t hLS) (?_)))))))))))))))))))))))))))))))))))))
                intro zq_262 x_mre_262 x_mbe_262 x_mso_262 x_mva_262 x_mwo_262 x_mwr_262 x_mlf_262 x_mlp_262 x_mgo_262 x_re_262 x_td_262 hq_262
                apply And.intro
                · first | exact Or.inl rfl | exact Or.inr rfl | omega
                exact hQ _ _ _ _ _ _ _ _ _ _ _ _ _ _ ⟨by omega, by omega, by omega, (by first | assumption | exact hq_126.2.2.2.1 | exact hq_212.2.2.2.1 | exact hq_219.2.2.2.1 | exact hq_232.2.2.2.1 | exact hq_247.2.2.2.1 | exact hq_262.2.2.2.1 | exact hq_269.2.2.2.1), (by first | (rw [hq_179.1]; exact LnO_n hgw (by omega) (hq_179.2.trans hLS.1.1)) | exact LnO_m hgw hq_126.2.2.2.2 (by unfold FW3 at hw9; omega) | exact LnO_m (w := 1) ((hq_207).symm.trans hgw) hq_212.2.2.2.2 (by decide) | exact LnO_m (w := 2) (((show gw = 2 by first | exact hq_199 | (exfalso; omega))).symm.trans hgw) hq_219.2.2.2.2 (by decide) | exact LnO_m (w := 5) ((hq_227).symm.trans hgw) hq_232.2.2.2.2 (by decide) | exact LnO_m (w := 6) ((hq_242).symm.trans hgw) hq_247.2.2.2.2 (by decide) | exact LnO_m (w := 7) ((hq_257).symm.trans hgw) hq_262.2.2.2.2 (by decide) | exact LnO_m (w := 8) (((FW6_8 hw9 (by omega) (by omega) (by omega) (by omega) (by omega))).symm.trans hgw) hq_269.2.2.2.2 (by decide))⟩
            · intro hq_243
              replace hq_242 := wb1 hq_242 hq_243
              refine Exists.intro [0, 1, 2, 3, 4, 5, 6, 7, 8, 9, 10, 11, 12, 13, 14, 15, 16, 17, 18, 19, 20, 21, 22, 23, 24, 25] (Exists.intro [q2 0] (Exists.intro ([.inr (12, [q1 _, q2 1, q2 4, q2 5, q2 6, q2 7, q2 8, q2 9, q2 10, q2 11, q1 _, q1 _, q1 _, q1 _, q1 _, q3 _, q1 _, q1 _, q1 _, q2 3, q2 2, q1 _, q1 _, q1 _, q1 _, q1 _, q1 _, q2 12, q1 _, q2 13, q2 14, q2 15, q2 16, q1 _, q2 17, q1 _, q2 18, q2 19, q2 20, q2 21, q2 22, q1 _, q2 23, q2 24, q2 25]), .inl (1, 2400, .inl _), .inl (0, 4, .inl _), .inl (0, 161, .inl _)]) (And.intro rfl (And.intro rfl (And.intro rfl (And.intro ⟨⟨_, rfl⟩, rfl⟩ ?_))))))
              refine Exists.intro _ (Exists.intro _ (Exists.intro _ (Exists.intro _ (Exists.intro _ (Exists.intro _ (Exists.intro _ (Exists.intro _ (Exists.intro _ (Exists.intro _ (Exists.intro _ (Exists.intro _ (Exists.intro _ (Exists.intro _ (Exists.intro _ (Exists.intro _ (Exists.intro _ (Exists.intro _ (Exists.intro _ (Exists.intro _ (Exists.intro _ (Exists.intro _ (Exists.intro _ (Exists.intro 6 (Exists.intro gp (Exists.intro (ntF (fulP 6 gD) 3 gf) (Exists.intro (ntP (fulP 6 gD) (tB (tc tp) mle gp) gf gq) (Exists.intro gD (Exists.intro gfp (Exists.intro gfd (And.intro rfl (And.intro rfl (And.intro (by first | omega | assumption | exact q_rg_up (by assumption) (by omega) | exact q_rg_up (q_rg_up (by assumption) (by omega)) (by omega) | exact q_rg_cpy (by assumption) (by assumption)) (And.intro (by first | omega | assumption | exact q_rg_up (by assumption) (by omega) | exact q_rg_up (q_rg_up (by assumption) (by omega)) (by omega) | exact q_rg_cpy (by assumption) (by assumption)) (And.intro rfl (And.intro (LnS_n hLS hq_184.1 (ful_n (by omega)) hgo) (And.intro (LnS_t hLS) (?_)))))))))))))))))))))))))))))))))))))
              intro zq_247 x_mre_247 x_mbe_247 x_mso_247 x_mva_247 x_mwo_247 x_mwr_247 x_mlf_247 x_mlp_247 x_mgo_247 x_re_247 x_td_247 x_mfp_247 x_mfd_247 hq_247
              apply And.intro
              · first | exact Or.inl rfl | exact Or.inr rfl | omega
              exact hQ _ _ _ _ _ _ _ _ _ _ _ _ _ _ ⟨by omega, by omega, by omega, (by first | assumption | exact hq_126.2.2.2.1 | exact hq_212.2.2.2.1 | exact hq_219.2.2.2.1 | exact hq_232.2.2.2.1 | exact hq_247.2.2.2.1 | exact hq_262.2.2.2.1 | exact hq_269.2.2.2.1), (by first | (rw [hq_179.1]; exact LnO_n hgw (by omega) (hq_179.2.trans hLS.1.1)) | exact LnO_m hgw hq_126.2.2.2.2 (by unfold FW3 at hw9; omega) | exact LnO_m (w := 1) ((hq_207).symm.trans hgw) hq_212.2.2.2.2 (by decide) | exact LnO_m (w := 2) (((show gw = 2 by first | exact hq_199 | (exfalso; omega))).symm.trans hgw) hq_219.2.2.2.2 (by decide) | exact LnO_m (w := 5) ((hq_227).symm.trans hgw) hq_232.2.2.2.2 (by decide) | exact LnO_m (w := 6) ((hq_242).symm.trans hgw) hq_247.2.2.2.2 (by decide) | exact LnO_m (w := 7) ((hq_257).symm.trans hgw) hq_262.2.2.2.2 (by decide) | exact LnO_m (w := 8) (((FW6_8 hw9 (by omega) (by omega) (by omega) (by omega) (by omega))).symm.trans hgw) hq_269.2.2.2.2 (by decide))⟩
          · intro hq_228
            replace hq_227 := wb1 hq_227 hq_228
            refine Exists.intro [0, 1, 2, 3, 4, 5, 6, 7, 8, 9, 10, 11, 12, 13, 14, 15, 16, 17, 18, 19, 20, 21, 22, 23, 24, 25] (Exists.intro [q2 0] (Exists.intro ([.inr (12, [q1 _, q2 1, q2 4, q2 5, q2 6, q2 7, q2 8, q2 9, q2 10, q2 11, q1 _, q1 _, q1 _, q1 _, q1 _, q3 _, q1 _, q1 _, q1 _, q2 3, q2 2, q1 _, q1 _, q1 _, q1 _, q1 _, q1 _, q2 12, q1 _, q2 13, q2 14, q2 15, q2 16, q1 _, q2 17, q1 _, q2 18, q2 19, q2 20, q2 21, q2 22, q1 _, q2 23, q2 24, q2 25]), .inl (1, 2400, .inl _), .inl (0, 4, .inl _), .inl (0, 161, .inl _)]) (And.intro rfl (And.intro rfl (And.intro rfl (And.intro ⟨⟨_, rfl⟩, rfl⟩ ?_))))))
            refine Exists.intro _ (Exists.intro _ (Exists.intro _ (Exists.intro _ (Exists.intro _ (Exists.intro _ (Exists.intro _ (Exists.intro _ (Exists.intro _ (Exists.intro _ (Exists.intro _ (Exists.intro _ (Exists.intro _ (Exists.intro _ (Exists.intro _ (Exists.intro _ (Exists.intro _ (Exists.intro _ (Exists.intro _ (Exists.intro _ (Exists.intro _ (Exists.intro _ (Exists.intro _ (Exists.intro 5 (Exists.intro gp (Exists.intro (ntF (fulP 5 gD) 3 gf) (Exists.intro (ntP (fulP 5 gD) (tB (tc tp) mle gp) gf gq) (Exists.intro gD (Exists.intro gfp (Exists.intro gfd (And.intro rfl (And.intro rfl (And.intro (by first | omega | assumption | exact q_rg_up (by assumption) (by omega) | exact q_rg_up (q_rg_up (by assumption) (by omega)) (by omega) | exact q_rg_cpy (by assumption) (by assumption)) (And.intro (by first | omega | assumption | exact q_rg_up (by assumption) (by omega) | exact q_rg_up (q_rg_up (by assumption) (by omega)) (by omega) | exact q_rg_cpy (by assumption) (by assumption)) (And.intro rfl (And.intro (LnS_n hLS hq_184.1 (ful_n (by omega)) hgo) (And.intro (LnS_t hLS) (?_)))))))))))))))))))))))))))))))))))))
            intro zq_232 x_mre_232 x_mbe_232 x_mso_232 x_mva_232 x_mwo_232 x_mwr_232 x_mlf_232 x_mlp_232 x_mgo_232 x_re_232 x_td_232 x_mfp_232 hq_232
            apply And.intro
            · first | exact Or.inl rfl | exact Or.inr rfl | omega
            exact hQ _ _ _ _ _ _ _ _ _ _ _ _ _ _ ⟨by omega, by omega, by omega, (by first | assumption | exact hq_126.2.2.2.1 | exact hq_212.2.2.2.1 | exact hq_219.2.2.2.1 | exact hq_232.2.2.2.1 | exact hq_247.2.2.2.1 | exact hq_262.2.2.2.1 | exact hq_269.2.2.2.1), (by first | (rw [hq_179.1]; exact LnO_n hgw (by omega) (hq_179.2.trans hLS.1.1)) | exact LnO_m hgw hq_126.2.2.2.2 (by unfold FW3 at hw9; omega) | exact LnO_m (w := 1) ((hq_207).symm.trans hgw) hq_212.2.2.2.2 (by decide) | exact LnO_m (w := 2) (((show gw = 2 by first | exact hq_199 | (exfalso; omega))).symm.trans hgw) hq_219.2.2.2.2 (by decide) | exact LnO_m (w := 5) ((hq_227).symm.trans hgw) hq_232.2.2.2.2 (by decide) | exact LnO_m (w := 6) ((hq_242).symm.trans hgw) hq_247.2.2.2.2 (by decide) | exact LnO_m (w := 7) ((hq_257).symm.trans hgw) hq_262.2.2.2.2 (by decide) | exact LnO_m (w := 8) (((FW6_8 hw9 (by omega) (by omega) (by omega) (by omega) (by omega))).symm.trans hgw) hq_269.2.2.2.2 (by decide))⟩
        · intro hq_200
          replace hq_199 := wb1 hq_199 hq_200
          intro zq_207 hq_207
          replace hq_207 := wb_0 (i := 1) hww hgp2 hgw (by decide) (by decide) hq_207
          apply And.intro
          · intro hq_208
            replace hq_207 := wb0 hq_207 hq_208
            refine Exists.intro [0, 1, 2, 3, 4, 5, 6, 7, 8, 9, 10, 11, 12, 13, 14, 15, 16, 17, 18, 19, 20, 21, 22, 23, 24, 25] (Exists.intro [q2 0] (Exists.intro ([.inr (12, [q1 _, q2 1, q2 4, q2 5, q2 6, q2 7, q2 8, q2 9, q2 10, q2 11, q1 _, q1 _, q1 _, q1 _, q1 _, q3 _, q1 _, q1 _, q1 _, q2 3, q2 2, q1 _, q1 _, q1 _, q1 _, q1 _, q1 _, q2 12, q1 _, q2 13, q2 14, q2 15, q2 16, q1 _, q2 17, q1 _, q2 18, q2 19, q2 20, q2 21, q2 22, q1 _, q2 23, q2 24, q2 25]), .inl (1, 2400, .inl _), .inl (0, 4, .inl _), .inl (0, 161, .inl _)]) (And.intro rfl (And.intro rfl (And.intro rfl (And.intro ⟨⟨_, rfl⟩, rfl⟩ ?_))))))
            refine Exists.intro _ (Exists.intro _ (Exists.intro _ (Exists.intro _ (Exists.intro _ (Exists.intro _ (Exists.intro _ (Exists.intro _ (Exists.intro _ (Exists.intro _ (Exists.intro _ (Exists.intro _ (Exists.intro _ (Exists.intro _ (Exists.intro _ (Exists.intro _ (Exists.intro _ (Exists.intro _ (Exists.intro _ (Exists.intro _ (Exists.intro _ (Exists.intro _ (Exists.intro _ (Exists.intro 2 (Exists.intro gp (Exists.intro (ntF (fulP 2 gD) 3 gf) (Exists.intro (ntP (fulP 2 gD) (tB (tc tp) mle gp) gf gq) (Exists.intro gD (Exists.intro gfp (Exists.intro gfd (And.intro rfl (And.intro rfl (And.intro (by first | omega | assumption | exact q_rg_up (by assumption) (by omega) | exact q_rg_up (q_rg_up (by assumption) (by omega)) (by omega) | exact q_rg_cpy (by assumption) (by assumption)) (And.intro (by first | omega | assumption | exact q_rg_up (by assumption) (by omega) | exact q_rg_up (q_rg_up (by assumption) (by omega)) (by omega) | exact q_rg_cpy (by assumption) (by assumption)) (And.intro rfl (And.intro (LnS_n hLS hq_184.1 (ful_n (by omega)) hgo) (And.intro (LnS_t hLS) (?_)))))))))))))))))))))))))))))))))))))
            intro zq_219 x_mre_219 x_mbe_219 x_mso_219 x_mva_219 x_mwo_219 x_mwr_219 x_mlf_219 x_mlp_219 x_mgo_219 x_re_219 x_td_219 hq_219
            apply And.intro
            · first | exact Or.inl rfl | exact Or.inr rfl | omega
            exact hQ _ _ _ _ _ _ _ _ _ _ _ _ _ _ ⟨by omega, by omega, by omega, (by first | assumption | exact hq_126.2.2.2.1 | exact hq_212.2.2.2.1 | exact hq_219.2.2.2.1 | exact hq_232.2.2.2.1 | exact hq_247.2.2.2.1 | exact hq_262.2.2.2.1 | exact hq_269.2.2.2.1), (by first | (rw [hq_179.1]; exact LnO_n hgw (by omega) (hq_179.2.trans hLS.1.1)) | exact LnO_m hgw hq_126.2.2.2.2 (by unfold FW3 at hw9; omega) | exact LnO_m (w := 1) ((hq_207).symm.trans hgw) hq_212.2.2.2.2 (by decide) | exact LnO_m (w := 2) (((show gw = 2 by first | exact hq_199 | (exfalso; omega))).symm.trans hgw) hq_219.2.2.2.2 (by decide) | exact LnO_m (w := 5) ((hq_227).symm.trans hgw) hq_232.2.2.2.2 (by decide) | exact LnO_m (w := 6) ((hq_242).symm.trans hgw) hq_247.2.2.2.2 (by decide) | exact LnO_m (w := 7) ((hq_257).symm.trans hgw) hq_262.2.2.2.2 (by decide) | exact LnO_m (w := 8) (((FW6_8 hw9 (by omega) (by omega) (by omega) (by omega) (by omega))).symm.trans hgw) hq_269.2.2.2.2 (by decide))⟩
          · intro hq_208
            replace hq_207 := wb1 hq_207 hq_208
            refine Exists.intro [0, 1, 2, 3, 4, 5, 6, 7, 8, 9, 10, 11, 12, 13, 14, 15, 16, 17, 18, 19, 20, 21, 22, 23, 24, 25] (Exists.intro [q2 0] (Exists.intro ([.inr (12, [q1 _, q2 1, q2 4, q2 5, q2 6, q2 7, q2 8, q2 9, q2 10, q2 11, q1 _, q1 _, q1 _, q1 _, q1 _, q3 _, q1 _, q1 _, q1 _, q2 3, q2 2, q1 _, q1 _, q1 _, q1 _, q1 _, q1 _, q2 12, q1 _, q2 13, q2 14, q2 15, q2 16, q1 _, q2 17, q1 _, q2 18, q2 19, q2 20, q2 21, q2 22, q1 _, q2 23, q2 24, q2 25]), .inl (1, 2400, .inl _), .inl (0, 4, .inl _), .inl (0, 161, .inl _)]) (And.intro rfl (And.intro rfl (And.intro rfl (And.intro ⟨⟨_, rfl⟩, rfl⟩ ?_))))))
            refine Exists.intro _ (Exists.intro _ (Exists.intro _ (Exists.intro _ (Exists.intro _ (Exists.intro _ (Exists.intro _ (Exists.intro _ (Exists.intro _ (Exists.intro _ (Exists.intro _ (Exists.intro _ (Exists.intro _ (Exists.intro _ (Exists.intro _ (Exists.intro _ (Exists.intro _ (Exists.intro _ (Exists.intro _ (Exists.intro _ (Exists.intro _ (Exists.intro _ (Exists.intro _ (Exists.intro 1 (Exists.intro gp (Exists.intro (ntF (fulP 1 gD) 3 gf) (Exists.intro (ntP (fulP 1 gD) (tB (tc tp) mle gp) gf gq) (Exists.intro gD (Exists.intro gfp (Exists.intro gfd (And.intro rfl (And.intro rfl (And.intro (by first | omega | assumption | exact q_rg_up (by assumption) (by omega) | exact q_rg_up (q_rg_up (by assumption) (by omega)) (by omega) | exact q_rg_cpy (by assumption) (by assumption)) (And.intro (by first | omega | assumption | exact q_rg_up (by assumption) (by omega) | exact q_rg_up (q_rg_up (by assumption) (by omega)) (by omega) | exact q_rg_cpy (by assumption) (by assumption)) (And.intro rfl (And.intro (LnS_n hLS hq_184.1 (ful_n (by omega)) hgo) (And.intro (LnS_t hLS) (?_)))))))))))))))))))))))))))))))))))))
            intro zq_212 x_mre_212 x_mbe_212 x_mso_212 x_mva_212 x_mwo_212 x_mwr_212 x_mlf_212 x_mlp_212 x_mgo_212 x_re_212 x_td_212 x_mfp_212 hq_212
            apply And.intro
            · first | exact Or.inl rfl | exact Or.inr rfl | omega
            exact hQ _ _ _ _ _ _ _ _ _ _ _ _ _ _ ⟨by omega, by omega, by omega, (by first | assumption | exact hq_126.2.2.2.1 | exact hq_212.2.2.2.1 | exact hq_219.2.2.2.1 | exact hq_232.2.2.2.1 | exact hq_247.2.2.2.1 | exact hq_262.2.2.2.1 | exact hq_269.2.2.2.1), (by first | (rw [hq_179.1]; exact LnO_n hgw (by omega) (hq_179.2.trans hLS.1.1)) | exact LnO_m hgw hq_126.2.2.2.2 (by unfold FW3 at hw9; omega) | exact LnO_m (w := 1) ((hq_207).symm.trans hgw) hq_212.2.2.2.2 (by decide) | exact LnO_m (w := 2) (((show gw = 2 by first | exact hq_199 | (exfalso; omega))).symm.trans hgw) hq_219.2.2.2.2 (by decide) | exact LnO_m (w := 5) ((hq_227).symm.trans hgw) hq_232.2.2.2.2 (by decide) | exact LnO_m (w := 6) ((hq_242).symm.trans hgw) hq_247.2.2.2.2 (by decide) | exact LnO_m (w := 7) ((hq_257).symm.trans hgw) hq_262.2.2.2.2 (by decide) | exact LnO_m (w := 8) (((FW6_8 hw9 (by omega) (by omega) (by omega) (by omega) (by omega))).symm.trans hgw) hq_269.2.2.2.2 (by decide))⟩
    simp only [I_F12_boroughLine, hq_24, hq_49, hq_79, hq_124, hq_183, if_false] at hI
  rintro lv st w' ⟨rfl, rfl, rfl⟩
  have rw9 := li_r0 hgw
  intro zq_4 hq_4
  replace hq_4 := wb_0 (i := 0) hww hgp2 hgw (by decide) (by decide) hq_4
  apply And.intro
  · intro hq_5
    replace hq_4 := wb1 hq_4 hq_5
    exact ⟨_, (), rfl, rfl, rfl, rfl, (by unfold FW0; omega)⟩
  · intro hq_5
    replace hq_4 := wb0 hq_4 hq_5
    intro zq_12 hq_12
    replace hq_12 := wb_0 (i := 3) hww hgp2 hgw (by decide) (by decide) hq_12
    apply And.intro
    · intro hq_13
      replace hq_12 := wb1 hq_12 hq_13
      exact ⟨_, (), rfl, rfl, rfl, rfl, (by unfold FW0; omega)⟩
    · intro hq_13
      replace hq_12 := wb0 hq_12 hq_13
      intro zq_20 hq_20
      replace hq_20 := wb_0 (i := 4) hww hgp2 hgw (by decide) (by decide) hq_20
      apply And.intro
      · intro hq_21
        replace hq_20 := wb0 hq_20 hq_21
        intro zq_134 hq_134
        replace hq_134 := wb_0 (i := 1) hww hgp2 hgw (by decide) (by decide) hq_134
        apply And.intro
        · intro hq_135
          replace hq_134 := wb1 hq_134 hq_135
          exact ⟨_, (), rfl, rfl, rfl, rfl, (by unfold FW6; omega)⟩
        · intro hq_135
          replace hq_134 := wb0 hq_134 hq_135
          intro zq_142 hq_142
          replace hq_142 := wb_0 (i := 2) hww hgp2 hgw (by decide) (by decide) hq_142
          apply And.intro
          · intro hq_143
            replace hq_142 := wb1 hq_142 hq_143
            exact ⟨_, (), rfl, rfl, rfl, rfl, (by unfold FW6; omega)⟩
          · intro hq_143
            replace hq_142 := wb0 hq_142 hq_143
            intro zq_150 hq_150
            replace hq_150 := wb_0 (i := 5) hww hgp2 hgw (by decide) (by decide) hq_150
            apply And.intro
            · intro hq_151
              replace hq_150 := wb1 hq_150 hq_151
              exact ⟨_, (), rfl, rfl, rfl, rfl, (by unfold FW6; omega)⟩
            · intro hq_151
              replace hq_150 := wb0 hq_150 hq_151
              intro zq_158 hq_158
              replace hq_158 := wb_0 (i := 6) hww hgp2 hgw (by decide) (by decide) hq_158
              apply And.intro
              · intro hq_159
                replace hq_158 := wb1 hq_158 hq_159
                exact ⟨_, (), rfl, rfl, rfl, rfl, (by unfold FW6; omega)⟩
              · intro hq_159
                replace hq_158 := wb0 hq_158 hq_159
                intro zq_166 hq_166
                replace hq_166 := wb_0 (i := 7) hww hgp2 hgw (by decide) (by decide) hq_166
                apply And.intro
                · intro hq_167
                  replace hq_166 := wb1 hq_166 hq_167
                  exact ⟨_, (), rfl, rfl, rfl, rfl, (by unfold FW6; omega)⟩
                · intro hq_167
                  replace hq_166 := wb0 hq_166 hq_167
                  intro zq_174 hq_174
                  replace hq_174 := wb_0 (i := 8) hww hgp2 hgw (by decide) (by decide) hq_174
                  apply And.intro
                  · intro hq_175
                    replace hq_174 := wb1 hq_174 hq_175
                    exact ⟨_, (), rfl, rfl, rfl, rfl, (by unfold FW6; omega)⟩
                  · intro hq_175
                    replace hq_174 := wb0 hq_174 hq_175
                    refine Exists.intro [0, 1, 4, 5, 6, 7, 8, 9, 10, 11, 3, 2, 12, 13, 14, 15, 16, 17, 18, 19, 20, 21, 22, 23, 24, 25] (Exists.intro [q2 0] (Exists.intro ([.inr (12, [q1 _, q2 1, q2 2, q2 3, q2 4, q2 5, q2 6, q2 7, q2 8, q2 9, q1 _, q1 _, q1 _, q1 _, q1 _, q3 _, q1 _, q1 _, q1 _, q2 10, q2 11, q1 _, q1 _, q1 _, q1 _, q1 _, q1 _, q2 12, q1 _, q2 13, q2 14, q2 15, q2 16, q1 _, q2 17, q1 _, q2 18, q2 19, q2 20, q2 21, q2 22, q1 _, q2 23, q2 24, q2 25])]) (And.intro rfl (And.intro rfl (And.intro rfl (And.intro ⟨⟨_, rfl⟩, rfl⟩ ?_))))))
                    refine Exists.intro _ (Exists.intro _ (Exists.intro _ (Exists.intro _ (Exists.intro _ (Exists.intro _ (Exists.intro _ (Exists.intro _ (Exists.intro _ (Exists.intro _ (Exists.intro _ (Exists.intro _ (Exists.intro _ (Exists.intro _ (Exists.intro _ (Exists.intro _ (Exists.intro _ (Exists.intro _ (Exists.intro _ (Exists.intro _ (And.intro rfl (And.intro rfl (?_))))))))))))))))))))))
                    intro zq_179 x_mwr_179 hq_179
                    apply And.intro
                    · first | exact Or.inl rfl | exact Or.inr rfl | omega
                    exact hQ _ _ _ _ _ _ _ _ _ _ _ _ _ _ ⟨by omega, by omega, by omega, (by first | assumption | exact hq_126.2.2.2.1 | exact hq_212.2.2.2.1 | exact hq_219.2.2.2.1 | exact hq_232.2.2.2.1 | exact hq_247.2.2.2.1 | exact hq_262.2.2.2.1 | exact hq_269.2.2.2.1), (by first | (rw [hq_179.1]; exact LnO_n hgw (by omega) (hq_179.2.trans hLS.1.1)) | exact LnO_m hgw hq_126.2.2.2.2 (by unfold FW3 at hw9; omega) | exact LnO_m (w := 1) ((hq_207).symm.trans hgw) hq_212.2.2.2.2 (by decide) | exact LnO_m (w := 2) (((show gw = 2 by first | exact hq_199 | (exfalso; omega))).symm.trans hgw) hq_219.2.2.2.2 (by decide) | exact LnO_m (w := 5) ((hq_227).symm.trans hgw) hq_232.2.2.2.2 (by decide) | exact LnO_m (w := 6) ((hq_242).symm.trans hgw) hq_247.2.2.2.2 (by decide) | exact LnO_m (w := 7) ((hq_257).symm.trans hgw) hq_262.2.2.2.2 (by decide) | exact LnO_m (w := 8) (((FW6_8 hw9 (by omega) (by omega) (by omega) (by omega) (by omega))).symm.trans hgw) hq_269.2.2.2.2 (by decide))⟩
      · intro hq_21
        replace hq_20 := wb1 hq_20 hq_21
        exact ⟨_, (), rfl, rfl, rfl, rfl, (by unfold FW0; omega)⟩
