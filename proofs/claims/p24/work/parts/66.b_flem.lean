/-! ===== the reference's lines, slot by slot ===== -/
theorem rk_3 {k : Int} (h : rkK k = 3) : k = 2 := by
  unfold rkK at h
  split at h
  · exact absurd h (by decide)
  · split at h
    · exact absurd h (by decide)
    · split at h
      · assumption
      · split at h
        · exact absurd h (by decide)
        · exact absurd h (by decide)
theorem rk_2 {k : Int} (h : rkK k = 2) : k = 1 := by
  unfold rkK at h
  split at h
  · exact absurd h (by decide)
  · split at h
    · assumption
    · split at h
      · exact absurd h (by decide)
      · split at h
        · exact absurd h (by decide)
        · exact absurd h (by decide)
theorem rk_4 {k : Int} (h : rkK k = 4) : k = 3 := by
  unfold rkK at h
  split at h
  · exact absurd h (by decide)
  · split at h
    · exact absurd h (by decide)
    · split at h
      · exact absurd h (by decide)
      · split at h
        · assumption
        · exact absurd h (by decide)
theorem rk_0 {k : Int} (h : rkK k = 0) : k = 0 := by
  unfold rkK at h
  split at h
  · assumption
  · split at h
    · exact absurd h (by decide)
    · split at h
      · exact absurd h (by decide)
      · split at h
        · exact absurd h (by decide)
        · exact absurd h (by decide)
theorem tK_n {t : Nat → Int} {n p : Int} (h : ¬ tK t n p = 0) : tB t n p < n := by
  by_cases c : tB t n p < n
  · exact c
  · exfalso; apply h; unfold tK; rw [if_neg c]
theorem lvs_1 {t : Nat → Int} {n w p : Int} {j : Nat} (h : slT w j = 1) : lvs t n w p j = tV t n (lps t n w p j) := by unfold lvs slV; rw [if_neg (by omega), if_neg (by omega)]
theorem lvs_2 {t : Nat → Int} {n w p : Int} {j : Nat} (h : slT w j = 2) : lvs t n w p j = ofW t n (lps t n w p j) := by unfold lvs slV; rw [if_neg (by omega), if_pos h]
def LtM (fa pl lf lp : Int) : Prop := lf = fa ∧ (¬ fa = 0 → lp = pl)
def SlM (t : Nat → Int) (n w p f1 p1 : Int) (j : Nat) (re be so va wo lf lp go : Int) : Prop := TokR t n (lps t n w p j) re be so va wo ∧ LtM (lfa t n w p f1 j) (lpl t n w p f1 p1 j) lf lp ∧ lok t n w p j ∧ (go = 0 → ¬ lfa t n w p f1 j = 0) ∧ (¬ go = 0 → ∀ i : Nat, i < j → slT w i = 1 → slL w i ≤ lvs t n w p i ∧ lvs t n w p i ≤ slG w i) ∧ (¬ lfa t n w p f1 j = 0 → lpl t n w p f1 p1 j < tB t n (lps t n w p j)) ∧ p ≤ n
theorem SlM_b {t : Nat → Int} {n w p f1 p1 re be so va wo lf lp go : Int} {j : Nat} (h : SlM t n w p f1 p1 j re be so va wo lf lp go) (hq_0 : ¬ lf = 0) : lp < be := by
  obtain ⟨⟨t1, -⟩, ⟨l1, l2⟩, -, -, -, hb, -⟩ := h
  have hq_1 : ¬ lfa t n w p f1 j = 0 := by rw [← l1]; exact hq_0
  rw [l2 hq_1, t1]; exact hb hq_1
theorem SlM_v {t : Nat → Int} {n w p f1 p1 re be so va wo lf lp go : Int} {j : Nat} (h : SlM t n w p f1 p1 j re be so va wo lf lp go) (hty : slT w j = 1) (hso : so = 3) : va = lvs t n w p j := by
  obtain ⟨⟨-, -, t3, t4, -⟩, -⟩ := h
  rw [lvs_1 hty]
  exact t4 (rk_3 (t3.symm.trans hso))
theorem SlM_mv {t : Nat → Int} {n w p : Int} {j : Nat} (hp : p ≤ n) (hty : ¬ slT w j = 0) (hk : ¬ tK t n (lps t n w p j) = 0) : tB t n (lps t n w p j) < lps t n w p (j + 1) ∧ lps t n w p (j + 1) ≤ tB t n (lps t n w p (j + 1)) := by
  have hq_1 := lps_r (t := t) (w := w) hp j
  have hq_2 := lps_r (t := t) (w := w) hp (j + 1)
  have hq_3 := tE_r (t := t) hq_1.2
  have hq_4 := tB_r (t := t) hq_2.2
  have hq_5 := tK_n hk
  rw [lps_1 hty] at hq_4 ⊢
  exact ⟨hq_3.2.2 hq_5, hq_4.1⟩
theorem SlM_bad {t : Nat → Int} {n w p f1 p1 re be so va wo lf lp go re' be' so' va' wo' lf' lp' : Int} {j : Nat} (h : SlM t n w p f1 p1 j re be so va wo lf lp go) (hty : slT w j = 1) (hso : so = 3) (hbad : va < slL w j ∨ slG w j < va ∨ (((w = 5 ∨ w = 13) ∧ (j : Int) = 1) ∧ va = lvs t n w p 0)) (hl : lf = 0 ∧ lf' = 2 ∧ lp' = be ∨ ¬ lf = 0 ∧ lf' = lf ∧ lp' = lp) (hT : TokR t n re re' be' so' va' wo') : SlM t n w p f1 p1 (j + 1) re' be' so' va' wo' lf' lp' 0 := by
  obtain ⟨⟨t1, t2, t3, t4, t5⟩, ⟨l1, l2⟩, hk, g0, g1, hb, hp⟩ := h
  have k2 : tK t n (lps t n w p j) = 2 := rk_3 (t3.symm.trans hso)
  have hv := t4 k2
  have hB : slB t n w j (lvs t n w p 0) (lps t n w p j) := by
    refine ⟨hty, ?_⟩
    rw [← hv]
    rcases hbad with h | h | ⟨⟨hq_1, hq_2⟩, hq_3⟩
    · exact Or.inl h
    · exact Or.inr (Or.inl h)
    · exact Or.inr (Or.inr ⟨hq_1, hq_2, hq_3⟩)
  have hm := SlM_mv (t := t) (n := n) (w := w) (p := p) (j := j) hp (by omega) (by omega)
  have e9 : lps t n w p (j + 1) = re := by rw [lps_1 (by omega), t2]
  have eF : lfa t n w p f1 (j + 1) = ntF (slB t n w j (lvs t n w p 0) (lps t n w p j)) 2 (lfa t n w p f1 j) := rfl
  have eP : lpl t n w p f1 p1 (j + 1) = ntP (slB t n w j (lvs t n w p 0) (lps t n w p j)) (tB t n (lps t n w p j)) (lfa t n w p f1 j) (lpl t n w p f1 p1 j) := rfl
  have hok : lok t n w p (j + 1) := ⟨hk, Or.inr (Or.inr ⟨hty, k2⟩)⟩
  rcases hl with ⟨a1, a2, a3⟩ | ⟨a1, a2, a3⟩
  · have z : lfa t n w p f1 j = 0 := by rw [← l1]; exact a1
    have eF2 : lfa t n w p f1 (j + 1) = 2 := by rw [eF]; exact pif_t ⟨z, hB⟩
    have eP2 : lpl t n w p f1 p1 (j + 1) = tB t n (lps t n w p j) := by rw [eP]; exact pif_t ⟨z, hB⟩
    refine ⟨by rw [e9]; exact hT, ⟨by rw [eF2]; exact a2, fun _ => by rw [eP2, a3]; exact t1⟩, hok, fun _ => by rw [eF2]; decide, fun hq_9 => absurd rfl hq_9, fun _ => by rw [eP2]; omega, hp⟩
  · have z : ¬ lfa t n w p f1 j = 0 := by rw [← l1]; exact a1
    have eF2 : lfa t n w p f1 (j + 1) = lfa t n w p f1 j := by rw [eF]; exact ntF_k z
    have eP2 : lpl t n w p f1 p1 (j + 1) = lpl t n w p f1 p1 j := by rw [eP]; exact ntP_k z
    have hb2 := hb z
    refine ⟨by rw [e9]; exact hT, ⟨by rw [eF2, a2]; exact l1, fun _ => by rw [eP2, a3]; exact l2 z⟩, hok, fun _ => by rw [eF2]; exact z, fun hq_9 => absurd rfl hq_9, fun _ => by rw [eP2]; omega, hp⟩
theorem SlM_good {t : Nat → Int} {n w p f1 p1 re be so va wo lf lp go re' be' so' va' wo' : Int} {j : Nat} (h : SlM t n w p f1 p1 j re be so va wo lf lp go) (hty : slT w j = 1) (hso : so = 3) (hgd : slL w j ≤ va ∧ va ≤ slG w j) (hne : ¬ (((w = 5 ∨ w = 13) ∧ (j : Int) = 1) ∧ va = lvs t n w p 0)) (hT : TokR t n re re' be' so' va' wo') : SlM t n w p f1 p1 (j + 1) re' be' so' va' wo' lf lp go := by
  have hvv := SlM_v h hty hso
  obtain ⟨⟨t1, t2, t3, t4, t5⟩, ⟨l1, l2⟩, hk, g0, g1, hb, hp⟩ := h
  have k2 : tK t n (lps t n w p j) = 2 := rk_3 (t3.symm.trans hso)
  have hv := t4 k2
  have hB : ¬ slB t n w j (lvs t n w p 0) (lps t n w p j) := by
    rintro ⟨-, h | h | ⟨hq_1, hq_2, hq_3⟩⟩
    · rw [← hv] at h; omega
    · rw [← hv] at h; omega
    · exact hne ⟨⟨hq_1, hq_2⟩, by rw [hv]; exact hq_3⟩
  have hm := SlM_mv (t := t) (n := n) (w := w) (p := p) (j := j) hp (by omega) (by omega)
  have e9 : lps t n w p (j + 1) = re := by rw [lps_1 (by omega), t2]
  have eF : lfa t n w p f1 (j + 1) = lfa t n w p f1 j := ntF_n hB
  have eP : lpl t n w p f1 p1 (j + 1) = lpl t n w p f1 p1 j := ntP_n hB
  refine ⟨by rw [e9]; exact hT, ⟨by rw [eF]; exact l1, fun hq_9 => by rw [eF] at hq_9; rw [eP]; exact l2 hq_9⟩, ⟨hk, Or.inr (Or.inr ⟨hty, k2⟩)⟩, fun hq_9 => by rw [eF]; exact g0 hq_9, fun hq_9 i hi hti => ?_, fun hq_9 => ?_, hp⟩
  · by_cases c : i = j
    · rw [c, ← hvv]; exact hgd
    · exact g1 hq_9 i (by omega) hti
  · rw [eF] at hq_9
    have := hb hq_9
    rw [eP]; omega
theorem SlM_off {t : Nat → Int} {n w p f1 p1 re be so va wo lf lp go re' be' so' va' wo' : Int} {j : Nat} (h : SlM t n w p f1 p1 j re be so va wo lf lp go) (hty : slT w j = 2) (ho : ¬ ofW t n (lps t n w p j) = -1) (hk0 : ¬ tK t n (lps t n w p j) = 0) (hT : TokR t n re re' be' so' va' wo') : SlM t n w p f1 p1 (j + 1) re' be' so' va' wo' lf lp go := by
  obtain ⟨⟨t1, t2, t3, t4, t5⟩, ⟨l1, l2⟩, hk, g0, g1, hb, hp⟩ := h
  have hB : ¬ slB t n w j (lvs t n w p 0) (lps t n w p j) := slB_n (by omega)
  have hm := SlM_mv (t := t) (n := n) (w := w) (p := p) (j := j) hp (by omega) hk0
  have e9 : lps t n w p (j + 1) = re := by rw [lps_1 (by omega), t2]
  have eF : lfa t n w p f1 (j + 1) = lfa t n w p f1 j := ntF_n hB
  have eP : lpl t n w p f1 p1 (j + 1) = lpl t n w p f1 p1 j := ntP_n hB
  refine ⟨by rw [e9]; exact hT, ⟨by rw [eF]; exact l1, fun hq_9 => by rw [eF] at hq_9; rw [eP]; exact l2 hq_9⟩, ⟨hk, Or.inr (Or.inl ⟨hty, ho⟩)⟩, fun hq_9 => by rw [eF]; exact g0 hq_9, fun hq_9 i hi hti => ?_, fun hq_9 => ?_, hp⟩
  · by_cases c : i = j
    · rw [c] at hti; omega
    · exact g1 hq_9 i (by omega) hti
  · rw [eF] at hq_9
    have := hb hq_9
    rw [eP]; omega
theorem SlM_z {t : Nat → Int} {n w p f1 p1 re be so va wo lf lp go : Int} {j : Nat} (h : SlM t n w p f1 p1 j re be so va wo lf lp go) (hty : slT w j = 0) : SlM t n w p f1 p1 (j + 1) re be so va wo lf lp go := by
  obtain ⟨zq_1, zq_2, zq_3, zq_4, zq_5⟩ := sl_0 (t := t) (n := n) (w := w) (p := p) (fa := f1) (pl := p1) (j := j) hty
  obtain ⟨a1, a2, a3, a4, a5, a6, a7⟩ := h
  refine ⟨by rw [zq_1]; exact a1, by rw [zq_2, zq_3]; exact a2, zq_5 a3, by rw [zq_2]; exact a4, fun hq_9 i hi hti => ?_, by rw [zq_1, zq_2, zq_3]; exact a6, a7⟩
  by_cases c : i = j
  · rw [c] at hti; omega
  · exact a5 hq_9 i (by omega) hti
theorem SlM_nf {t : Nat → Int} {n w p f1 p1 re be so va wo lf lp go : Int} {j : Nat} (h : SlM t n w p f1 p1 j re be so va wo lf lp go) (hty : slT w j = 1) (hso : ¬ so = 3) : ¬ slOk t n w j (lps t n w p j) := by
  obtain ⟨⟨-, -, t3, -, -⟩, -⟩ := h
  rintro (hq_9 | ⟨hq_9, -⟩ | ⟨-, hq_9⟩)
  · omega
  · omega
  · apply hso; rw [t3, hq_9]; decide
theorem SlM_no {t : Nat → Int} {n w p f1 p1 re be so va wo lf lp go : Int} {j : Nat} (h : SlM t n w p f1 p1 j re be so va wo lf lp go) (hty : slT w j = 2) (ho : ofW t n (lps t n w p j) = -1) : ¬ slOk t n w j (lps t n w p j) := by
  rintro (hq_9 | ⟨-, hq_9⟩ | ⟨hq_9, -⟩)
  · omega
  · exact hq_9 ho
  · omega
def TkP (t : Nat → Int) (n w p f1 p1 : Int) (j : Nat) (a : Int) (rd : Nat → Int) (r re be so va wo wr lf lp go : Int) (rd' : Nat → Int) : Prop := (r = 1 ∧ SlM t n w p f1 p1 (j + 1) re be so va wo lf lp go ∧ rd' = q_up rd a.toNat (lvs t n w p j)) ∨ (r = 0 ∧ ¬ slOk t n w j (lps t n w p j) ∧ wr = tB t n (lps t n w p j))
def ButR (t : Nat → Int) (n w p : Int) (j : Nat) (dd : Int) : Prop := (((w = 5 ∨ w = 13) ∧ (j : Int) = 1) ∧ dd = lvs t n w p 0) ∨ (¬ ((w = 5 ∨ w = 13) ∧ (j : Int) = 1) ∧ dd = -1)
theorem But_y {t : Nat → Int} {n w p dd va : Int} {j : Nat} (h : ButR t n w p j dd) (hq_0 : 0 ≤ va) (e : va = dd) : ((w = 5 ∨ w = 13) ∧ (j : Int) = 1) ∧ va = lvs t n w p 0 := by
  rcases h with ⟨hq_1, hq_2⟩ | ⟨hq_1, hq_2⟩
  · exact ⟨hq_1, by rw [e, hq_2]⟩
  · omega
theorem But_n {t : Nat → Int} {n w p dd va : Int} {j : Nat} (h : ButR t n w p j dd) (e : ¬ va = dd) : ¬ (((w = 5 ∨ w = 13) ∧ (j : Int) = 1) ∧ va = lvs t n w p 0) := by
  rintro ⟨hq_3, hq_4⟩
  rcases h with ⟨hq_1, hq_2⟩ | ⟨hq_1, hq_2⟩
  · exact e (by rw [hq_4, hq_2])
  · exact hq_1 hq_3
/-! words -/
theorem tL_run {t : Nat → Int} {n p : Int} (hp : p ≤ n) (h : tK t n p = 1) : ∀ i : Int, tB t n p ≤ i → i < tE t n p → isL (byt t i) := by
  have hn : tB t n p < n := tK_n (by omega)
  have hl : isL (byt t (tB t n p)) := by
    unfold tK at h
    rw [if_pos hn] at h
    split at h
    · assumption
    · split at h
      · split at h
        · exact absurd h (by decide)
        · exact absurd h (by decide)
      · split at h
        · exact absurd h (by decide)
        · exact absurd h (by decide)
  have hr := rn_run (P := isL) (t := t) (tB_r (t := t) hp).2
  have e : tE t n p = rn isL t n (tB t n p) := by unfold tE; rw [if_pos hn, if_pos hl]
  rw [e]
  exact hr.2.2.1
theorem Wc_0 : ∀ i : Fin 21, ¬ Wc.getD i.val 0 = 0 := by decide +kernel
theorem Wc_inj : ∀ i j : Fin 21, Wc.getD i.val 0 = Wc.getD j.val 0 → i = j := by decide +kernel
theorem Wc_l : ∀ i : Fin 21, 0 ≤ Wc.getD i.val 0 ∧ Wc.getD i.val 0 ≤ 9223372036854775807 := by decide +kernel
/-- the packed word of a token is text i just if the token is -/
theorem wo_is {t : Nat → Int} {n p : Int} {i : Nat} (hp : p ≤ n) (hi : i < 21) : woT t n p = Wc.getD i 0 ↔ IsP t (tB t n p) (tE t n p) (tK t n p) i := by
  have hw0 := Wc_0 ⟨i, hi⟩
  have hw0 : ¬ Wc.getD i 0 = 0 := hw0
  unfold woT
  by_cases c : tK t n p = 1
  · rw [if_pos c, c]
    have hr := tE_r (t := t) hp
    unfold pkW
    by_cases c2 : tE t n p - tB t n p ≤ 8
    · rw [if_pos c2]
      exact pk_is hi hr.1 (tL_run hp c)
    · rw [if_neg c2]
      constructor
      · intro h; exact absurd h.symm hw0
      · rintro ⟨-, hq_2, -⟩
        have hq_7 := qTn_7 ⟨i, hi⟩
        have hq_7 : qTn.getD i 0 ≤ 7 := hq_7
        omega
  · rw [if_neg c]
    constructor
    · intro h; exact absurd h.symm hw0
    · rintro ⟨hq_1, -⟩; exact absurd hq_1 c
theorem Is_u {t : Nat → Int} {n p : Int} {i j : Nat} (hp : p ≤ n) (hi : i < 21) (hj : j < 21) (hq_1 : IsP t (tB t n p) (tE t n p) (tK t n p) i) (hq_2 : IsP t (tB t n p) (tE t n p) (tK t n p) j) : i = j := by
  have e1 := (wo_is hp hi).mpr hq_1
  have e2 := (wo_is hp hj).mpr hq_2
  have h := Wc_inj ⟨i, hi⟩ ⟨j, hj⟩ (e1.symm.trans e2)
  exact congrArg Fin.val h
theorem woT_l {t : Nat → Int} {n p : Int} (hp : p ≤ n) : 0 ≤ woT t n p ∧ woT t n p ≤ 9223372036854775807 := by
  unfold woT
  by_cases c : tK t n p = 1
  · rw [if_pos c]
    unfold pkW
    split
    · rename_i c2
      have hr := tE_r (t := t) hp
      have hL := tL_run hp c
      refine ⟨(pkN_lt (t := t) (b := tB t n p) _).1, ?_⟩
      cases hk : (tE t n p - tB t n p).toNat with
      | zero => show (0 : Int) ≤ 9223372036854775807; decide
      | succ k =>
        have l2 := pkN_ltL (t := t) (b := tB t n p) k (fun j hj => by
          have := hL (tB t n p + j) (by omega) (by omega)
          omega)
        have l4 : (256 : Nat) ^ k ≤ 256 ^ 7 := Nat.pow_le_pow_right (by decide) (by omega)
        have l4 : (256 : Nat) ^ k ≤ 72057594037927936 := l4
        omega
    · exact ⟨by decide, by decide⟩
  · rw [if_neg c]; exact ⟨by decide, by decide⟩
theorem li_i0 {t : Nat → Int} {n p : Int} {i : Nat} (hp : p ≤ n) (hi : 0 ≤ i ∧ i ≤ 8) (h : IsP t (tB t n p) (tE t n p) (tK t n p) i) : liW t n p 0 = (i : Int) := by
  have hn : ∀ k : Nat, k < 21 → ¬ k = i → ¬ IsP t (tB t n p) (tE t n p) (tK t n p) k := fun k hk hne hq_9 => hne (Is_u hp hk (by omega) hq_9 h)
  show liP _ _ _ _ 0 = _
  unfold liP
  rw [if_pos rfl]
  unfold boP
  rcases (show i = 0 ∨ i = 1 ∨ i = 2 ∨ i = 3 ∨ i = 4 ∨ i = 5 ∨ i = 6 ∨ i = 7 ∨ i = 8 by omega) with rfl | rfl | rfl | rfl | rfl | rfl | rfl | rfl | rfl
  · exact pif_t h
  · rw [pif_f (hn 0 (by decide) (by decide))]; exact pif_t h
  · rw [pif_f (hn 0 (by decide) (by decide)), pif_f (hn 1 (by decide) (by decide))]; exact pif_t h
  · rw [pif_f (hn 0 (by decide) (by decide)), pif_f (hn 1 (by decide) (by decide)), pif_f (hn 2 (by decide) (by decide))]; exact pif_t h
  · rw [pif_f (hn 0 (by decide) (by decide)), pif_f (hn 1 (by decide) (by decide)), pif_f (hn 2 (by decide) (by decide)), pif_f (hn 3 (by decide) (by decide))]; exact pif_t h
  · rw [pif_f (hn 0 (by decide) (by decide)), pif_f (hn 1 (by decide) (by decide)), pif_f (hn 2 (by decide) (by decide)), pif_f (hn 3 (by decide) (by decide)), pif_f (hn 4 (by decide) (by decide))]; exact pif_t h
  · rw [pif_f (hn 0 (by decide) (by decide)), pif_f (hn 1 (by decide) (by decide)), pif_f (hn 2 (by decide) (by decide)), pif_f (hn 3 (by decide) (by decide)), pif_f (hn 4 (by decide) (by decide)), pif_f (hn 5 (by decide) (by decide))]; exact pif_t h
  · rw [pif_f (hn 0 (by decide) (by decide)), pif_f (hn 1 (by decide) (by decide)), pif_f (hn 2 (by decide) (by decide)), pif_f (hn 3 (by decide) (by decide)), pif_f (hn 4 (by decide) (by decide)), pif_f (hn 5 (by decide) (by decide)), pif_f (hn 6 (by decide) (by decide))]; exact pif_t h
  · rw [pif_f (hn 0 (by decide) (by decide)), pif_f (hn 1 (by decide) (by decide)), pif_f (hn 2 (by decide) (by decide)), pif_f (hn 3 (by decide) (by decide)), pif_f (hn 4 (by decide) (by decide)), pif_f (hn 5 (by decide) (by decide)), pif_f (hn 6 (by decide) (by decide)), pif_f (hn 7 (by decide) (by decide))]; exact pif_t h
theorem li_n0 {t : Nat → Int} {n p : Int} (h : ∀ k : Nat, 0 ≤ k → k ≤ 8 → ¬ IsP t (tB t n p) (tE t n p) (tK t n p) k) : liW t n p 0 = -1 := by
  show liP _ _ _ _ 0 = _
  unfold liP
  rw [if_pos rfl]
  unfold boP
  rw [pif_f (h 0 (by decide) (by decide)), pif_f (h 1 (by decide) (by decide)), pif_f (h 2 (by decide) (by decide)), pif_f (h 3 (by decide) (by decide)), pif_f (h 4 (by decide) (by decide)), pif_f (h 5 (by decide) (by decide)), pif_f (h 6 (by decide) (by decide)), pif_f (h 7 (by decide) (by decide)), pif_f (h 8 (by decide) (by decide))]
theorem wb_0 {t : Nat → Int} {n p ww c z gw : Int} {i : Nat} (hw : ww = woT t n p) (hp : p ≤ n) (hgw : gw = liW t n p 0) (hi : 0 ≤ i ∧ i ≤ 8) (hc : c = Wc.getD i 0) (h : z = (lg_cmp (Int64.ofInt ww) (Int64.ofInt c)).toInt) : (z = 0 ∧ gw = (i : Int)) ∨ (¬ z = 0 ∧ ¬ gw = (i : Int)) := by
  have hl := woT_l (t := t) hp
  have hW := Wc_l ⟨i, by omega⟩
  have hW : 0 ≤ Wc.getD i 0 ∧ Wc.getD i 0 ≤ 9223372036854775807 := hW
  rcases e_cmpe h (by rw [hw]; exact ⟨by omega, by omega⟩) (by rw [hc]; exact ⟨by omega, by omega⟩) with ⟨a, b⟩ | ⟨a, b⟩
  · refine Or.inl ⟨a, ?_⟩
    rw [hgw]
    exact li_i0 hp hi ((wo_is hp (by omega)).mp (by rw [← hw, b, hc]))
  · refine Or.inr ⟨a, fun hq_9 => b ?_⟩
    rw [hw, hc]
    by_cases c9 : IsP t (tB t n p) (tE t n p) (tK t n p) i
    · exact (wo_is hp (by omega)).mpr c9
    · exfalso
      have hx : ∃ k : Nat, (0 ≤ k ∧ k ≤ 8) ∧ IsP t (tB t n p) (tE t n p) (tK t n p) k := Classical.byContradiction (fun hne => by
        have e := li_n0 (t := t) (n := n) (p := p) (fun k hq_1 hq_2 hq_3 => hne ⟨k, ⟨hq_1, hq_2⟩, hq_3⟩)
        rw [← hgw, hq_9] at e
        omega)
      obtain ⟨k, hk, hk2⟩ := hx
      have e := li_i0 hp hk hk2
      rw [← hgw, hq_9] at e
      have : i = k := by omega
      subst this
      exact c9 hk2
theorem li_i1 {t : Nat → Int} {n p : Int} {i : Nat} (hp : p ≤ n) (hi : 9 ≤ i ∧ i ≤ 13) (h : IsP t (tB t n p) (tE t n p) (tK t n p) i) : liW t n p 1 = (i : Int) := by
  have hn : ∀ k : Nat, k < 21 → ¬ k = i → ¬ IsP t (tB t n p) (tE t n p) (tK t n p) k := fun k hk hne hq_9 => hne (Is_u hp hk (by omega) hq_9 h)
  show liP _ _ _ _ 1 = _
  unfold liP
  rw [if_neg (by decide)]
  rw [if_pos rfl]
  unfold yeP
  rcases (show i = 9 ∨ i = 10 ∨ i = 11 ∨ i = 12 ∨ i = 13 by omega) with rfl | rfl | rfl | rfl | rfl
  · exact pif_t h
  · rw [pif_f (hn 9 (by decide) (by decide))]; exact pif_t h
  · rw [pif_f (hn 9 (by decide) (by decide)), pif_f (hn 10 (by decide) (by decide))]; exact pif_t h
  · rw [pif_f (hn 9 (by decide) (by decide)), pif_f (hn 10 (by decide) (by decide)), pif_f (hn 11 (by decide) (by decide))]; exact pif_t h
  · rw [pif_f (hn 9 (by decide) (by decide)), pif_f (hn 10 (by decide) (by decide)), pif_f (hn 11 (by decide) (by decide)), pif_f (hn 12 (by decide) (by decide))]; exact pif_t h
theorem li_n1 {t : Nat → Int} {n p : Int} (h : ∀ k : Nat, 9 ≤ k → k ≤ 13 → ¬ IsP t (tB t n p) (tE t n p) (tK t n p) k) : liW t n p 1 = -1 := by
  show liP _ _ _ _ 1 = _
  unfold liP
  rw [if_neg (by decide)]
  rw [if_pos rfl]
  unfold yeP
  rw [pif_f (h 9 (by decide) (by decide)), pif_f (h 10 (by decide) (by decide)), pif_f (h 11 (by decide) (by decide)), pif_f (h 12 (by decide) (by decide)), pif_f (h 13 (by decide) (by decide))]
theorem wb_1 {t : Nat → Int} {n p ww c z gw : Int} {i : Nat} (hw : ww = woT t n p) (hp : p ≤ n) (hgw : gw = liW t n p 1) (hi : 9 ≤ i ∧ i ≤ 13) (hc : c = Wc.getD i 0) (h : z = (lg_cmp (Int64.ofInt ww) (Int64.ofInt c)).toInt) : (z = 0 ∧ gw = (i : Int)) ∨ (¬ z = 0 ∧ ¬ gw = (i : Int)) := by
  have hl := woT_l (t := t) hp
  have hW := Wc_l ⟨i, by omega⟩
  have hW : 0 ≤ Wc.getD i 0 ∧ Wc.getD i 0 ≤ 9223372036854775807 := hW
  rcases e_cmpe h (by rw [hw]; exact ⟨by omega, by omega⟩) (by rw [hc]; exact ⟨by omega, by omega⟩) with ⟨a, b⟩ | ⟨a, b⟩
  · refine Or.inl ⟨a, ?_⟩
    rw [hgw]
    exact li_i1 hp hi ((wo_is hp (by omega)).mp (by rw [← hw, b, hc]))
  · refine Or.inr ⟨a, fun hq_9 => b ?_⟩
    rw [hw, hc]
    by_cases c9 : IsP t (tB t n p) (tE t n p) (tK t n p) i
    · exact (wo_is hp (by omega)).mpr c9
    · exfalso
      have hx : ∃ k : Nat, (9 ≤ k ∧ k ≤ 13) ∧ IsP t (tB t n p) (tE t n p) (tK t n p) k := Classical.byContradiction (fun hne => by
        have e := li_n1 (t := t) (n := n) (p := p) (fun k hq_1 hq_2 hq_3 => hne ⟨k, ⟨hq_1, hq_2⟩, hq_3⟩)
        rw [← hgw, hq_9] at e
        omega)
      obtain ⟨k, hk, hk2⟩ := hx
      have e := li_i1 hp hk hk2
      rw [← hgw, hq_9] at e
      have : i = k := by omega
      subst this
      exact c9 hk2
theorem li_i2 {t : Nat → Int} {n p : Int} {i : Nat} (hp : p ≤ n) (hi : 14 ≤ i ∧ i ≤ 15) (h : IsP t (tB t n p) (tE t n p) (tK t n p) i) : liW t n p 2 = (i : Int) := by
  have hn : ∀ k : Nat, k < 21 → ¬ k = i → ¬ IsP t (tB t n p) (tE t n p) (tK t n p) k := fun k hk hne hq_9 => hne (Is_u hp hk (by omega) hq_9 h)
  show liP _ _ _ _ 2 = _
  unfold liP
  rw [if_neg (by decide)]
  rw [if_neg (by decide)]
  rw [if_pos rfl]
  unfold leP
  rcases (show i = 14 ∨ i = 15 by omega) with rfl | rfl
  · exact pif_t h
  · rw [pif_f (hn 14 (by decide) (by decide))]; exact pif_t h
theorem li_n2 {t : Nat → Int} {n p : Int} (h : ∀ k : Nat, 14 ≤ k → k ≤ 15 → ¬ IsP t (tB t n p) (tE t n p) (tK t n p) k) : liW t n p 2 = -1 := by
  show liP _ _ _ _ 2 = _
  unfold liP
  rw [if_neg (by decide)]
  rw [if_neg (by decide)]
  rw [if_pos rfl]
  unfold leP
  rw [pif_f (h 14 (by decide) (by decide)), pif_f (h 15 (by decide) (by decide))]
theorem wb_2 {t : Nat → Int} {n p ww c z gw : Int} {i : Nat} (hw : ww = woT t n p) (hp : p ≤ n) (hgw : gw = liW t n p 2) (hi : 14 ≤ i ∧ i ≤ 15) (hc : c = Wc.getD i 0) (h : z = (lg_cmp (Int64.ofInt ww) (Int64.ofInt c)).toInt) : (z = 0 ∧ gw = (i : Int)) ∨ (¬ z = 0 ∧ ¬ gw = (i : Int)) := by
  have hl := woT_l (t := t) hp
  have hW := Wc_l ⟨i, by omega⟩
  have hW : 0 ≤ Wc.getD i 0 ∧ Wc.getD i 0 ≤ 9223372036854775807 := hW
  rcases e_cmpe h (by rw [hw]; exact ⟨by omega, by omega⟩) (by rw [hc]; exact ⟨by omega, by omega⟩) with ⟨a, b⟩ | ⟨a, b⟩
  · refine Or.inl ⟨a, ?_⟩
    rw [hgw]
    exact li_i2 hp hi ((wo_is hp (by omega)).mp (by rw [← hw, b, hc]))
  · refine Or.inr ⟨a, fun hq_9 => b ?_⟩
    rw [hw, hc]
    by_cases c9 : IsP t (tB t n p) (tE t n p) (tK t n p) i
    · exact (wo_is hp (by omega)).mpr c9
    · exfalso
      have hx : ∃ k : Nat, (14 ≤ k ∧ k ≤ 15) ∧ IsP t (tB t n p) (tE t n p) (tK t n p) k := Classical.byContradiction (fun hne => by
        have e := li_n2 (t := t) (n := n) (p := p) (fun k hq_1 hq_2 hq_3 => hne ⟨k, ⟨hq_1, hq_2⟩, hq_3⟩)
        rw [← hgw, hq_9] at e
        omega)
      obtain ⟨k, hk, hk2⟩ := hx
      have e := li_i2 hp hk hk2
      rw [← hgw, hq_9] at e
      have : i = k := by omega
      subst this
      exact c9 hk2
theorem li_i3 {t : Nat → Int} {n p : Int} {i : Nat} (hp : p ≤ n) (hi : 16 ≤ i ∧ i ≤ 16) (h : IsP t (tB t n p) (tE t n p) (tK t n p) i) : liW t n p 3 = (i : Int) := by
  have hn : ∀ k : Nat, k < 21 → ¬ k = i → ¬ IsP t (tB t n p) (tE t n p) (tK t n p) k := fun k hk hne hq_9 => hne (Is_u hp hk (by omega) hq_9 h)
  show liP _ _ _ _ 3 = _
  unfold liP
  rw [if_neg (by decide)]
  rw [if_neg (by decide)]
  rw [if_neg (by decide)]
  rw [if_pos rfl]
  unfold siP
  obtain rfl : i = 16 := by omega
  exact pif_t h
theorem li_n3 {t : Nat → Int} {n p : Int} (h : ∀ k : Nat, 16 ≤ k → k ≤ 16 → ¬ IsP t (tB t n p) (tE t n p) (tK t n p) k) : liW t n p 3 = -1 := by
  show liP _ _ _ _ 3 = _
  unfold liP
  rw [if_neg (by decide)]
  rw [if_neg (by decide)]
  rw [if_neg (by decide)]
  rw [if_pos rfl]
  unfold siP
  rw [pif_f (h 16 (by decide) (by decide))]
theorem wb_3 {t : Nat → Int} {n p ww c z gw : Int} {i : Nat} (hw : ww = woT t n p) (hp : p ≤ n) (hgw : gw = liW t n p 3) (hi : 16 ≤ i ∧ i ≤ 16) (hc : c = Wc.getD i 0) (h : z = (lg_cmp (Int64.ofInt ww) (Int64.ofInt c)).toInt) : (z = 0 ∧ gw = (i : Int)) ∨ (¬ z = 0 ∧ ¬ gw = (i : Int)) := by
  have hl := woT_l (t := t) hp
  have hW := Wc_l ⟨i, by omega⟩
  have hW : 0 ≤ Wc.getD i 0 ∧ Wc.getD i 0 ≤ 9223372036854775807 := hW
  rcases e_cmpe h (by rw [hw]; exact ⟨by omega, by omega⟩) (by rw [hc]; exact ⟨by omega, by omega⟩) with ⟨a, b⟩ | ⟨a, b⟩
  · refine Or.inl ⟨a, ?_⟩
    rw [hgw]
    exact li_i3 hp hi ((wo_is hp (by omega)).mp (by rw [← hw, b, hc]))
  · refine Or.inr ⟨a, fun hq_9 => b ?_⟩
    rw [hw, hc]
    by_cases c9 : IsP t (tB t n p) (tE t n p) (tK t n p) i
    · exact (wo_is hp (by omega)).mpr c9
    · exfalso
      have hx : ∃ k : Nat, (16 ≤ k ∧ k ≤ 16) ∧ IsP t (tB t n p) (tE t n p) (tK t n p) k := Classical.byContradiction (fun hne => by
        have e := li_n3 (t := t) (n := n) (p := p) (fun k hq_1 hq_2 hq_3 => hne ⟨k, ⟨hq_1, hq_2⟩, hq_3⟩)
        rw [← hgw, hq_9] at e
        omega)
      obtain ⟨k, hk, hk2⟩ := hx
      have e := li_i3 hp hk hk2
      rw [← hgw, hq_9] at e
      have : i = k := by omega
      subst this
      exact c9 hk2
theorem of_i {t : Nat → Int} {n p : Int} {i : Nat} (hp : p ≤ n) (hi : i ≤ 3) (h : IsP t (tB t n p) (tE t n p) (tK t n p) (17 + i)) : ofW t n p = (i : Int) := by
  have hn : ∀ k : Nat, k < 21 → ¬ k = 17 + i → ¬ IsP t (tB t n p) (tE t n p) (tK t n p) k := fun k hk hne hq_9 => hne (Is_u hp hk (by omega) hq_9 h)
  unfold ofW ofP
  rcases (show i = 0 ∨ i = 1 ∨ i = 2 ∨ i = 3 by omega) with rfl | rfl | rfl | rfl
  · exact pif_t h
  · rw [pif_f (hn 17 (by decide) (by decide))]; exact pif_t h
  · rw [pif_f (hn 17 (by decide) (by decide)), pif_f (hn 18 (by decide) (by decide))]; exact pif_t h
  · rw [pif_f (hn 17 (by decide) (by decide)), pif_f (hn 18 (by decide) (by decide)), pif_f (hn 19 (by decide) (by decide))]; exact pif_t h
theorem of_n {t : Nat → Int} {n p : Int} (h : ∀ k : Nat, 17 ≤ k → k ≤ 20 → ¬ IsP t (tB t n p) (tE t n p) (tK t n p) k) : ofW t n p = -1 := by
  unfold ofW ofP
  rw [pif_f (h 17 (by decide) (by decide)), pif_f (h 18 (by decide) (by decide)), pif_f (h 19 (by decide) (by decide)), pif_f (h 20 (by decide) (by decide))]
theorem of_m1 {t : Nat → Int} {n p : Int} (h : ¬ tK t n p = 1) : ofW t n p = -1 := of_n (fun k _ _ hq_9 => h hq_9.1)
theorem of_k {t : Nat → Int} {n p : Int} (h : ¬ ofW t n p = -1) : tK t n p = 1 := Classical.byContradiction (fun hq_9 => h (of_m1 hq_9))
theorem wb_o {t : Nat → Int} {n p ww c z : Int} {i : Nat} (hw : ww = woT t n p) (hp : p ≤ n) (hi : i ≤ 3) (hc : c = Wc.getD (17 + i) 0) (h : z = (lg_cmp (Int64.ofInt ww) (Int64.ofInt c)).toInt) : (z = 0 ∧ ofW t n p = (i : Int)) ∨ (¬ z = 0 ∧ ¬ ofW t n p = (i : Int)) := by
  have hl := woT_l (t := t) hp
  have hW := Wc_l ⟨17 + i, by omega⟩
  have hW : 0 ≤ Wc.getD (17 + i) 0 ∧ Wc.getD (17 + i) 0 ≤ 9223372036854775807 := hW
  rcases e_cmpe h (by rw [hw]; exact ⟨by omega, by omega⟩) (by rw [hc]; exact ⟨by omega, by omega⟩) with ⟨a, b⟩ | ⟨a, b⟩
  · exact Or.inl ⟨a, of_i hp hi ((wo_is hp (by omega)).mp (by rw [← hw, b, hc]))⟩
  · refine Or.inr ⟨a, fun hq_9 => b ?_⟩
    rw [hw, hc]
    by_cases c9 : IsP t (tB t n p) (tE t n p) (tK t n p) (17 + i)
    · exact (wo_is hp (by omega)).mpr c9
    · exfalso
      have hx : ∃ k : Nat, k ≤ 3 ∧ IsP t (tB t n p) (tE t n p) (tK t n p) (17 + k) := Classical.byContradiction (fun hne => by
        have e := of_n (t := t) (n := n) (p := p) (fun k hq_1 hq_2 hq_3 => hne ⟨k - 17, by omega, by rw [show 17 + (k - 17) = k by omega]; exact hq_3⟩)
        rw [hq_9] at e
        omega)
      obtain ⟨k, hk, hk2⟩ := hx
      have e := of_i hp hk hk2
      rw [hq_9] at e
      have : i = k := by omega
      subst this
      exact c9 hk2
theorem wb1 {z x y : Int} (h : (z = 0 ∧ x = y) ∨ (¬ z = 0 ∧ ¬ x = y)) (hq_0 : z = 0) : x = y := by
  rcases h with ⟨-, h⟩ | ⟨h, -⟩
  · exact h
  · exact absurd hq_0 h
theorem wb0 {z x y : Int} (h : (z = 0 ∧ x = y) ∨ (¬ z = 0 ∧ ¬ x = y)) (hq_0 : ¬ z = 0) : ¬ x = y := by
  rcases h with ⟨h, -⟩ | ⟨-, h⟩
  · exact absurd h hq_0
  · exact h
/-! ===== a line of the reference ===== -/
theorem slL_0 : ∀ (w j : Int), 0 ≤ slL w j := by
  intro w j
  unfold slL
  have h : ∀ k : Nat, 0 ≤ qs_2.getD k 0 := by
    intro k
    by_cases c : k < 51
    · have hq_9 : ∀ k : Fin 51, 0 ≤ qs_2.getD k.val 0 := by decide +kernel
      exact hq_9 ⟨k, c⟩
    · rw [List.getD_eq_getElem?_getD, List.getElem?_eq_none (by rw [show qs_2.length = 51 from rfl]; omega)]
      show (0 : Int) ≤ 0
      decide
  exact h _
theorem TkP_0 {t : Nat → Int} {n w p f1 p1 a r re be so va wo wr lf lp go : Int} {j : Nat} {rd rd' : Nat → Int} (h : TkP t n w p f1 p1 j a rd r re be so va wo wr lf lp go rd') (hq_0 : r = 0) : TkP t n w p f1 p1 j a rd 0 re be so va wo wr lf lp go rd' := by rw [← hq_0]; exact h
theorem TkP_1 {t : Nat → Int} {n w p f1 p1 a r re be so va wo wr lf lp go : Int} {j : Nat} {rd rd' : Nat → Int} (h : TkP t n w p f1 p1 j a rd r re be so va wo wr lf lp go rd') (hq_0 : ¬ r = 0) : TkP t n w p f1 p1 j a rd 1 re be so va wo wr lf lp go rd' := Or.inl ⟨rfl, dj1 h hq_0⟩
def TdR (c : Prop) (D : Nat → Int) (fp fd : Int) (td : Nat → Int) (mfp mfd : Int) : Prop := c → (∀ i : Nat, i < 161 → td i = D i) ∧ mfp = fp ∧ mfd = fd
def LnM (t : Nat → Int) (n w p f1 p1 : Int) (D : Nat → Int) (fp fd r re be so va wo wr lf lp go : Int) (td : Nat → Int) (mfp mfd : Int) : Prop := (r = 1 ∧ SlM t n w p f1 p1 3 re be so va wo lf lp go ∧ TdR (lfa t n w p f1 3 = 0) (tel w (lvs t n w p 0) (lvs t n w p 1) (lvs t n w p 2) D) (fpN w (lvs t n w p 0) (lvs t n w p 1) fp) (fdN w (lvs t n w p 1) fd) td mfp mfd) ∨ (r = 0 ∧ ¬ lok t n w p 3 ∧ wr = lnB t n w p)
theorem LnM_1 {t : Nat → Int} {n w p f1 p1 fp fd re be so va wo wr lf lp go mfp mfd : Int} {D td : Nat → Int} (h : SlM t n w p f1 p1 3 re be so va wo lf lp go) (hT : lfa t n w p f1 3 = 0 → (∀ i : Nat, i < 161 → td i = tel w (lvs t n w p 0) (lvs t n w p 1) (lvs t n w p 2) D i) ∧ mfp = fpN w (lvs t n w p 0) (lvs t n w p 1) fp ∧ mfd = fdN w (lvs t n w p 1) fd) : LnM t n w p f1 p1 D fp fd 1 re be so va wo wr lf lp go td mfp mfd := Or.inl ⟨rfl, h, hT⟩
theorem LnM_0 {t : Nat → Int} {n w p f1 p1 fp fd re be so va wo wr lf lp go mfp mfd re0 be0 so0 va0 wo0 lf0 lp0 go0 : Int} {j : Nat} {D td : Nat → Int} (h : SlM t n w p f1 p1 j re0 be0 so0 va0 wo0 lf0 lp0 go0) (hw : ¬ w = -1) (hj : j < 3) (hn : ¬ slOk t n w j (lps t n w p j) ∧ wr = tB t n (lps t n w p j)) : LnM t n w p f1 p1 D fp fd 0 re be so va wo wr lf lp go td mfp mfd := Or.inr ⟨rfl, lok_n hj hn.1, by rw [lnB_j hw hj h.2.2.1 hn.1]; exact hn.2⟩
/-- a line to its end: there is no FAULT only where all numbers were good -/
theorem SlM_go {t : Nat → Int} {n w p f1 p1 re be so va wo lf lp go : Int} {j : Nat} (h : SlM t n w p f1 p1 j re be so va wo lf lp go) (hq_0 : go = 0) (hf : lfa t n w p f1 j = 0) : False := h.2.2.2.1 hq_0 hf
theorem SlM_rg {t : Nat → Int} {n w p f1 p1 re be so va wo lf lp go : Int} {j : Nat} (h : SlM t n w p f1 p1 j re be so va wo lf lp go) (hq_0 : ¬ go = 0) (i : Nat) (hi : i < j) (hty : slT w i = 1) {a b : Int} (ha : slL w i = a) (hb : slG w i = b) : a ≤ lvs t n w p i ∧ lvs t n w p i ≤ b := by
  rw [← ha, ← hb]; exact h.2.2.2.2.1 hq_0 i hi hty
theorem SlM_of {t : Nat → Int} {n w p f1 p1 re be so va wo lf lp go : Int} {j : Nat} (h : SlM t n w p f1 p1 j re be so va wo lf lp go) (i : Nat) (hi : i < j) (hj : j ≤ 3) (hty : slT w i = 2) : 0 ≤ lvs t n w p i ∧ lvs t n w p i ≤ 3 := by
  have hk := h.2.2.1
  have hok : slOk t n w i (lps t n w p i) := by
    clear h
    induction j with
    | zero => omega
    | succ j ih =>
      by_cases c : i = j
      · rw [c]; exact hk.2
      · exact ih (by omega) (by omega) hk.1
  have hr := of_r (t := t) (n := n) (p := lps t n w p i)
  rw [lvs_2 hty]
  rcases hok with h | ⟨-, h⟩ | ⟨h, -⟩
  · omega
  · omega
  · omega
theorem lfa_m {t : Nat → Int} {n w p fa : Int} (h : lfa t n w p fa 3 = 0) : fa = 0 := (lfa_0 h).1
theorem up_D {f g : Nat → Int} {k m : Nat} {u v : Int} (h : ∀ i : Nat, i < 161 → f i = g i) (hk : k = m) (hv : u = v) : ∀ i : Nat, i < 161 → q_up f k u i = q_up g m v i := by
  subst hk
  subst hv
  intro i hi
  by_cases c : i = k
  · rw [c, q_up_s, q_up_s]
  · rw [q_up_n c, q_up_n c]; exact h i hi
theorem fw_w {w : Int} (h : w = 0 ∨ w = 3 ∨ w = 4) : slT w ((0 : Nat) : Int) = 1 ∧ slL w ((0 : Nat) : Int) = 1 ∧ slG w ((0 : Nat) : Int) = 99 ∧ slT w ((0 + 1 : Nat) : Int) = 0 ∧ slT w ((0 + 1 + 1 : Nat) : Int) = 0 ∧ ¬ w = -1 := by
  rcases h with rfl | rfl | rfl <;> decide
/-- PERSON, DOOR, WORK -/
theorem fu_tel {w a b cc v0 v1 v2 z : Int} {td D : Nat → Int} (ha : (a = 0 ∧ b = 5 ∧ cc = 8 ∧ w = 0) ∨ (a = 3 ∧ b = 25 ∧ cc = 6 ∧ w = 3) ∨ (a = 4 ∧ b = 37 ∧ cc = 6 ∧ w = 4)) (hD : ∀ i : Nat, i < 161 → td i = D i) (hz : z = td a.toNat) (hq_0 : 0 ≤ z ∧ z < cc) {k : Nat} (hk : k = (b + z).toNat) {u x : Int} (hu : u = v0) (hx : x = z + 1) : ∀ i : Nat, i < 161 → q_up (q_up td k u) a.toNat x i = tel w v0 v1 v2 D i := by
  subst hk
  subst hu
  subst hx
  rcases ha with ⟨rfl, rfl, rfl, rfl⟩ | ⟨rfl, rfl, rfl, rfl⟩ | ⟨rfl, rfl, rfl, rfl⟩
  · have e : z = D 0 := by rw [hz]; exact hD 0 (by decide)
    subst e
    exact up_D (up_D hD rfl rfl) rfl rfl
  · have e : z = D 3 := by rw [hz]; exact hD 3 (by decide)
    subst e
    exact up_D (up_D hD rfl rfl) rfl rfl
  · have e : z = D 4 := by rw [hz]; exact hD 4 (by decide)
    subst e
    exact up_D (up_D hD rfl rfl) rfl rfl
theorem fu_ful {w a b cc z : Int} {td D : Nat → Int} (ha : (a = 0 ∧ b = 5 ∧ cc = 8 ∧ w = 0) ∨ (a = 3 ∧ b = 25 ∧ cc = 6 ∧ w = 3) ∨ (a = 4 ∧ b = 37 ∧ cc = 6 ∧ w = 4)) (hD : ∀ i : Nat, i < 161 → td i = D i) (hz : z = td a.toNat) (hf : ¬ fulP w D) : z < cc := by
  unfold fulP at hf
  rcases ha with ⟨rfl, rfl, rfl, rfl⟩ | ⟨rfl, rfl, rfl, rfl⟩ | ⟨rfl, rfl, rfl, rfl⟩
  · have e : z = D 0 := by rw [hz]; exact hD 0 (by decide)
    omega
  · have e : z = D 3 := by rw [hz]; exact hD 3 (by decide)
    omega
  · have e : z = D 4 := by rw [hz]; exact hD 4 (by decide)
    omega
/-! keep -/
def KpR (m : Nat) (most : Int) (td rd td' : Nat → Int) : Prop := (td 0 = most ∧ td' = td) ∨ (¬ td 0 = most ∧ td' 0 = td 0 + 1 ∧ ∀ i : Nat, 0 < i → td' i = if 1 + m * (td 0).toNat ≤ i ∧ i < 1 + m * (td 0).toNat + m then rd (i - (1 + m * (td 0).toNat)) else td i)
theorem kp_4 {td rd td' D : Nat → Int} {w v0 v1 v2 : Int} (hw : 9 ≤ w ∧ w ≤ 13) (h : KpR 4 40 td rd td') (hD : ∀ i : Nat, i < 161 → td i = D i) (hf : ¬ fulP w D) (hq_0 : 0 ≤ td 0) (r0 : rd 0 = w - 9) (r1 : rd 1 = v0) (r2 : rd 2 = v1) (r3 : rd 3 = v2) : ∀ i : Nat, i < 161 → td' i = tel w v0 v1 v2 D i := by
  have e0 : td 0 = D 0 := hD 0 (by decide)
  unfold fulP at hf
  have e : tel w v0 v1 v2 D = q_up (q_up (q_up (q_up (q_up D (1 + 4 * D 0).toNat (w - 9)) (2 + 4 * D 0).toNat v0) (3 + 4 * D 0).toNat v1) (4 + 4 * D 0).toNat v2) 0 (D 0 + 1) := by
    unfold tel
    rw [if_neg (by omega), if_neg (by omega), if_neg (by omega), if_neg (by omega), if_neg (by omega), if_neg (by omega), if_neg (by omega), if_neg (by omega), if_neg (by omega), if_pos (by omega)]
  rcases h with ⟨hq_1, hq_2⟩ | ⟨hq_1, hq_2, hq_3⟩
  · omega
  · intro i hi
    rw [e]
    by_cases c0 : i = 0
    · rw [c0, q_up_s, hq_2, e0]
    · rw [q_up_n c0, hq_3 i (by omega)]
      by_cases c : 1 + 4 * (td 0).toNat ≤ i ∧ i < 1 + 4 * (td 0).toNat + 4
      · rw [if_pos c]
        rcases (show i = 1 + 4 * (td 0).toNat ∨ i = 2 + 4 * (td 0).toNat ∨ i = 3 + 4 * (td 0).toNat ∨ i = 4 + 4 * (td 0).toNat by omega) with c1 | c1 | c1 | c1
        · rw [q_up_n (by omega), q_up_n (by omega), q_up_n (by omega), show i = (1 + 4 * D 0).toNat by omega, q_up_s, show (1 + 4 * D 0).toNat - (1 + 4 * (td 0).toNat) = 0 by omega]; exact r0
        · rw [q_up_n (by omega), q_up_n (by omega), show i = (2 + 4 * D 0).toNat by omega, q_up_s, show (2 + 4 * D 0).toNat - (1 + 4 * (td 0).toNat) = 1 by omega]; exact r1
        · rw [q_up_n (by omega), show i = (3 + 4 * D 0).toNat by omega, q_up_s, show (3 + 4 * D 0).toNat - (1 + 4 * (td 0).toNat) = 2 by omega]; exact r2
        · rw [show i = (4 + 4 * D 0).toNat by omega, q_up_s, show (4 + 4 * D 0).toNat - (1 + 4 * (td 0).toNat) = 3 by omega]; exact r3
      · rw [if_neg c, q_up_n (by omega), q_up_n (by omega), q_up_n (by omega), q_up_n (by omega)]
        exact hD i hi
theorem kp_2 {td rd td' D : Nat → Int} {v0 v1 v2 : Int} (h : KpR 2 10 td rd td') (hD : ∀ i : Nat, i < 161 → td i = D i) (hf : ¬ fulP 16 D) (hq_0 : 0 ≤ td 0) (r0 : rd 0 = v0) (r1 : rd 1 = v1) : ∀ i : Nat, i < 161 → td' i = tel 16 v0 v1 v2 D i := by
  have e0 : td 0 = D 0 := hD 0 (by decide)
  unfold fulP at hf
  have e : tel 16 v0 v1 v2 D = q_up (q_up (q_up D (1 + 2 * D 0).toNat v0) (2 + 2 * D 0).toNat v1) 0 (D 0 + 1) := by
    unfold tel
    rw [if_neg (by omega), if_neg (by omega), if_neg (by omega), if_neg (by omega), if_neg (by omega), if_neg (by omega), if_neg (by omega), if_neg (by omega), if_neg (by omega), if_neg (by omega), if_neg (by omega), if_neg (by omega)]
  rcases h with ⟨hq_1, hq_2⟩ | ⟨hq_1, hq_2, hq_3⟩
  · omega
  · intro i hi
    rw [e]
    by_cases c0 : i = 0
    · rw [c0, q_up_s, hq_2, e0]
    · rw [q_up_n c0, hq_3 i (by omega)]
      by_cases c : 1 + 2 * (td 0).toNat ≤ i ∧ i < 1 + 2 * (td 0).toNat + 2
      · rw [if_pos c]
        rcases (show i = 1 + 2 * (td 0).toNat ∨ i = 2 + 2 * (td 0).toNat by omega) with c1 | c1
        · rw [q_up_n (by omega), show i = (1 + 2 * D 0).toNat by omega, q_up_s, show (1 + 2 * D 0).toNat - (1 + 2 * (td 0).toNat) = 0 by omega]; exact r0
        · rw [show i = (2 + 2 * D 0).toNat by omega, q_up_s, show (2 + 2 * D 0).toNat - (1 + 2 * (td 0).toNat) = 1 by omega]; exact r1
      · rw [if_neg c, q_up_n (by omega), q_up_n (by omega)]
        exact hD i hi
/-! the beginning of a line -/
theorem SlM_i {t : Nat → Int} {n w p f1 p1 re be so va wo lf lp go : Int} (hT : TokR t n (tE t n p) re be so va wo) (hL : LtM f1 p1 lf lp) (hb : ¬ f1 = 0 → p1 ≤ tB t n p) (hk : ¬ tK t n p = 0) (hp : p ≤ n) (hg : ¬ go = 0) : SlM t n w p f1 p1 0 re be so va wo lf lp go := by
  have hq_1 := tE_r (t := t) hp
  have hq_2 := tB_r (t := t) hq_1.2.1
  have hq_3 := hq_1.2.2 (tK_n hk)
  refine ⟨hT, hL, trivial, fun hq_9 => absurd hq_9 hg, fun _ i hi => absurd hi (Nat.not_lt_zero i), fun hq_9 => ?_, hp⟩
  have hq_4 := hb hq_9
  show p1 < tB t n (tE t n p)
  omega
theorem Lt_full {t : Nat → Int} {n p fa pl lf lp lf' lp' b z : Int} {P : Prop} (hL : LtM fa pl lf lp) (hP : fa = 0 → (z = b ↔ P)) (h : z = b ∧ (lf = 0 ∧ lf' = 3 ∧ lp' = tB t n p ∨ ¬ lf = 0 ∧ lf' = lf ∧ lp' = lp) ∨ ¬ z = b ∧ lf' = lf ∧ lp' = lp) : LtM (ntF P 3 fa) (ntP P (tB t n p) fa pl) lf' lp' := by
  obtain ⟨l1, l2⟩ := hL
  by_cases c : fa = 0
  · have hP := hP c
    by_cases cP : P
    · have hz := hP.mpr cP
      rcases h with ⟨-, h | h⟩ | ⟨h, -⟩
      · have e1 : ntF P 3 fa = 3 := pif_t ⟨c, cP⟩
        have e2 : ntP P (tB t n p) fa pl = tB t n p := pif_t ⟨c, cP⟩
        exact ⟨by rw [e1]; exact h.2.1, fun _ => by rw [e2]; exact h.2.2⟩
      · omega
      · exact absurd hz h
    · have hz : ¬ z = b := fun hq_9 => cP (hP.mp hq_9)
      rcases h with ⟨h, -⟩ | ⟨-, hq_1, hq_2⟩
      · exact absurd h hz
      · rw [ntF_n cP, ntP_n cP]
        exact ⟨by rw [hq_1]; exact l1, fun hq_9 => absurd c hq_9⟩
  · rw [ntF_k c, ntP_k c]
    have hz : ¬ lf = 0 := by rw [l1]; exact c
    have hq_2 : lf' = lf ∧ lp' = lp := by
      rcases h with ⟨-, h | h⟩ | ⟨-, h⟩
      · exact absurd h.1 hz
      · exact h.2
      · exact h
    exact ⟨by rw [hq_2.1]; exact l1, fun hq_9 => by rw [hq_2.2]; exact l2 hq_9⟩
theorem ful_b {t : Nat → Int} {n p fa pl : Int} {P : Prop} (h : ¬ fa = 0 → pl < tB t n p) : ¬ ntF P 3 fa = 0 → ntP P (tB t n p) fa pl ≤ tB t n p := by
  intro hq_9
  by_cases c : fa = 0
  · by_cases cP : P
    · have e2 : ntP P (tB t n p) fa pl = tB t n p := pif_t ⟨c, cP⟩
      rw [e2]; exact Int.le_refl _
    · rw [ntF_n cP] at hq_9; exact absurd c hq_9
  · rw [ntP_k c]
    have := h c
    omega
/-- a line whose word counts nothing -/
theorem ful_n {w : Int} {D : Nat → Int} (h : ¬ w = 0 ∧ ¬ w = 3 ∧ ¬ w = 4 ∧ ¬ w = 16 ∧ ¬ (9 ≤ w ∧ w ≤ 13)) : ¬ fulP w D := by unfold fulP; omega
theorem Lt_n {t : Nat → Int} {n p fa pl lf lp : Int} {P : Prop} (hP : ¬ P) (hL : LtM fa pl lf lp) : LtM (ntF P 3 fa) (ntP P (tB t n p) fa pl) lf lp := by rw [ntF_n hP, ntP_n hP]; exact hL
theorem TdR_f {fa fp fd mfp mfd : Int} {P : Prop} {D td : Nat → Int} (h : TdR (fa = 0) D fp fd td mfp mfd) : TdR (ntF P 3 fa = 0) D fp fd td mfp mfd := fun hq_9 => h (ntF_0 (by decide) hq_9).1
/-- a line of a sort -/
def LnO (t : Nat → Int) (n s p fa pl : Int) (D : Nat → Int) (fp fd r re be so va wo wr lf lp go : Int) (td : Nat → Int) (mfp mfd : Int) : Prop := (r = 1 ∧ ¬ liW t n p s = -1 ∧ SlM t n (liW t n p s) p (ntF (fulP (liW t n p s) D) 3 fa) (ntP (fulP (liW t n p s) D) (tB t n p) fa pl) 3 re be so va wo lf lp go ∧ TdR (lfa t n (liW t n p s) p (ntF (fulP (liW t n p s) D) 3 fa) 3 = 0) (tel (liW t n p s) (lvs t n (liW t n p s) p 0) (lvs t n (liW t n p s) p 1) (lvs t n (liW t n p s) p 2) D) (fpN (liW t n p s) (lvs t n (liW t n p s) p 0) (lvs t n (liW t n p s) p 1) fp) (fdN (liW t n p s) (lvs t n (liW t n p s) p 1) fd) td mfp mfd) ∨ (r = 0 ∧ ¬ (¬ liW t n p s = -1 ∧ lok t n (liW t n p s) p 3) ∧ wr = lnB t n (liW t n p s) p)
theorem LnO_m {t : Nat → Int} {n s p fa pl fp fd r re be so va wo wr lf lp go mfp mfd w : Int} {D td : Nat → Int} (hw : w = liW t n p s) (h : LnM t n w p (ntF (fulP w D) 3 fa) (ntP (fulP w D) (tB t n p) fa pl) D fp fd r re be so va wo wr lf lp go td mfp mfd) (hn : ¬ w = -1) : LnO t n s p fa pl D fp fd r re be so va wo wr lf lp go td mfp mfd := by
  subst hw
  rcases h with ⟨hq_1, hq_2, hq_3⟩ | ⟨hq_1, hq_2, hq_3⟩
  · exact Or.inl ⟨hq_1, hn, hq_2, hq_3⟩
  · exact Or.inr ⟨hq_1, fun hq_9 => hq_2 hq_9.2, hq_3⟩
theorem LnO_n {t : Nat → Int} {n s p fa pl fp fd re be so va wo wr lf lp go mfp mfd w : Int} {D td : Nat → Int} (hw : w = liW t n p s) (h : w = -1) (hr : wr = tB t n p) : LnO t n s p fa pl D fp fd 0 re be so va wo wr lf lp go td mfp mfd := by
  subst hw
  exact Or.inr ⟨rfl, fun hq_9 => hq_9.1 h, by rw [lnB_0 h]; exact hr⟩
/-! what each line tells -/
theorem po_v {z m s a x y : Int} (hs : s = (Int32.ofInt 1 <<< (Int32.ofInt a &&& 31)).toInt) (h : z = (Int32.ofInt m ||| Int32.ofInt s).toInt) (e1 : m = x) (e2 : a = y) : z = orI x y := by rw [e_orI hs h, e1, e2]
theorem tl_1 {td D : Nat → Int} {u v0 v1 v2 : Int} (hD : ∀ i : Nat, i < 161 → td i = D i) (hu : u = orI (D 1) v0) : ∀ i : Nat, i < 161 → q_up td 1 u i = tel 1 v0 v1 v2 D i := by
  have e : tel 1 v0 v1 v2 D = q_up D 1 (orI (D 1) v0) := rfl
  rw [e]; exact up_D hD rfl hu
theorem tl_2 {td D : Nat → Int} {u v0 v1 v2 : Int} (hD : ∀ i : Nat, i < 161 → td i = D i) (hu : u = v0) : ∀ i : Nat, i < 161 → q_up td 2 u i = tel 2 v0 v1 v2 D i := by
  have e : tel 2 v0 v1 v2 D = q_up D 2 v0 := rfl
  rw [e]; exact up_D hD rfl hu
theorem tl_5 {td D : Nat → Int} {k : Nat} {u v0 v1 v2 : Int} (hD : ∀ i : Nat, i < 161 → td i = D i) (hk : k = (13 + v0).toNat) (hu : u = v1) : ∀ i : Nat, i < 161 → q_up td k u i = tel 5 v0 v1 v2 D i := by
  have e : tel 5 v0 v1 v2 D = q_up D (13 + v0).toNat v1 := rfl
  rw [e]; exact up_D hD hk hu
theorem tl_6 {td D : Nat → Int} {k : Nat} {u v0 v1 v2 : Int} (hD : ∀ i : Nat, i < 161 → td i = D i) (hk : k = (31 + v1).toNat) (hu : u = orI (D (31 + v1).toNat) v0) : ∀ i : Nat, i < 161 → q_up td k u i = tel 6 v0 v1 v2 D i := by
  have e : tel 6 v0 v1 v2 D = q_up D (31 + v1).toNat (orI (D (31 + v1).toNat) v0) := rfl
  rw [e]; exact up_D hD hk hu
theorem tl_7 {td D : Nat → Int} {k : Nat} {u v0 v1 v2 : Int} (hD : ∀ i : Nat, i < 161 → td i = D i) (hk : k = (21 + v0).toNat) (hu : u = v1) : ∀ i : Nat, i < 161 → q_up td k u i = tel 7 v0 v1 v2 D i := by
  have e : tel 7 v0 v1 v2 D = q_up D (21 + v0).toNat v1 := rfl
  rw [e]; exact up_D hD hk hu
theorem tl_8 {td D : Nat → Int} {k : Nat} {u v0 v1 v2 : Int} (hD : ∀ i : Nat, i < 161 → td i = D i) (hk : k = (43 + 4 * v0 + v1).toNat) (hu : u = v2) : ∀ i : Nat, i < 161 → q_up td k u i = tel 8 v0 v1 v2 D i := by
  have e : tel 8 v0 v1 v2 D = q_up D (43 + 4 * v0 + v1).toNat v2 := rfl
  rw [e]; exact up_D hD hk hu
theorem tl_14 {td D : Nat → Int} {k : Nat} {u v0 v1 v2 : Int} (hD : ∀ i : Nat, i < 161 → td i = D i) (hk : k = v0.toNat) (hu : u = v1) : ∀ i : Nat, i < 161 → q_up td k u i = tel 14 v0 v1 v2 D i := by
  have e : tel 14 v0 v1 v2 D = q_up D v0.toNat v1 := rfl
  rw [e]; exact up_D hD hk hu
theorem tl_15 {td D : Nat → Int} {u v0 v1 v2 : Int} (hD : ∀ i : Nat, i < 161 → td i = D i) (hu : u = v0) : ∀ i : Nat, i < 161 → q_up td 8 u i = tel 15 v0 v1 v2 D i := by
  have e : tel 15 v0 v1 v2 D = q_up D 8 v0 := rfl
  rw [e]; exact up_D hD rfl hu
/-- told a thing too many, or not -/
def FlR (z b c lf lp lf' lp' : Int) : Prop := z = b ∧ (lf = 0 ∧ lf' = 3 ∧ lp' = c ∨ ¬ lf = 0 ∧ lf' = lf ∧ lp' = lp) ∨ ¬ z = b ∧ lf' = lf ∧ lp' = lp
