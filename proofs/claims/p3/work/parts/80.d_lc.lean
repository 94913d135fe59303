set_option maxRecDepth 100000 in
def LC (ln : Int) (siz kp : Nat → Int) : List (qC → Prop) := PX_H :: PX_T ln :: PX_Ttp :: PX_Tct :: PX_TBa :: PX_TYa :: PX_TLa :: PX_TSa :: PX_B0 :: PX_B0_1 :: PX_B0_2 :: PX_B0_3 :: PX_B0_4 :: PX_B0_5 :: PX_B0_6 :: PX_B0_7 :: PX_B1 :: PX_B1_1 :: PX_B1_2 :: PX_B1_3 :: PX_B1_4 :: PX_B1_5 :: PX_B1_6 :: PX_B1_7 :: PX_Y0 :: PX_Y0_1 :: PX_Y0_2 :: PX_Y0_3 :: PX_Y0_4 :: PX_Y1 :: PX_Y1_1 :: PX_Y1_2 :: PX_Y1_3 :: PX_Y1_4 :: PX_L0 :: PX_L0_1 :: PX_L1 :: PX_L1_1 :: PX_S0 :: PX_S0_1 :: PX_S0_2 :: PX_S1 :: PX_S1_1 :: PX_S1_2 :: PX_IM :: PX_RD :: PX_RV :: PX_RT :: PX_RB :: PX_RB_1 :: PX_RB_2 :: PX_RB_3 :: PX_RB_4 :: PX_RB_5 :: PX_RB_6 :: PX_RB_7 :: PX_RY :: PX_RY_1 :: PX_RY_2 :: PX_RY_3 :: PX_RY_4 :: PX_RL :: PX_RL_1 :: PX_RS :: PX_RS_1 :: PX_RS_2 :: PX_WK :: PX_WK_1 :: PX_WK_2 :: PX_WK_3 :: PX_RC :: PX_RC_1 :: PX_RZ :: PX_RZ_1 :: PX_RZ_2 :: PX_RZ_3 :: PX_GU :: PX_GU_1 :: PX_GU_2 :: PX_GU_3 :: PX_GU_4 :: PX_CR :: PX_CR_1 :: PX_CR_2 :: PX_CR_3 :: PM_M :: PM_TP :: PM_SZ siz :: PM_FA :: PM_FP :: PM_MN :: PM_BS :: PM_YS :: PM_LS :: PM_SS :: PM_TD :: PM_RE :: PM_TL :: PM_IN :: PM_PS :: PM_CP :: PM_LO :: PM_BK :: PM_OW :: PM_RW :: PM_TH :: PM_LX :: PM_FU :: PM_SE :: PM_PA :: PM_KP kp :: []

abbrev spW (ln : Int) (siz kp : Nat → Int) : (List qV → Prop) → (Option qV → Prop) → qS := spW0 (LC ln siz kp)
set_option maxRecDepth 100000 in
theorem LC_sT {ln ln' : Int} {siz kp : Nat → Int} : LC ln' siz kp = (LC ln siz kp).set 1 (PX_T ln') := rfl
set_option maxRecDepth 100000 in
theorem LC_sS {ln : Int} {siz siz' kp : Nat → Int} : LC ln siz' kp = (LC ln siz kp).set 87 (PM_SZ siz') := rfl
set_option maxRecDepth 100000 in
theorem LC_sSK {ln : Int} {siz siz' kp kp' : Nat → Int} : LC ln siz' kp' = ((LC ln siz kp).set 87 (PM_SZ siz')).set 110 (PM_KP kp') := rfl
theorem LC_nT {ln ln' : Int} {siz kp : Nat → Int} {i : Nat} (h : ¬ i = 1) : (LC ln' siz kp)[i]? = (LC ln siz kp)[i]? := by
  rw [LC_sT (ln := ln) (ln' := ln'), List.getElem?_set, if_neg (fun e => h e.symm)]
theorem LC_nS {ln : Int} {siz siz' kp : Nat → Int} {i : Nat} (h : ¬ i = 87) : (LC ln siz' kp)[i]? = (LC ln siz kp)[i]? := by
  rw [LC_sS (siz := siz) (siz' := siz'), List.getElem?_set, if_neg (fun e => h e.symm)]
theorem LC_nSK {ln : Int} {siz siz' kp kp' : Nat → Int} {i : Nat} (h : ¬ i = 87) (h2 : ¬ i = 110) : (LC ln siz' kp')[i]? = (LC ln siz kp)[i]? := by
  rw [LC_sSK (siz := siz) (siz' := siz') (kp := kp) (kp' := kp'), List.getElem?_set, if_neg (fun e => h2 e.symm), List.getElem?_set, if_neg (fun e => h e.symm)]
def feG (t z t' : Int) : Prop := (580 < t ∧ z = -1 ∧ t' = t) ∨ (t ≤ 580 ∧ z = t + 20 ∧ t' = t + 20)
def enG (a t z t' : Int) : Prop := ((a < 0 ∨ t < a) ∧ z = -1 ∧ t' = t) ∨ (0 ≤ a ∧ a ≤ t ∧ z = a ∧ t' = a)
def spS (C : List (qC → Prop)) (ar : List qV → Prop) (rel : List qV → Option qV → List (qC → Prop) → Prop) : qS := fun av w Q => PW C w ∧ ar av ∧ ∀ r C' w', PW C' w' → w'.length = w.length → (∀ i : Nat, (i = 44 ∨ 111 ≤ i) → w'[i]? = w[i]?) → rel av r C' → Q r w'
theorem PW_bwC {C C' : List (qC → Prop)} {pos ps : List Nat} {w w1 : qW} (h : PW C w) (hlen : ps.length = w1.length) (hC : ∀ i : Nat, i ∉ ps → C'[i]? = C[i]?) (hL : C'.length = C.length) (hc : AllC C' pos ps w1) : PW C' (q_bw pos w ps w1) := by
  intro i P hi
  have hil : i < C.length := by rw [← hL]; exact (List.getElem?_eq_some_iff.mp hi).1
  obtain ⟨x, hx, -⟩ := h i _ (List.getElem?_eq_getElem hil)
  have hl : i < (q_bw pos w ps w1).length := by rw [q_bw_len]; exact (List.getElem?_eq_some_iff.mp hx).1
  refine ⟨_, List.getElem?_eq_getElem hl, ?_⟩
  exact q_bw_at (P := fun i x => ∀ Pr, C'[i]? = some Pr → Pr x) ps w w1 (fun j p x hp hx Pr hPr => AllC_at ps w1 hc j p x hp hx Pr hPr) (fun i2 x2 hx2 hn Pr hPr => by
    rw [hC i2 hn] at hPr
    obtain ⟨x3, h3, h4⟩ := h i2 Pr hPr
    rw [hx2] at h3
    cases h3
    exact h4) hlen i _ (List.getElem?_eq_getElem hl) P hi
