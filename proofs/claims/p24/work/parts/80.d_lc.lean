set_option maxRecDepth 100000 in
def LC (F U : Nat → Nat → Int) : List (qC → Prop) := PX_H :: PX_T (U 1) :: PX_Ttp (F 2) :: PX_Tct (F 3) :: PX_TBa :: PX_TYa :: PX_TLa :: PX_TSa :: PX_B0 (U 8) :: PX_B0_1 (F 9) :: PX_B0_2 (F 10) :: PX_B0_3 (F 11) :: PX_B0_4 (F 12) :: PX_B0_5 (F 13) :: PX_B0_6 (F 14) :: PX_B0_7 (F 15) :: PX_B1 (U 16) :: PX_B1_1 (F 17) :: PX_B1_2 (F 18) :: PX_B1_3 (F 19) :: PX_B1_4 (F 20) :: PX_B1_5 (F 21) :: PX_B1_6 (F 22) :: PX_B1_7 (F 23) :: PX_Y0 (U 24) :: PX_Y0_1 (F 25) :: PX_Y0_2 (F 26) :: PX_Y0_3 (F 27) :: PX_Y0_4 (F 28) :: PX_Y1 (U 29) :: PX_Y1_1 (F 30) :: PX_Y1_2 (F 31) :: PX_Y1_3 (F 32) :: PX_Y1_4 (F 33) :: PX_L0 (U 34) :: PX_L0_1 (F 35) :: PX_L1 (U 36) :: PX_L1_1 (F 37) :: PX_S0 (U 38) :: PX_S0_1 (F 39) :: PX_S0_2 (F 40) :: PX_S1 (U 41) :: PX_S1_1 (F 42) :: PX_S1_2 (F 43) :: PX_IM :: PX_RD (U 45) :: PX_RV :: PX_RT :: PX_RB (U 48) :: PX_RB_1 (F 49) :: PX_RB_2 (F 50) :: PX_RB_3 (F 51) :: PX_RB_4 (F 52) :: PX_RB_5 (F 53) :: PX_RB_6 (F 54) :: PX_RB_7 (F 55) :: PX_RY (U 56) :: PX_RY_1 (F 57) :: PX_RY_2 (F 58) :: PX_RY_3 (F 59) :: PX_RY_4 (F 60) :: PX_RL (U 61) :: PX_RL_1 (F 62) :: PX_RS (U 63) :: PX_RS_1 (F 64) :: PX_RS_2 (F 65) :: PX_WK :: PX_WK_1 :: PX_WK_2 :: PX_WK_3 :: PX_RC :: PX_RC_1 :: PX_RZ :: PX_RZ_1 :: PX_RZ_2 :: PX_RZ_3 :: PX_GU :: PX_GU_1 :: PX_GU_2 :: PX_GU_3 :: PX_GU_4 :: PX_CR :: PX_CR_1 :: PX_CR_2 :: PX_CR_3 :: PM_M :: PM_TP (F 86) :: PM_SZ (F 87) :: PM_FA (F 88) :: PM_FP (F 89) :: PM_MN (F 90) :: PM_BS (F 91) :: PM_YS (F 92) :: PM_LS (F 93) :: PM_SS (F 94) :: PM_TD :: PM_RE :: PM_TL :: PM_IN :: PM_PS :: PM_CP :: PM_LO :: PM_BK :: PM_OW :: PM_RW :: PM_TH :: PM_LX :: PM_FU :: PM_SE :: PM_PA :: PM_KP (F 110) :: []
/-! ===== the law's world with what each lasting cell holds: F p the row at place p, U p the numbers of the object at p ===== -/
def fu (F : Nat → Nat → Int) (p : Nat) (f : Nat → Int) : Nat → Nat → Int := fun q => if q = p then f else F q
def vL (l : List Int) : Nat → Int := fun j => l.getD j 0
def fw (U : Nat → Nat → Int) (p j : Nat) (v : Int) : Nat → Nat → Int := fu U p (q_up (U p) j v)
theorem fu_h {F : Nat → Nat → Int} {p : Nat} {f : Nat → Int} : fu F p f p = f := by unfold fu; rw [if_pos rfl]
theorem fu_n {F : Nat → Nat → Int} {p q : Nat} {f : Nat → Int} (h : ¬ q = p) : fu F p f q = F q := by unfold fu; rw [if_neg h]
theorem fu_c {F G : Nat → Nat → Int} {p i : Nat} {f : Nat → Int} (h : ¬ i = p) (h2 : F i = G i) : fu F p f i = G i := by rw [fu_n h]; exact h2
theorem fw_c {F G : Nat → Nat → Int} {p i j : Nat} {v : Int} (h : ¬ i = p) (h2 : F i = G i) : fw F p j v i = G i := fu_c h h2
def LZ : List ((Nat → Int) → (Nat → Int) → qC → Prop) → Nat → (Nat → Nat → Int) → (Nat → Nat → Int) → List (qC → Prop)
  | [], _, _, _ => []
  | P :: Ps, k, F, U => P (F k) (U k) :: LZ Ps (k + 1) F U
theorem LZ_ne {F U F' U' : Nat → Nat → Int} : ∀ (Ps : List ((Nat → Int) → (Nat → Int) → qC → Prop)) (k i : Nat), F' (k + i) = F (k + i) → U' (k + i) = U (k + i) → (LZ Ps k F' U')[i]? = (LZ Ps k F U)[i]? := by
  intro Ps
  induction Ps with
  | nil => intro k i _ _; rfl
  | cons P Ps ih =>
    intro k i h1 h2
    cases i with
    | zero =>
      show some (P (F' k) (U' k)) = some (P (F k) (U k))
      rw [show F' k = F k from h1, show U' k = U k from h2]
    | succ i =>
      show (LZ Ps (k + 1) F' U')[i]? = (LZ Ps (k + 1) F U)[i]?
      exact ih (k + 1) i (by rw [show k + 1 + i = k + (i + 1) by omega]; exact h1) (by rw [show k + 1 + i = k + (i + 1) by omega]; exact h2)
set_option maxRecDepth 100000 in
def LCP : List ((Nat → Int) → (Nat → Int) → qC → Prop) := (fun _ _ => PX_H) :: (fun _ u => PX_T u) :: (fun f _ => PX_Ttp f) :: (fun f _ => PX_Tct f) :: (fun _ _ => PX_TBa) :: (fun _ _ => PX_TYa) :: (fun _ _ => PX_TLa) :: (fun _ _ => PX_TSa) :: (fun _ u => PX_B0 u) :: (fun f _ => PX_B0_1 f) :: (fun f _ => PX_B0_2 f) :: (fun f _ => PX_B0_3 f) :: (fun f _ => PX_B0_4 f) :: (fun f _ => PX_B0_5 f) :: (fun f _ => PX_B0_6 f) :: (fun f _ => PX_B0_7 f) :: (fun _ u => PX_B1 u) :: (fun f _ => PX_B1_1 f) :: (fun f _ => PX_B1_2 f) :: (fun f _ => PX_B1_3 f) :: (fun f _ => PX_B1_4 f) :: (fun f _ => PX_B1_5 f) :: (fun f _ => PX_B1_6 f) :: (fun f _ => PX_B1_7 f) :: (fun _ u => PX_Y0 u) :: (fun f _ => PX_Y0_1 f) :: (fun f _ => PX_Y0_2 f) :: (fun f _ => PX_Y0_3 f) :: (fun f _ => PX_Y0_4 f) :: (fun _ u => PX_Y1 u) :: (fun f _ => PX_Y1_1 f) :: (fun f _ => PX_Y1_2 f) :: (fun f _ => PX_Y1_3 f) :: (fun f _ => PX_Y1_4 f) :: (fun _ u => PX_L0 u) :: (fun f _ => PX_L0_1 f) :: (fun _ u => PX_L1 u) :: (fun f _ => PX_L1_1 f) :: (fun _ u => PX_S0 u) :: (fun f _ => PX_S0_1 f) :: (fun f _ => PX_S0_2 f) :: (fun _ u => PX_S1 u) :: (fun f _ => PX_S1_1 f) :: (fun f _ => PX_S1_2 f) :: (fun _ _ => PX_IM) :: (fun _ u => PX_RD u) :: (fun _ _ => PX_RV) :: (fun _ _ => PX_RT) :: (fun _ u => PX_RB u) :: (fun f _ => PX_RB_1 f) :: (fun f _ => PX_RB_2 f) :: (fun f _ => PX_RB_3 f) :: (fun f _ => PX_RB_4 f) :: (fun f _ => PX_RB_5 f) :: (fun f _ => PX_RB_6 f) :: (fun f _ => PX_RB_7 f) :: (fun _ u => PX_RY u) :: (fun f _ => PX_RY_1 f) :: (fun f _ => PX_RY_2 f) :: (fun f _ => PX_RY_3 f) :: (fun f _ => PX_RY_4 f) :: (fun _ u => PX_RL u) :: (fun f _ => PX_RL_1 f) :: (fun _ u => PX_RS u) :: (fun f _ => PX_RS_1 f) :: (fun f _ => PX_RS_2 f) :: (fun _ _ => PX_WK) :: (fun _ _ => PX_WK_1) :: (fun _ _ => PX_WK_2) :: (fun _ _ => PX_WK_3) :: (fun _ _ => PX_RC) :: (fun _ _ => PX_RC_1) :: (fun _ _ => PX_RZ) :: (fun _ _ => PX_RZ_1) :: (fun _ _ => PX_RZ_2) :: (fun _ _ => PX_RZ_3) :: (fun _ _ => PX_GU) :: (fun _ _ => PX_GU_1) :: (fun _ _ => PX_GU_2) :: (fun _ _ => PX_GU_3) :: (fun _ _ => PX_GU_4) :: (fun _ _ => PX_CR) :: (fun _ _ => PX_CR_1) :: (fun _ _ => PX_CR_2) :: (fun _ _ => PX_CR_3) :: (fun _ _ => PM_M) :: (fun f _ => PM_TP f) :: (fun f _ => PM_SZ f) :: (fun f _ => PM_FA f) :: (fun f _ => PM_FP f) :: (fun f _ => PM_MN f) :: (fun f _ => PM_BS f) :: (fun f _ => PM_YS f) :: (fun f _ => PM_LS f) :: (fun f _ => PM_SS f) :: (fun _ _ => PM_TD) :: (fun _ _ => PM_RE) :: (fun _ _ => PM_TL) :: (fun _ _ => PM_IN) :: (fun _ _ => PM_PS) :: (fun _ _ => PM_CP) :: (fun _ _ => PM_LO) :: (fun _ _ => PM_BK) :: (fun _ _ => PM_OW) :: (fun _ _ => PM_RW) :: (fun _ _ => PM_TH) :: (fun _ _ => PM_LX) :: (fun _ _ => PM_FU) :: (fun _ _ => PM_SE) :: (fun _ _ => PM_PA) :: (fun f _ => PM_KP f) :: []
set_option maxRecDepth 100000 in
theorem LC_LZ (F U : Nat → Nat → Int) : LC F U = LZ LCP 0 F U := rfl
theorem LC_ne {F U F' U' : Nat → Nat → Int} {i : Nat} (h : F' i = F i) (h2 : U' i = U i) : (LC F' U')[i]? = (LC F U)[i]? := by
  rw [LC_LZ, LC_LZ]
  exact LZ_ne _ 0 i (by rw [Nat.zero_add]; exact h) (by rw [Nat.zero_add]; exact h2)
set_option maxRecDepth 100000 in
theorem LC_len (F U : Nat → Nat → Int) : (LC F U).length = 111 := rfl
abbrev spW (F U : Nat → Nat → Int) : (List qV → Prop) → (Option qV → Prop) → qS := spW0 (LC F U)
/-- a call that may change what is known -/
def spG (F U : Nat → Nat → Int) (ar : List qV → Prop) (rel : List qV → Option qV → (Nat → Nat → Int) → (Nat → Nat → Int) → Prop) : qS := fun av w Q => PW (LC F U) w ∧ ar av ∧ ∀ (r : Option qV) (F' U' : Nat → Nat → Int) (w' : qW), PW (LC F' U') w' → w'.length = w.length → (∀ i : Nat, (i = 44 ∨ 111 ≤ i) → w'[i]? = w[i]?) → rel av r F' U' → Q r w'
theorem spG_mo {F U : Nat → Nat → Int} {ar : List qV → Prop} {rel : List qV → Option qV → (Nat → Nat → Int) → (Nat → Nat → Int) → Prop} : ∀ (av : List qV) (w : qW) (P P' : Option qV → qW → Prop), (∀ r w1, P r w1 → P' r w1) → spG F U ar rel av w P → spG F U ar rel av w P' := fun av w P P' h hs => ⟨hs.1, hs.2.1, fun r F' U' w' a b c d => h _ _ (hs.2.2 r F' U' w' a b c d)⟩
/-- a call that changes nothing of what is known, and what it answers -/
def spV (C : List (qC → Prop)) (rel : List qV → Option qV → Prop) (ar : List qV → Prop) : qS := fun av w Q => PW C w ∧ ar av ∧ ∀ r w', PW C w' → w'.length = w.length → (∀ i : Nat, (i = 44 ∨ 111 ≤ i) → w'[i]? = w[i]?) → rel av r → Q r w'
theorem spV_mo {C : List (qC → Prop)} {rel : List qV → Option qV → Prop} {ar : List qV → Prop} : ∀ (av : List qV) (w : qW) (P P' : Option qV → qW → Prop), (∀ r w1, P r w1 → P' r w1) → spV C rel ar av w P → spV C rel ar av w P' := fun av w P P' h hs => ⟨hs.1, hs.2.1, fun r w' a b c d => h _ _ (hs.2.2 r w' a b c d)⟩
def frm (F U F' U' : Nat → Nat → Int) : Prop := ∀ p : Nat, 111 ≤ p → F' p = F p ∧ U' p = U p
theorem PW_bwC {C C' : List (qC → Prop)} {pos ps : List Nat} {w w1 : qW} (h : PW C w) (hlen : ps.length = w1.length) (hC : ∀ i : Nat, i ∉ ps → C'[i]? = C[i]?) (hL : C'.length = C.length) (hc : AllC C' pos ps w1) : PW C' (q_bw pos w ps w1) := by
  intro i P hi
  have hil : i < C.length := by rw [← hL]; exact (List.getElem?_eq_some_iff.mp hi).1
  obtain ⟨x, hx, -⟩ := h i _ (List.getElem?_eq_getElem hil)
  have hl : i < (q_bw pos w ps w1).length := by rw [q_bw_len]; exact (List.getElem?_eq_some_iff.mp hx).1
  refine ⟨_, List.getElem?_eq_getElem hl, ?_⟩
  exact q_bw_at (P := fun i x => ∀ Pr, C'[i]? = some Pr → Pr x) ps w w1 (fun j p x hp hx Pr hPr => AllC_at ps w1 hc j p x hp hx Pr hPr) (fun i2 x2 hx2 hn Pr hPr => by
    rw [hC i2 hn] at hPr
    obtain ⟨x3, h3, h4⟩ := h i2 Pr hPr
    rw [hx2] at h3
    cases h3
    exact h4) hlen i _ (List.getElem?_eq_getElem hl) P hi
