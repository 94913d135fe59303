/-! ===== with what the reference's rows keep ===== -/
def REL2 (γ : qG) : Prop := REL γ ∧ OKR γ.1
theorem okFeC {γ γ' : qG} {av : List qV} {r : Option qV} (hO : OKR γ.1) (h : rlFeC γ av r γ') : OKR γ'.1 := by
  obtain ⟨-, _, _, _, _, _, _, -, -, -, -, f1, -⟩ := h
  exact OKR_eq hO (fun p h1 h2 => f1 p (by omega))
theorem okFeM {γ γ' : qG} {av : List qV} {r : Option qV} (hO : OKR γ.1) (h : rlFeM γ av r γ') : OKR γ'.1 := by
  obtain ⟨-, _, _, _, _, _, _, -, -, -, -, f2, -⟩ := h
  exact OKR_eq hO (fun p h1 h2 => f2 p (by omega) (by omega))
theorem okEnC {γ γ' : qG} {av : List qV} {r : Option qV} (hO : OKR γ.1) (h : rlEnC γ av r γ') : OKR γ'.1 := by
  obtain ⟨-, _, _, -, -, -, -, f1, -⟩ := h
  exact OKR_eq hO (fun p h1 h2 => f1 p)
theorem okEnM {γ γ' : qG} {av : List qV} {r : Option qV} (hO : OKR γ.1) (h : rlEnM γ av r γ') : OKR γ'.1 := by
  obtain ⟨-, _, _, -, -, -, -, f2, -⟩ := h
  exact OKR_eq hO (fun p h1 h2 => f2 p (by omega))
theorem okTxC {γ γ' : qG} {av : List qV} {r : Option qV} (hO : OKR γ.1) (h : rlTxC γ av r γ') : OKR γ'.1 := by
  obtain ⟨-, _, _, _, -, -, -, -, tf, -⟩ := h
  exact OKR_eq hO (fun p h1 h2 => (tf p (by omega)).1)
theorem okTxM {γ γ' : qG} {av : List qV} {r : Option qV} (hO : OKR γ.1) (h : rlTxM γ av r γ') : OKR γ'.1 := by
  obtain ⟨-, _, _, _, -, -, hT, -⟩ := h
  exact OKR_tx hO hT
theorem okAgC {γ γ' : qG} {av : List qV} {r : Option qV} (hO : OKR γ.1) (h : rlAgC γ av r γ') : OKR γ'.1 := by
  obtain ⟨_, _, -, -, ⟨-, -, j, -, -, hC⟩ | ⟨-, -, rfl⟩⟩ := h
  · exact OKR_eq hO (fun p h1 h2 => (hC.1 p (by omega)).1)
  · exact hO
theorem okEq {F F' : Nat → Nat → Int} (hO : OKR F) (h90 : F' 90 = F 90) (h91 : F' 91 = F 91) (h92 : F' 92 = F 92) (h93 : F' 93 = F 93) (h94 : F' 94 = F 94) : OKR F' := OKR_eq hO (fun p h1 h2 => by
  rcases (show p = 90 ∨ p = 91 ∨ p = 92 ∨ p = 93 ∨ p = 94 by omega) with rfl | rfl | rfl | rfl | rfl
  · exact h90
  · exact h91
  · exact h92
  · exact h93
  · exact h94)
theorem okAgM {γ γ' : qG} {av : List qV} {r : Option qV} (hO : OKR γ.1) (h : rlAgM γ av r γ') : OKR γ'.1 := by
  obtain ⟨-, a, _, -, -, ⟨-, ⟨ha, -⟩, hC⟩ | ⟨-, -, -, -, -, -, h90, h91, h92, h93, h94⟩, -⟩ := h
  · exact OKR_cp (i := a.toNat + 1) (j := 0) hO (by omega) rfl (by omega) hC
  · exact okEq hO h90 h91 h92 h93 h94
theorem okImM {γ γ' : qG} {av : List qV} {r : Option qV} (hO : OKR γ.1) (h : rlImM γ av r γ') : OKR γ'.1 := by
  obtain ⟨-, a, _, -, -, ⟨-, ha, -, hC⟩ | ⟨-, -, -, -, -, -, -, h90, h91, h92, h93, h94⟩, -⟩ := h
  · exact OKR_cp (i := 0) (j := a.toNat + 1) hO rfl (by omega) (by decide) hC
  · exact okEq hO h90 h91 h92 h93 h94
theorem okFaC {γ γ' : qG} {av : List qV} {r : Option qV} (hO : OKR γ.1) (h : rlFaC γ av r γ') : OKR γ'.1 := by
  obtain ⟨rfl, -⟩ := h
  exact hO
theorem okFaM {γ γ' : qG} {av : List qV} {r : Option qV} (hO : OKR γ.1) (h : rlFaM γ av r γ') : OKR γ'.1 := by
  obtain ⟨rfl, -⟩ := h
  exact hO
theorem okCoC {γ γ' : qG} {av : List qV} {r : Option qV} (hO : OKR γ.1) (h : rlCoC γ av r γ') : OKR γ'.1 := by
  obtain ⟨rfl, -⟩ := h
  exact hO
theorem okCoM {γ γ' : qG} {av : List qV} {r : Option qV} (hO : OKR γ.1) (h : rlCoM γ av r γ') : OKR γ'.1 := by
  obtain ⟨rfl, -⟩ := h
  exact hO
theorem okBoC {γ γ' : qG} {av : List qV} {r : Option qV} (hO : OKR γ.1) (h : rlBoC γ av r γ') : OKR γ'.1 := by
  obtain ⟨rfl, -⟩ := h
  exact hO
theorem okBoM {γ γ' : qG} {av : List qV} {r : Option qV} (hO : OKR γ.1) (h : rlBoM γ av r γ') : OKR γ'.1 := by
  obtain ⟨rfl, -⟩ := h
  exact hO
theorem okDeC {γ γ' : qG} {av : List qV} {r : Option qV} (hO : OKR γ.1) (h : rlDeC γ av r γ') : OKR γ'.1 := by
  obtain ⟨rfl, -⟩ := h
  exact hO
theorem okDeM {γ γ' : qG} {av : List qV} {r : Option qV} (hO : OKR γ.1) (h : rlDeM γ av r γ') : OKR γ'.1 := by
  obtain ⟨rfl, -⟩ := h
  exact hO
theorem okFtC {γ γ' : qG} {av : List qV} {r : Option qV} (hO : OKR γ.1) (h : rlFtC γ av r γ') : OKR γ'.1 := by
  obtain ⟨rfl, -⟩ := h
  exact hO
theorem okFtM {γ γ' : qG} {av : List qV} {r : Option qV} (hO : OKR γ.1) (h : rlFtM γ av r γ') : OKR γ'.1 := by
  obtain ⟨rfl, -⟩ := h
  exact hO
theorem RL2Fe {γ γ1 γ2 : qG} {a b c d e a' b' c' d' e' z1 z2 : Int} (ha : a = a') (hb : b = b') (hc : c = c') (hd : d = d') (he : e = e') (hR : REL2 γ) (h1 : rlFeC γ [q2 0, q1 a, q1 b, q1 c, q1 d, q1 e] (some (q1 z1)) γ1) (h2 : rlFeM γ1 [q2 85, q1 a', q1 b', q1 c', q1 d', q1 e'] (some (q1 z2)) γ2) : REL2 γ2 ∧ z1 = z2 := by
  obtain ⟨h8, h9⟩ := RLFe ha hb hc hd he hR.1 h1 h2
  exact ⟨⟨h8, okFeM (okFeC hR.2 h1) h2⟩, h9⟩
theorem RL2En {γ γ1 γ2 : qG} {a a' z1 z2 : Int} (ha : a = a') (hR : REL2 γ) (h1 : rlEnC γ [q2 0, q1 a] (some (q1 z1)) γ1) (h2 : rlEnM γ1 [q2 85, q1 a'] (some (q1 z2)) γ2) : REL2 γ2 ∧ z1 = z2 := by
  obtain ⟨h8, h9⟩ := RLEn ha hR.1 h1 h2
  exact ⟨⟨h8, okEnM (okEnC hR.2 h1) h2⟩, h9⟩
theorem RL2Tx {γ γ1 γ2 : qG} {a b a' b' z1 z2 : Int} (ha : a = a') (hb : b = b') (hR : REL2 γ) (h1 : rlTxC γ [q2 0, q1 a, q1 b] (some (q1 z1)) γ1) (h2 : rlTxM γ1 [q2 85, q1 a', q1 b'] (some (q1 z2)) γ2) : REL2 γ2 ∧ z1 = z2 := by
  obtain ⟨h8, h9⟩ := RLTx ha hb hR.1 h1 h2
  exact ⟨⟨h8, okTxM (okTxC hR.2 h1) h2⟩, h9⟩
theorem RL2Ag {γ γ1 γ2 : qG} {a a' z1 z2 : Int} (ha : a = a') (hR : REL2 γ) (h1 : rlAgC γ [q2 0, q1 a] (some (q1 z1)) γ1) (h2 : rlAgM γ1 [q2 85, q1 a'] (some (q1 z2)) γ2) : REL2 γ2 ∧ z1 = z2 := by
  obtain ⟨h8, h9⟩ := RLAg ha hR.1 h1 h2
  exact ⟨⟨h8, okAgM (okAgC hR.2 h1) h2⟩, h9⟩
theorem RL2Fa {γ γ1 γ2 : qG} {a a' z1 z2 : Int} (ha : a = a') (hR : REL2 γ) (h1 : rlFaC γ [q2 0, q1 a] (some (q1 z1)) γ1) (h2 : rlFaM γ1 [q2 85, q1 a'] (some (q1 z2)) γ2) : REL2 γ2 ∧ z1 = z2 := by
  obtain ⟨h8, h9⟩ := RLFa ha hR.1 h1 h2
  exact ⟨⟨h8, okFaM (okFaC hR.2 h1) h2⟩, h9⟩
theorem RL2Co {γ γ1 γ2 : qG} {a a' z1 z2 : Int} (ha : a = a') (hR : REL2 γ) (h1 : rlCoC γ [q2 0, q1 a] (some (q1 z1)) γ1) (h2 : rlCoM γ1 [q2 85, q1 a'] (some (q1 z2)) γ2) : REL2 γ2 ∧ z1 = z2 := by
  obtain ⟨h8, h9⟩ := RLCo ha hR.1 h1 h2
  exact ⟨⟨h8, okCoM (okCoC hR.2 h1) h2⟩, h9⟩
theorem RL2Bo {γ γ1 γ2 : qG} {a b a' b' z1 z2 : Int} (ha : a = a') (hb : b = b') (hR : REL2 γ) (h1 : rlBoC γ [q2 0, q1 a, q1 b] (some (q1 z1)) γ1) (h2 : rlBoM γ1 [q2 85, q1 a', q1 b'] (some (q1 z2)) γ2) : REL2 γ2 ∧ z1 = z2 := by
  obtain ⟨h8, h9⟩ := RLBo ha hb hR.1 h1 h2
  exact ⟨⟨h8, okBoM (okBoC hR.2 h1) h2⟩, h9⟩
theorem RL2De {γ γ1 γ2 : qG} {a b c a' b' c' z1 z2 : Int} (ha : a = a') (hb : b = b') (hc : c = c') (hR : REL2 γ) (h1 : rlDeC γ [q2 0, q1 a, q1 b, q1 c] (some (q1 z1)) γ1) (h2 : rlDeM γ1 [q2 85, q1 a', q1 b', q1 c'] (some (q1 z2)) γ2) : REL2 γ2 ∧ z1 = z2 := by
  obtain ⟨h8, h9⟩ := RLDe ha hb hc hR.1 h1 h2
  exact ⟨⟨h8, okDeM (okDeC hR.2 h1) h2⟩, h9⟩
theorem RL2Ft {γ γ1 γ2 : qG} {a b c a' b' c' z1 z2 : Int} (ha : a = a') (hb : b = b') (hc : c = c') (hR : REL2 γ) (h1 : rlFtC γ [q2 0, q1 a, q1 b, q1 c] (some (q1 z1)) γ1) (h2 : rlFtM γ1 [q2 85, q1 a', q1 b', q1 c'] (some (q1 z2)) γ2) : REL2 γ2 ∧ z1 = z2 := by
  obtain ⟨h8, h9⟩ := RLFt ha hb hc hR.1 h1 h2
  exact ⟨⟨h8, okFtM (okFtC hR.2 h1) h2⟩, h9⟩
