section QL9
variable {p : Program} {l : Launch} {e : Env} {R : Room} {s : State} {m : MethodId} {args : Array Value} {below : List Frame} {meth : Method} {c : Code} {cc : ByteArray} {nL nW fr lo : Nat} {own : String} {ret : Option FieldType} {dC : Nat → ClassId} {dI : Nat → Nat → Nat} {k : Nat → ClassId} {g : Nat → Nat} {A : Nat → Prop} {Qf : State → Prop} {pc : Nat} {K K1 K2 : qK}
variable {nc ns : Nat}
def x_sldL (L : Nat) (xs : Nat → Int32) (K : qK) : qK := fun lv st w => match st with
  | .inl i :: .inr (.inr (some a)) :: r => (a = 900 ∧ 0 ≤ i ∧ i < L) ∧ ∀ z : Int, z = (xs i.toNat).toInt → K lv (.inl z :: r) w
  | _ => False
def x_slenL (L : Nat) (K : qK) : qK := fun lv st w => match st with
  | .inr (.inr (some a)) :: r => a = 900 ∧ K lv (.inl (L : Int) :: r) w
  | _ => False
def x_pop2 (K : qK) : qK := fun lv st w => match st with
  | .inr (.inl _) :: r => K lv r w
  | _ => False
def x_callN (ci np : Nat) (sp : qS) (K : qK) : qK := fun lv st w => ∃ (a : Nat) (As rest vs : List qV), st = As.reverse ++ .inr (.inr (some a)) :: rest ∧ As.length + 1 = np ∧ w[a]? = some (.inr (ci, vs)) ∧ (rest.map q_cat).sum ≤ 8 ∧ sp (.inr (.inr (some a)) :: As) w (fun r w1 => w1.length = w.length → K lv (q_pi r rest) w1)
theorem sN_sld (X : q_X p R s m args meth c cc nL nW fr lo own ret dC dI k g A) {b L : Nat} {xs : Nat → Int32} (hXs : va_X b L xs s s.heap) (hbl : b < s.heap.size) (hbA : ¬ A b) (hg9 : g 900 = b) (hd : decode cc pc = .ok (.iaload, 1)) (hk : q_SdN nc ns p l e R s m args below meth c nL nW dC dI k g A Qf (pc + 1) (K)) : q_SdN nc ns p l e R s m args below meth c nL nW dC dI k g A Qf (pc) (x_sldL L xs K) := by
  intro H locs ls lv st w h hP hW hS hl okl oks okw
  obtain ⟨hx, hb, hml, hown, hts, hK, hA, hE, hfr, hlo, hlk, hret, hDg⟩ := X
  unfold x_sldL at h
  split at h
  · rename_i i a r
    obtain ⟨⟨rfl, h1, h2⟩, h3⟩ := h
    have hi : q_i i := q_oks_h oks
    show W p l e R s m args below meth c H locs nc ns Qf (F0 m pc ls (.int (Int32.ofInt i) :: .ref (g 900) :: r.map (q_v g)))
    rw [hg9]
    refine va_sld hx hb hXs hbl hbA hS (q_in hi h1 h2) hd ?_
    rw [q_cl hi, q_bk (g := g)]
    exact hk H locs ls lv _ w (h3 _ rfl) hP hW hS hl okl (q_oks_c (q_it _) (q_oks_t (q_oks_t oks))) okw
  · exact h.elim
theorem sN_slen (X : q_X p R s m args meth c cc nL nW fr lo own ret dC dI k g A) {b L : Nat} {xs : Nat → Int32} (hL : L ≤ 3072) (hXs : va_X b L xs s s.heap) (hbl : b < s.heap.size) (hbA : ¬ A b) (hg9 : g 900 = b) (hd : decode cc pc = .ok (.arraylength, 1)) (hk : q_SdN nc ns p l e R s m args below meth c nL nW dC dI k g A Qf (pc + 1) (K)) : q_SdN nc ns p l e R s m args below meth c nL nW dC dI k g A Qf (pc) (x_slenL L K) := by
  intro H locs ls lv st w h hP hW hS hl okl oks okw
  obtain ⟨hx, hb, hml, hown, hts, hK, hA, hE, hfr, hlo, hlk, hret, hDg⟩ := X
  unfold x_slenL at h
  split at h
  · rename_i a r
    obtain ⟨rfl, h3⟩ := h
    show W p l e R s m args below meth c H locs nc ns Qf (F0 m pc ls (.ref (g 900) :: r.map (q_v g)))
    rw [hg9]
    refine va_slen hx hb hXs hbl hbA hS hd ?_
    rw [show Value.int (Int32.ofNat L) = q_v g (.inl (L : Int)) from rfl]
    exact hk H locs ls lv _ w h3 hP hW hS hl okl (q_oks_c ⟨by omega, by omega⟩ (q_oks_t oks)) okw
  · exact h.elim
theorem sN_callN {ci np index : Nat} {sp : qS} {y : MethodName} {cy : ByteArray} {nLy fy ly N : Nat} {T : u_T} {rety : Option FieldType} (X : q_X p R s m args meth c cc nL nW fr lo own ret dC dI k g A) (hcells : nc + 0 ≤ R.cells ∧ ns + 0 ≤ R.slots) (hM : q_M l y cy nLy rety fy ly sp) (h1 : Cond.methodLink own index y ∈ TB) (h2 : Cond.instanceMethod y ∈ TB) (h3 : Cond.selects y.cls y y ∈ TB) (h4 : Cond.initialized y.cls ∈ TB) (h5 : Cond.code y cy nLy rety ∈ TB) (hcl : vwCl[ci]? = some (y.cls, T, N)) (hdd : y.cls = y.cls ∧ y.cls ≠ "java/lang/invoke/MethodHandle" ∧ y.cls ≠ "java/lang/invoke/VarHandle" ∧ (parseMethodDescriptor y.desc).map (fun d => d.parameters.length + 1) = some np) (hroom : fy + 1 ≤ fr ∧ 8 + (nLy + 11) + ly ≤ lo) (hmo : ∀ (av : List qV) (w : qW) (P P' : Option qV → qW → Prop), (∀ r w1, P r w1 → P' r w1) → sp av w P → sp av w P') (hd : decode cc pc = .ok (.invokevirtual index, 3)) (hk : q_SdN nc ns p l e R s m args below meth c nL nW dC dI k g A Qf (pc + 3) (K)) : q_SdN nc ns p l e R s m args below meth c nL nW dC dI k g A Qf (pc) (x_callN ci np sp K) := by
  intro H locs ls lv st w h hP hW hS hl okl oks okw
  obtain ⟨a, As, rest, vs, rfl, hnp, hrv, hcs, hsp⟩ := h
  refine q_callI X hM h1 h2 h3 h4 h5 hcl hdd hroom hcells hd hnp hrv hcs hP hW hS hl.1 oks okw (hmo _ _ _ _ (fun r w1 hq hlen hok hokw H1 locs1 hP1 hS1 => ?_) hsp)
  refine hk H1 locs1 ls lv _ w1 (hq (by rw [hlen, hW])) hP1 hlen hS1 hl okl ?_ hokw
  have okr : q_oks rest := fun v hv => oks v (List.mem_append.mpr (Or.inr (List.mem_cons_of_mem _ hv)))
  cases r with
  | none => exact okr
  | some v => exact q_oks_c (hok v rfl) okr
theorem sN_pop2 (X : q_X p R s m args meth c cc nL nW fr lo own ret dC dI k g A) (hd : decode cc pc = .ok (.pop2, 1)) (hk : q_SdN nc ns p l e R s m args below meth c nL nW dC dI k g A Qf (pc + 1) (K)) : q_SdN nc ns p l e R s m args below meth c nL nW dC dI k g A Qf (pc) (x_pop2 K) := by
  intro H locs ls lv st w h hP hW hS hl okl oks okw
  obtain ⟨hx, hb, hml, hown, hts, hK, hA, hE, hfr, hlo, hlk, hret, hDg⟩ := X
  unfold x_pop2 at h
  split at h
  · rename_i z r
    exact lv_pop2_2 hx hb hd rfl (hk H locs ls lv _ w h hP hW hS hl okl (q_oks_t oks) okw)
  · exact h.elim
theorem p_callN {γ : qG} {n ci np a : Nat} {rel : Option qV → Prop} {ar : List qV → Prop} {As rest vs : List qV} {w : qW} {lv : qL} (hW : PN γ n w) (hn : As.length + 1 = np) (e : w[a]? = some (.inr (ci, vs))) (hc : (rest.map q_cat).sum ≤ 8) (har : ar (.inr (.inr (some a)) :: As)) (hk : ∀ r w', PN γ n w' → rel r → K lv (q_pi r rest) w') : x_callN ci np (spN n rel ar) K lv (As.reverse ++ .inr (.inr (some a)) :: rest) w :=
  ⟨a, As, rest, vs, rfl, hn, e, hc, γ, hW, har, fun r w' h1 h2 h3 _ => hk r w' h1 h3⟩
theorem p_callM {γ : qG} {n ci np a : Nat} {rel : qG → List qV → Option qV → qG → Prop} {ar : List qV → Prop} {As rest vs : List qV} {w : qW} {lv : qL} (hW : PN γ n w) (hn : As.length + 1 = np) (e : w[a]? = some (.inr (ci, vs))) (hc : (rest.map q_cat).sum ≤ 8) (har : ar (.inr (.inr (some a)) :: As)) (hk : ∀ r γ' w', PN γ' n w' → rel γ (.inr (.inr (some a)) :: As) r γ' → K lv (q_pi r rest) w') : x_callN ci np (spM n ar rel) K lv (As.reverse ++ .inr (.inr (some a)) :: rest) w :=
  ⟨a, As, rest, vs, rfl, hn, e, hc, γ, hW, har, fun r γ' w' h1 h2 h3 _ => hk r γ' w' h1 h3⟩
theorem mN_feC (l : Launch) (n : Nat) : q_M l yX11_feed cX11_feed 6 (some .int) 1 22 (spM n (fun av => ∃ a b cc dd ee : Int, av = [q2 0, q1 a, q1 b, q1 cc, q1 dd, q1 ee]) rlFeC) := q_MM_G (rel := rFeC) n (mL_X11_feed l) fr_FeC
theorem mN_enC (l : Launch) (n : Nat) : q_M l yX11_end cX11_end 2 (some .int) 0 0 (spM n (fun av => ∃ a : Int, av = [q2 0, q1 a]) rlEnC) := q_MM_G (rel := rEnC) n (mL_X11_end l) fr_EnC
theorem mN_feM (l : Launch) (n : Nat) : q_M l yX12_feed cX12_feed 6 (some .int) 1 22 (spM n (fun av => ∃ a b cc dd ee : Int, av = [q2 85, q1 a, q1 b, q1 cc, q1 dd, q1 ee]) rlFeM) := q_MM_G (rel := rFeM) n (mL_X12_feed l) fr_FeM
theorem mN_enM (l : Launch) (n : Nat) : q_M l yX12_end cX12_end 2 (some .int) 1 22 (spM n (fun av => ∃ a : Int, av = [q2 85, q1 a]) rlEnM) := q_MM_G (rel := rEnM) n (mL_X12_end l) fr_EnM
theorem mN_txM (l : Launch) (n : Nat) : q_M l yX12_text cX12_text 4 (some .int) 9 208 (spM n (fun av => ∃ a b : Int, av = [q2 85, q1 a, q1 b]) rlTxM) := q_MM_G (rel := rTxM) n (mL_X12_text l) fr_TxM
theorem mN_agM (l : Launch) (n : Nat) : q_M l yX12_again cX12_again 2 (some .boolean) 2 47 (spM n (fun av => ∃ a : Int, av = [q2 85, q1 a]) rlAgM) := q_MM_G (rel := rAgM) n (mL_X12_again l) fr_AgM
theorem mN_imM (l : Launch) (n : Nat) : q_M l yX12_image cX12_image 2 (some .boolean) 2 47 (spM n (fun av => ∃ a : Int, av = [q2 85, q1 a]) rlImM) := q_MM_G (rel := rImM) n (mL_X12_image l) fr_ImM
theorem mN_faC (l : Launch) (n : Nat) : q_M l yX11_fault cX11_fault 2 (some .int) 0 0 (spM n (fun av => ∃ a : Int, av = [q2 0, q1 a]) rlFaC) := q_MM_V (rel := rFaC) n (mL_X11_fault l)
theorem mN_faM (l : Launch) (n : Nat) : q_M l yX12_fault cX12_fault 2 (some .int) 0 0 (spM n (fun av => ∃ a : Int, av = [q2 85, q1 a]) rlFaM) := q_MM_V (rel := rFaM) n (mL_X12_fault l)
theorem mN_coC (l : Launch) (n : Nat) : q_M l yX11_count cX11_count 2 (some .int) 0 0 (spM n (fun av => ∃ a : Int, av = [q2 0, q1 a]) rlCoC) := q_MM_V (rel := rCoC) n (mL_X11_count l)
theorem mN_coM (l : Launch) (n : Nat) : q_M l yX12_count cX12_count 2 (some .int) 1 22 (spM n (fun av => ∃ a : Int, av = [q2 85, q1 a]) rlCoM) := q_MM_V (rel := rCoM) n (mL_X12_count l)
theorem mN_boC (l : Launch) (n : Nat) : q_M l yX11_borough cX11_borough 4 (some .int) 2 43 (spM n (fun av => ∃ a b : Int, av = [q2 0, q1 a, q1 b]) rlBoC) := q_MM_V (rel := rBoC) n (mL_GX11_borough l)
theorem mN_boM (l : Launch) (n : Nat) : q_M l yX12_borough cX12_borough 4 (some .int) 3 65 (spM n (fun av => ∃ a b : Int, av = [q2 85, q1 a, q1 b]) rlBoM) := q_MM_V (rel := rBoM) n (mL_G12_borough l)
theorem mN_deC (l : Launch) (n : Nat) : q_M l yX11_deed cX11_deed 5 (some .int) 2 43 (spM n (fun av => ∃ a b cc : Int, av = [q2 0, q1 a, q1 b, q1 cc]) rlDeC) := q_MM_V (rel := rDeC) n (mL_GX11_deed l)
theorem mN_deM (l : Launch) (n : Nat) : q_M l yX12_deed cX12_deed 4 (some .int) 3 65 (spM n (fun av => ∃ a b cc : Int, av = [q2 85, q1 a, q1 b, q1 cc]) rlDeM) := q_MM_V (rel := rDeM) n (mL_G12_deed l)
theorem mN_ftC (l : Launch) (n : Nat) : q_M l yX11_fact cX11_fact 5 (some .int) 2 43 (spM n (fun av => ∃ a b cc : Int, av = [q2 0, q1 a, q1 b, q1 cc]) rlFtC) := q_MM_V (rel := rFtC) n (mL_GX11_fact l)
theorem mN_ftM (l : Launch) (n : Nat) : q_M l yX12_fact cX12_fact 4 (some .int) 3 65 (spM n (fun av => ∃ a b cc : Int, av = [q2 85, q1 a, q1 b, q1 cc]) rlFtM) := q_MM_V (rel := rFtM) n (mL_G12_fact l)
theorem mN_elC (l : Launch) (n : Nat) : q_M l yX11_elder cX11_elder 5 (some .int) 3 69 (spM n (fun av => ∃ a b cc : Int, av = [q2 0, q1 a, q1 b, q1 cc]) rlElC) := q_MM_V (rel := rElC) n (mL_GX11_elder l)
theorem mN_elM (l : Launch) (n : Nat) : q_M l yX12_elder cX12_elder 10 (some .int) 3 65 (spM n (fun av => ∃ a b cc : Int, av = [q2 85, q1 a, q1 b, q1 cc]) rlElM) := q_MM_V (rel := rElM) n (mL_G12_elder l)
theorem mN_htC (l : Launch) (n : Nat) : q_M l yX11_hats cX11_hats 4 (some .int) 2 47 (spM n (fun av => ∃ a b : Int, av = [q2 0, q1 a, q1 b]) rlHtC) := q_MM_V (rel := rHtC) n (mL_GX11_hats l)
theorem mN_htM (l : Launch) (n : Nat) : q_M l yX12_hats cX12_hats 7 (some .int) 3 65 (spM n (fun av => ∃ a b : Int, av = [q2 85, q1 a, q1 b]) rlHtM) := q_MM_V (rel := rHtM) n (mL_G12_hats l)
theorem mN_text (l : Launch) (n : Nat) : q_M l yX11_text cX11_text 5 (some .int) 9 198 (spM n (fun av => ∃ a b : Int, av = [q2 0, q1 a, q1 b]) rlTxC) := q_MM_X (rel := rTxC) n (mX_text l) fr_TxC
end QL9
