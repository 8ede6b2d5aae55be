section PL2
/-- the carriers and the mixers of the draft -/
def DrC (mi : MI) (D : List (Nat × Nat)) : Prop := (mi 9 5).toInt = ((D.length : Nat) : Int) ∧ D.length ≤ 10 ∧ ∀ (k : Nat) (d : Nat × Nat), D[k]? = some d → (mi 10 k).toInt = (d.1 : Int) ∧ (mi 11 k).toInt = (d.2 : Int)
def DrM (mi : MI) (M : List Nat) : Prop := (mi 9 8).toInt = ((M.length : Nat) : Int) ∧ M.length ≤ 5 ∧ ∀ k s : Nat, M[k]? = some s → (mi 12 k).toInt = (s : Int)
theorem DrC_a {mi : MI} {D : List (Nat × Nat)} {v w : Nat} {x a b : Int32} (h : DrC mi D) (hl : D.length < 10) (hx : x.toInt = ((D.length : Nat) : Int) + 1) (ha : a.toInt = (v : Int)) (hb : b.toInt = (w : Int)) : DrC (u2 (u2 (u2 (u2 mi 9 5 x) 10 D.length a) 11 D.length b) 9 10 0) (D ++ [(v, w)]) := by
  refine ⟨?_, by rw [List.length_append]; simp only [List.length_cons, List.length_nil]; omega, fun k d hd => ?_⟩
  · rw [u2_n (k' := 5) (Or.inr (by decide)), u2_p (show (9 : Nat) ≠ 11 by decide), u2_p (show (9 : Nat) ≠ 10 by decide), u2_s, List.length_append]
    simp only [List.length_cons, List.length_nil]; omega
  · have r10 : (u2 (u2 (u2 (u2 mi 9 5 x) 10 D.length a) 11 D.length b) 9 10 0) 10 = (u2 (u2 mi 9 5 x) 10 D.length a) 10 := by rw [u2_p (show (10 : Nat) ≠ 9 by decide), u2_p (show (10 : Nat) ≠ 11 by decide)]
    have r11 : (u2 (u2 (u2 (u2 mi 9 5 x) 10 D.length a) 11 D.length b) 9 10 0) 11 = (u2 (u2 (u2 mi 9 5 x) 10 D.length a) 11 D.length b) 11 := u2_p (show (11 : Nat) ≠ 9 by decide)
    rw [r10, r11]
    rcases Nat.lt_or_ge k D.length with q | q
    · rw [List.getElem?_append_left q] at hd
      have e10 : (u2 (u2 mi 9 5 x) 10 D.length a) 10 k = mi 10 k := (u2_n (Or.inr (by omega))).trans (congrFun (u2_p (show (10 : Nat) ≠ 9 by decide)) k)
      have e11 : (u2 (u2 (u2 mi 9 5 x) 10 D.length a) 11 D.length b) 11 k = mi 11 k := (u2_n (Or.inr (by omega))).trans ((congrFun (u2_p (show (11 : Nat) ≠ 10 by decide)) k).trans (congrFun (u2_p (show (11 : Nat) ≠ 9 by decide)) k))
      rw [e10, e11]
      exact h.2.2 k d hd
    · rw [List.getElem?_append_right q] at hd
      have h1 : k - D.length < 1 := (List.getElem?_eq_some_iff.mp hd).1
      obtain rfl : k = D.length := by omega
      rw [Nat.sub_self] at hd
      cases hd
      rw [u2_s, u2_s]
      exact ⟨ha, hb⟩
theorem DrM_a {mi : MI} {M : List Nat} {s : Nat} {x a : Int32} (h : DrM mi M) (hl : M.length < 5) (hx : x.toInt = ((M.length : Nat) : Int) + 1) (ha : a.toInt = (s : Int)) : DrM (u2 (u2 (u2 mi 9 8 x) 12 M.length a) 9 10 0) (M ++ [s]) := by
  refine ⟨?_, by rw [List.length_append]; simp only [List.length_cons, List.length_nil]; omega, fun k d hd => ?_⟩
  · rw [u2_n (k' := 8) (Or.inr (by decide)), u2_p (show (9 : Nat) ≠ 12 by decide), u2_s, List.length_append]
    simp only [List.length_cons, List.length_nil]; omega
  · rw [u2_p (show (12 : Nat) ≠ 9 by decide)]
    rcases Nat.lt_or_ge k M.length with q | q
    · rw [List.getElem?_append_left q] at hd
      rw [u2_n (Or.inr (by omega)), u2_p (show (12 : Nat) ≠ 9 by decide)]
      exact h.2.2 k d hd
    · rw [List.getElem?_append_right q] at hd
      have h1 : k - M.length < 1 := (List.getElem?_eq_some_iff.mp hd).1
      obtain rfl : k = M.length := by omega
      rw [Nat.sub_self] at hd
      cases hd
      rw [u2_s]
      exact ha
theorem DrC.c {mi mj : MI} {D : List (Nat × Nat)} (h : DrC mi D) (e5 : mj 9 5 = mi 9 5) (e1 : mj 10 = mi 10) (e2 : mj 11 = mi 11) : DrC mj D := by unfold DrC at h ⊢; rw [e5, e1, e2]; exact h
theorem DrM.c {mi mj : MI} {M : List Nat} (h : DrM mi M) (e8 : mj 9 8 = mi 9 8) (e1 : mj 12 = mi 12) : DrM mj M := by unfold DrM at h ⊢; rw [e8, e1]; exact h
/-- a carrier of the text with its end -/
noncomputable def cIt (t : Nat → Int) (D : List (Nat × Nat)) (p : Nat) : Sum Nat (List (Nat × Nat) × Nat) := match pcS t D p with | .inl e => .inl e | .inr (D9, q) => ifp (t q = 59) (.inr (D9, q + 1)) (.inl q)
theorem ci_l {t : Nat → Int} {D : List (Nat × Nat)} {p e : Nat} (h : pcS t D p = .inl e) : cIt t D p = .inl e := by unfold cIt; rw [h]
theorem ci_n {t : Nat → Int} {D D9 : List (Nat × Nat)} {p q : Nat} (h : pcS t D p = .inr (D9, q)) (h2 : t q ≠ 59) : cIt t D p = .inl q := by unfold cIt; rw [h]; simp only [ifp_f h2]
theorem ci_y {t : Nat → Int} {D D9 : List (Nat × Nat)} {p q : Nat} (h : pcS t D p = .inr (D9, q)) (h2 : t q = 59) : cIt t D p = .inr (D9, q + 1) := by unfold cIt; rw [h]; simp only [ifp_t h2]
theorem tk_l {mi mj : MI} {D : List (Nat × Nat)} {v : Nat} {x r : Int32} (h : DrC mi D) (hj : mj 10 = mi 10) (hx : x.toInt = (v : Int)) (hr : (∃ j : Nat, j < D.length ∧ r.toInt = (j : Int) ∧ mj (9 + 1) j = x) ∨ (r = -1 ∧ ∀ j, j < D.length → mj (9 + 1) j ≠ x)) (c : r.toInt ≠ -1) : ∃ d, d ∈ D ∧ d.1 = v := by
  rcases hr with ⟨j, h1, _, h3⟩ | ⟨h1, _⟩
  · have hd : D[j]? = some D[j] := List.getElem?_eq_getElem h1
    have h4 := (h.2.2 j _ hd).1
    refine ⟨D[j], List.mem_of_getElem? hd, ?_⟩
    rw [show mj (9 + 1) j = mi 10 j from congrFun hj j] at h3
    rw [h3] at h4; omega
  · exact absurd (by rw [h1]; rfl) c
theorem tk_k {mi mj : MI} {D : List (Nat × Nat)} {v : Nat} {x r : Int32} (h : DrC mi D) (hj : mj 10 = mi 10) (hx : x.toInt = (v : Int)) (hr : (∃ j : Nat, j < D.length ∧ r.toInt = (j : Int) ∧ mj (9 + 1) j = x) ∨ (r = -1 ∧ ∀ j, j < D.length → mj (9 + 1) j ≠ x)) (c : r.toInt = -1) (h64 : v < 64) : ¬ (63 < v ∨ ∃ d, d ∈ D ∧ d.1 = v) := by
  rintro (q | ⟨d, hd, hv⟩)
  · omega
  · obtain ⟨j, hj1, hj2⟩ := List.getElem_of_mem hd
    have hd2 : D[j]? = some d := by rw [List.getElem?_eq_getElem hj1, hj2]
    have h4 := (h.2.2 j d hd2).1
    rcases hr with ⟨k, _, h2, _⟩ | ⟨_, h2⟩
    · omega
    · refine h2 j hj1 ((congrFun hj j).trans (Int32.toInt_inj.mp ?_))
      rw [h4, hx, hv]
theorem c_X4_refuseNumberIfb (l : Launch) (hfl : l.stackTraces = false) (mi : MI) (ml : MJ) (x : Int32) (P : Prop) (hx : x = bI P) (q e : Int) (hq : (mi 58 3).toInt = q) (he : (mi 58 4).toInt = e) : Ct l yX4_refuseNumberIf (.code yX4_refuseNumberIf cX4_refuseNumberIf 2 none) 0 0 0 [.ref 58, .int x] (wl mi ml) (QV (fun mi9 ml9 => ml = ml9 ∧ Fr [58] mi mi9 ∧ (∀ k, k ≠ 4 → mi9 58 k = mi 58 k) ∧ ((e = -1 ∧ P ∧ (mi9 58 4).toInt = q) ∨ (¬ (e = -1 ∧ P) ∧ (mi9 58 4).toInt = e)))) noX := by
  subst hx
  exact c_X4_refuseNumberIf l hfl mi ml _ P rfl q e hq he
theorem ex_e {A B C : Prop} {e x : Int} (h : (e ≠ -1 ∧ x = e ∧ C) ∨ (e = -1 ∧ A) ∨ (e = -1 ∧ B)) (he : e ≠ -1) : x = e ∧ C := by
  rcases h with h | h | h
  · exact h.2
  · exact absurd h.1 he
  · exact absurd h.1 he
set_option maxHeartbeats 1600000 in
set_option maxRecDepth 100000 in
theorem c_X4_readCarrier (l : Launch) (hfl : l.stackTraces = false) (mi : MI) (ml : MJ) (N : Nat) (hN : (mi 58 1).toInt = (N : Int)) (hN2 : N ≤ 120) (D : List (Nat × Nat)) (hDc : DrC mi D) (p : Nat) (hlt : D.length < 10) (hp : (mi 58 2).toInt = ((p + 1 : Nat) : Int)) (hpN : p < N) (he : (mi 58 4).toInt = -1) : Ct l yX4_readCarrier (.code yX4_readCarrier cX4_readCarrier 4 none) 3 0 0 [.ref 58, .ref 9] (wl mi ml) (QV (fun mi9 ml9 => ml = ml9 ∧ Fr [58, 9, 10, 11] mi mi9 ∧ mi9 58 1 = mi 58 1 ∧ (∀ k, k ≠ 5 → k ≠ 10 → mi9 9 k = mi 9 k) ∧ ((∃ e : Nat, cIt (tX (mi 59) N) D p = .inl e ∧ (mi9 58 4).toInt = (e : Int)) ∨ (∃ (D9 : List (Nat × Nat)) (q : Nat), cIt (tX (mi 59) N) D p = .inr (D9, q) ∧ (mi9 58 4).toInt = -1 ∧ (mi9 58 2).toInt = (q : Int) ∧ DrC mi9 D9 ∧ mi9 9 10 = 0 ∧ q ≤ N)))) noX := by
  refine Ct_of (ini := false) pn_X4 hfl (fun h => nomatch h) (Nat.le_of_ble_eq_true rfl) ?_
  show E l RX4 cX4_readCarrier 4 none false [] (rmE 3 0 0) (wl mi ml) (TgM (wl mi ml) 0 0 (QV (fun mi9 ml9 => ml = ml9 ∧ Fr [58, 9, 10, 11] mi mi9 ∧ mi9 58 1 = mi 58 1 ∧ (∀ k, k ≠ 5 → k ≠ 10 → mi9 9 k = mi 9 k) ∧ ((∃ e : Nat, cIt (tX (mi 59) N) D p = .inl e ∧ (mi9 58 4).toInt = (e : Int)) ∨ (∃ (D9 : List (Nat × Nat)) (q : Nat), cIt (tX (mi 59) N) D p = .inr (D9, q) ∧ (mi9 58 4).toInt = -1 ∧ (mi9 58 2).toInt = (q : Int) ∧ DrC mi9 D9 ∧ mi9 9 10 = 0 ∧ q ≤ N)))) noX) 0 0 0 [(0, .ref 58), (1, .ref 9)] [] (wl mi ml)
  have hDl : ¬ D.length = 10 := by omega
  refine E_aload_n 0 dX4_readCarrier_0 rfl rfl ?_
  refine E_callV (c_X4_readNumber l hfl mi ml N hN hN2 (p + 1) (hp.trans (by omega)) (by omega) he) cw_X4_47 (As := []) (st := []) wi_yX4_readNumber we_yX4_readNumber (ci := 4) (q := (RX4, TX4, 5)) rfl rfl (wl_atO tw_58) rfl ⟨Nat.le_of_ble_eq_true rfl, Nat.le_of_ble_eq_true rfl, Nat.le_of_ble_eq_true rfl, Nat.le_of_ble_eq_true rfl⟩ (Nat.le_of_ble_eq_true rfl) dX4_readCarrier_1 (fun _ _ h => h) rfl (kI (fun r_1 mi_1 ml_1 h_1 => ?_))
  obtain ⟨rfl, hv_1, hn_1⟩ := h_1
  obtain ⟨v1, ev1⟩ : ∃ v, v = rdV (tX (mi 59) N) (p + 1) (rdI (tX (mi 59) N) (p + 1)) := ⟨_, rfl⟩
  obtain ⟨q1, eq1⟩ : ∃ q, q = (p + 1) + rdI (tX (mi 59) N) (p + 1) := ⟨_, rfl⟩
  rw [← ev1] at hv_1
  rw [← eq1] at hn_1
  have hle_1 := rdI_N (row := mi 59) (N := N) (p := (p + 1)) (by omega)
  refine E_istore_n [(2, .int r_1), (0, .ref 58), (1, .ref 9)] dX4_readCarrier_4 rfl (by decide) rfl ?_
  rcases hn_1 with ⟨ho1, hP1⟩ | ⟨ho1, hP1⟩
  · skip
    refine E_aload_n 1 dX4_readCarrier_5 rfl rfl ?_
    refine E_iload_n 0 dX4_readCarrier_6 rfl rfl ?_
    refine E_callSN (c_X5_isChannel l hfl mi_1 ml r_1 (v1 : Int) hv_1) cw_X4_51 (As := [.int r_1]) (st := [.ref 58]) ws_yX5_isChannel rfl ⟨Nat.le_of_ble_eq_true rfl, Nat.le_of_ble_eq_true rfl, Nat.le_of_ble_eq_true rfl, Nat.le_of_ble_eq_true rfl⟩ (Nat.le_of_ble_eq_true rfl) dX4_readCarrier_7 (fun _ _ h => h) rfl (kE ?_)
    refine B_eq 22 dX4_readCarrier_10 (by decide) (fun c_10 => ?_) (fun c_10 => ?_)
    · skip
      refine E_iconst 1 (by decide) dX4_readCarrier_22 ?_
      refine E_goto 27 dX4_readCarrier_23 (by decide) ?_
      refine E_callV (c_X4_refuseNumberIfb l hfl mi_1 ml (1 : Int32) True (show (1 : Int32) = bI True from b1 trivial) (((p + 1) : Nat) : Int) (-1) hP1.2.2.2.1 hP1.2.2.2.2) cw_X4_58 (As := [.int 1]) (st := []) wi_yX4_refuseNumberIf we_yX4_refuseNumberIf (ci := 4) (q := (RX4, TX4, 5)) rfl rfl (wl_atO tw_58) rfl ⟨Nat.le_of_ble_eq_true rfl, Nat.le_of_ble_eq_true rfl, Nat.le_of_ble_eq_true rfl, Nat.le_of_ble_eq_true rfl⟩ (Nat.le_of_ble_eq_true rfl) dX4_readCarrier_27 (fun _ _ h => h) rfl (kV (fun mi_27 ml_27 h_27 => ?_))
      obtain ⟨rfl, h_27⟩ := h_27
      refine E_aload_n 1 dX4_readCarrier_30 rfl rfl ?_
      refine E_bipush 44 (by decide) dX4_readCarrier_31 ?_
      refine E_callV (c_X4_expect l hfl mi_27 ml N ((congrArg Int32.toInt ((h_27.2.1 1 (by decide)).trans (hP1.2.1))).trans hN) hN2 q1 (((congrArg Int32.toInt (h_27.2.1 2 (by decide))).trans hP1.2.2.1).trans (by omega)) (by omega) 44 44 (((p + 1) : Nat) : Int) (show (44 : Int32).toInt = 44 from rfl) ((h_27.2.2.resolve_right (fun z => z.1 ⟨rfl, trivial⟩)).2.2)) cw_X4_62 (As := [.int 44]) (st := []) wi_yX4_expect we_yX4_expect (ci := 4) (q := (RX4, TX4, 5)) rfl rfl (wl_atO tw_58) rfl ⟨Nat.le_of_ble_eq_true rfl, Nat.le_of_ble_eq_true rfl, Nat.le_of_ble_eq_true rfl, Nat.le_of_ble_eq_true rfl⟩ (Nat.le_of_ble_eq_true rfl) dX4_readCarrier_33 (fun _ _ h => h) rfl (kV (fun mi_33 ml_33 h_33 => ?_))
      obtain ⟨rfl, hF_33, hk_33, hx_33⟩ := h_33
      rw [show mi_27 59 = mi 59 from ((h_27.1 59 (by decide)).trans (hP1.1 59 (by decide)))] at hx_33
      refine E_aload_n 1 dX4_readCarrier_36 rfl rfl ?_
      refine E_callV (c_X4_readNumberE l hfl mi_33 ml (fun z => absurd ((ex_e hx_33 (by omega)).1.symm.trans z) (by omega))) cw_X4_47 (As := []) (st := []) wi_yX4_readNumber we_yX4_readNumber (ci := 4) (q := (RX4, TX4, 5)) rfl rfl (wl_atO tw_58) rfl ⟨Nat.le_of_ble_eq_true rfl, Nat.le_of_ble_eq_true rfl, Nat.le_of_ble_eq_true rfl, Nat.le_of_ble_eq_true rfl⟩ (Nat.le_of_ble_eq_true rfl) dX4_readCarrier_37 (fun _ _ h => h) rfl (kE ?_)
      refine E_istore_n [(3, .int 0), (2, .int r_1), (0, .ref 58), (1, .ref 9)] dX4_readCarrier_40 rfl (by decide) rfl ?_
      refine E_aload_n 2 dX4_readCarrier_41 rfl rfl ?_
      refine E_iload_n 0 dX4_readCarrier_42 rfl rfl ?_
      refine E_callSN (c_X5_isLevel l hfl mi_33 ml 0 0 (show (0 : Int32).toInt = 0 from rfl)) cw_X4_66 (As := [.int 0]) (st := [.ref 58]) ws_yX5_isLevel rfl ⟨Nat.le_of_ble_eq_true rfl, Nat.le_of_ble_eq_true rfl, Nat.le_of_ble_eq_true rfl, Nat.le_of_ble_eq_true rfl⟩ (Nat.le_of_ble_eq_true rfl) dX4_readCarrier_43 (fun _ _ h => h) rfl (kE ?_)
      refine B_ne 53 dX4_readCarrier_46 (by decide) (fun c_46 => ?_) (fun c_46 => ?_)
      · skip
        refine E_iconst 0 (by decide) dX4_readCarrier_53 ?_
        refine E_callV (c_X4_refuseNumberIfb l hfl mi_33 ml (0 : Int32) False (show (0 : Int32) = bI False from b0 not_false) (((p + 1) : Nat) : Int) (((p + 1) : Nat) : Int) ((congrArg Int32.toInt ((hk_33 3 (by decide) (by decide)).trans (h_27.2.1 3 (by decide)))).trans hP1.2.2.2.1) ((ex_e hx_33 (by omega)).1)) cw_X4_58 (As := [.int 0]) (st := []) wi_yX4_refuseNumberIf we_yX4_refuseNumberIf (ci := 4) (q := (RX4, TX4, 5)) rfl rfl (wl_atO tw_58) rfl ⟨Nat.le_of_ble_eq_true rfl, Nat.le_of_ble_eq_true rfl, Nat.le_of_ble_eq_true rfl, Nat.le_of_ble_eq_true rfl⟩ (Nat.le_of_ble_eq_true rfl) dX4_readCarrier_54 (fun _ _ h => h) rfl (kV (fun mi_54 ml_54 h_54 => ?_))
        obtain ⟨rfl, h_54⟩ := h_54
        refine E_aload_n 2 dX4_readCarrier_57 rfl rfl ?_
        refine E_bipush 59 (by decide) dX4_readCarrier_58 ?_
        refine E_callV (c_X4_expect l hfl mi_54 ml N ((congrArg Int32.toInt ((h_54.2.1 1 (by decide)).trans ((hk_33 1 (by decide) (by decide)).trans ((h_27.2.1 1 (by decide)).trans (hP1.2.1))))).trans hN) hN2 q1 (((congrArg Int32.toInt ((h_54.2.1 2 (by decide)).trans ((ex_e hx_33 (by omega)).2.trans (h_27.2.1 2 (by decide))))).trans hP1.2.2.1).trans (by omega)) (by omega) 59 59 (((p + 1) : Nat) : Int) (show (59 : Int32).toInt = 59 from rfl) ((h_54.2.2.resolve_left (fun z => absurd z.1 (by omega))).2)) cw_X4_62 (As := [.int 59]) (st := []) wi_yX4_expect we_yX4_expect (ci := 4) (q := (RX4, TX4, 5)) rfl rfl (wl_atO tw_58) rfl ⟨Nat.le_of_ble_eq_true rfl, Nat.le_of_ble_eq_true rfl, Nat.le_of_ble_eq_true rfl, Nat.le_of_ble_eq_true rfl⟩ (Nat.le_of_ble_eq_true rfl) dX4_readCarrier_60 (fun _ _ h => h) rfl (kV (fun mi_60 ml_60 h_60 => ?_))
        obtain ⟨rfl, hF_60, hk_60, hx_60⟩ := h_60
        rw [show mi_54 59 = mi 59 from ((h_54.1 59 (by decide)).trans ((hF_33 59 (by decide)).trans ((h_27.1 59 (by decide)).trans (hP1.1 59 (by decide)))))] at hx_60
        refine E_aload_n 2 dX4_readCarrier_63 rfl rfl ?_
        refine gf_X4_22 (mi_60 58 4) tw_58 rfl rfl dX4_readCarrier_64 ?_
        refine E_iconst (-1) (by decide) dX4_readCarrier_67 ?_
        refine Z_ne (((p + 1) : Nat) : Int) (-1) (ex_e hx_60 (by omega)).1 (show ((-1) : Int32).toInt = (-1) from rfl) 77 dX4_readCarrier_68 (by decide) (fun c_68 => ?_) (fun c_68 => ?_)
        · skip
          refine E_vret rfl (Nat.le_of_ble_eq_true rfl) (Nat.le_of_ble_eq_true rfl) dX4_readCarrier_77 ?_
          exact okQV ⟨rfl, Fr.w (Fr.trans (Fr.trans (Fr.trans (Fr.trans hP1.1 h_27.1 (fun _ h => h) (fun _ h => h)) hF_33 (fun _ h => h) (fun _ h => h)) h_54.1 (fun _ h => h) (fun _ h => h)) hF_60 (fun _ h => h) (fun _ h => h)) (by decide), ((hk_60 1 (by decide) (by decide)).trans ((h_54.2.1 1 (by decide)).trans ((hk_33 1 (by decide) (by decide)).trans ((h_27.2.1 1 (by decide)).trans (hP1.2.1))))), fun k _ _ => congrFun ((hF_60 9 (by decide)).trans ((h_54.1 9 (by decide)).trans ((hF_33 9 (by decide)).trans ((h_27.1 9 (by decide)).trans (hP1.1 9 (by decide)))))) k, Or.inl ⟨(p + 1), ci_l (pc_3 hDl eq1 ev1 ho1 (Or.inl (by omega))), (ex_e hx_60 (by omega)).1.trans (by omega)⟩⟩
        · skip
          refine E_aload_n 3 dX4_readCarrier_71 rfl rfl ?_
          refine E_iload_n 1 dX4_readCarrier_72 rfl rfl ?_
          refine E_iload_n 0 dX4_readCarrier_73 rfl rfl ?_
          refine E_callV (c_X1_putCarrier l hfl 9 isD_9 mi_60 ml r_1 0 D.length (((congrArg Int32.toInt ((congrFun (hF_60 9 (by decide)) 5).trans ((congrFun (h_54.1 9 (by decide)) 5).trans ((congrFun (hF_33 9 (by decide)) 5).trans ((congrFun (h_27.1 9 (by decide)) 5).trans (congrFun (hP1.1 9 (by decide)) 5)))))).trans hDc.1).trans (by omega)) (by omega) (by omega)) cw_X4_69 (As := [.int r_1, .int 0]) (st := []) wi_yX1_putCarrier we_yX1_putCarrier (ci := 1) (q := (RX1, TX1, 15)) rfl rfl (wl_atO isD_9.t) rfl ⟨Nat.le_of_ble_eq_true rfl, Nat.le_of_ble_eq_true rfl, Nat.le_of_ble_eq_true rfl, Nat.le_of_ble_eq_true rfl⟩ (Nat.le_of_ble_eq_true rfl) dX4_readCarrier_74 (fun _ _ h => h) rfl (kE0 ?_)
          rw [show (mi_60 9 5) = (mi 9 5) from ((congrFun (hF_60 9 (by decide)) 5).trans ((congrFun (h_54.1 9 (by decide)) 5).trans ((congrFun (hF_33 9 (by decide)) 5).trans ((congrFun (h_27.1 9 (by decide)) 5).trans (congrFun (hP1.1 9 (by decide)) 5)))))]
          refine E_vret rfl (Nat.le_of_ble_eq_true rfl) (Nat.le_of_ble_eq_true rfl) dX4_readCarrier_77 ?_
          exact absurd c_68 (by omega)
      · skip
        refine E_iconst 1 (by decide) dX4_readCarrier_49 ?_
        refine E_goto 54 dX4_readCarrier_50 (by decide) ?_
        refine E_callV (c_X4_refuseNumberIfb l hfl mi_33 ml (1 : Int32) True (show (1 : Int32) = bI True from b1 trivial) (((p + 1) : Nat) : Int) (((p + 1) : Nat) : Int) ((congrArg Int32.toInt ((hk_33 3 (by decide) (by decide)).trans (h_27.2.1 3 (by decide)))).trans hP1.2.2.2.1) ((ex_e hx_33 (by omega)).1)) cw_X4_58 (As := [.int 1]) (st := []) wi_yX4_refuseNumberIf we_yX4_refuseNumberIf (ci := 4) (q := (RX4, TX4, 5)) rfl rfl (wl_atO tw_58) rfl ⟨Nat.le_of_ble_eq_true rfl, Nat.le_of_ble_eq_true rfl, Nat.le_of_ble_eq_true rfl, Nat.le_of_ble_eq_true rfl⟩ (Nat.le_of_ble_eq_true rfl) dX4_readCarrier_54 (fun _ _ h => h) rfl (kV (fun mi_54 ml_54 h_54 => ?_))
        obtain ⟨rfl, h_54⟩ := h_54
        refine E_aload_n 2 dX4_readCarrier_57 rfl rfl ?_
        refine E_bipush 59 (by decide) dX4_readCarrier_58 ?_
        refine E_callV (c_X4_expect l hfl mi_54 ml N ((congrArg Int32.toInt ((h_54.2.1 1 (by decide)).trans ((hk_33 1 (by decide) (by decide)).trans ((h_27.2.1 1 (by decide)).trans (hP1.2.1))))).trans hN) hN2 q1 (((congrArg Int32.toInt ((h_54.2.1 2 (by decide)).trans ((ex_e hx_33 (by omega)).2.trans (h_27.2.1 2 (by decide))))).trans hP1.2.2.1).trans (by omega)) (by omega) 59 59 (((p + 1) : Nat) : Int) (show (59 : Int32).toInt = 59 from rfl) ((h_54.2.2.resolve_left (fun z => absurd z.1 (by omega))).2)) cw_X4_62 (As := [.int 59]) (st := []) wi_yX4_expect we_yX4_expect (ci := 4) (q := (RX4, TX4, 5)) rfl rfl (wl_atO tw_58) rfl ⟨Nat.le_of_ble_eq_true rfl, Nat.le_of_ble_eq_true rfl, Nat.le_of_ble_eq_true rfl, Nat.le_of_ble_eq_true rfl⟩ (Nat.le_of_ble_eq_true rfl) dX4_readCarrier_60 (fun _ _ h => h) rfl (kV (fun mi_60 ml_60 h_60 => ?_))
        obtain ⟨rfl, hF_60, hk_60, hx_60⟩ := h_60
        rw [show mi_54 59 = mi 59 from ((h_54.1 59 (by decide)).trans ((hF_33 59 (by decide)).trans ((h_27.1 59 (by decide)).trans (hP1.1 59 (by decide)))))] at hx_60
        refine E_aload_n 2 dX4_readCarrier_63 rfl rfl ?_
        refine gf_X4_22 (mi_60 58 4) tw_58 rfl rfl dX4_readCarrier_64 ?_
        refine E_iconst (-1) (by decide) dX4_readCarrier_67 ?_
        refine Z_ne (((p + 1) : Nat) : Int) (-1) (ex_e hx_60 (by omega)).1 (show ((-1) : Int32).toInt = (-1) from rfl) 77 dX4_readCarrier_68 (by decide) (fun c_68 => ?_) (fun c_68 => ?_)
        · skip
          refine E_vret rfl (Nat.le_of_ble_eq_true rfl) (Nat.le_of_ble_eq_true rfl) dX4_readCarrier_77 ?_
          exact okQV ⟨rfl, Fr.w (Fr.trans (Fr.trans (Fr.trans (Fr.trans hP1.1 h_27.1 (fun _ h => h) (fun _ h => h)) hF_33 (fun _ h => h) (fun _ h => h)) h_54.1 (fun _ h => h) (fun _ h => h)) hF_60 (fun _ h => h) (fun _ h => h)) (by decide), ((hk_60 1 (by decide) (by decide)).trans ((h_54.2.1 1 (by decide)).trans ((hk_33 1 (by decide) (by decide)).trans ((h_27.2.1 1 (by decide)).trans (hP1.2.1))))), fun k _ _ => congrFun ((hF_60 9 (by decide)).trans ((h_54.1 9 (by decide)).trans ((hF_33 9 (by decide)).trans ((h_27.1 9 (by decide)).trans (hP1.1 9 (by decide)))))) k, Or.inl ⟨(p + 1), ci_l (pc_3 hDl eq1 ev1 ho1 (Or.inl (by omega))), (ex_e hx_60 (by omega)).1.trans (by omega)⟩⟩
        · skip
          refine E_aload_n 3 dX4_readCarrier_71 rfl rfl ?_
          refine E_iload_n 1 dX4_readCarrier_72 rfl rfl ?_
          refine E_iload_n 0 dX4_readCarrier_73 rfl rfl ?_
          refine E_callV (c_X1_putCarrier l hfl 9 isD_9 mi_60 ml r_1 0 D.length (((congrArg Int32.toInt ((congrFun (hF_60 9 (by decide)) 5).trans ((congrFun (h_54.1 9 (by decide)) 5).trans ((congrFun (hF_33 9 (by decide)) 5).trans ((congrFun (h_27.1 9 (by decide)) 5).trans (congrFun (hP1.1 9 (by decide)) 5)))))).trans hDc.1).trans (by omega)) (by omega) (by omega)) cw_X4_69 (As := [.int r_1, .int 0]) (st := []) wi_yX1_putCarrier we_yX1_putCarrier (ci := 1) (q := (RX1, TX1, 15)) rfl rfl (wl_atO isD_9.t) rfl ⟨Nat.le_of_ble_eq_true rfl, Nat.le_of_ble_eq_true rfl, Nat.le_of_ble_eq_true rfl, Nat.le_of_ble_eq_true rfl⟩ (Nat.le_of_ble_eq_true rfl) dX4_readCarrier_74 (fun _ _ h => h) rfl (kE0 ?_)
          rw [show (mi_60 9 5) = (mi 9 5) from ((congrFun (hF_60 9 (by decide)) 5).trans ((congrFun (h_54.1 9 (by decide)) 5).trans ((congrFun (hF_33 9 (by decide)) 5).trans ((congrFun (h_27.1 9 (by decide)) 5).trans (congrFun (hP1.1 9 (by decide)) 5)))))]
          refine E_vret rfl (Nat.le_of_ble_eq_true rfl) (Nat.le_of_ble_eq_true rfl) dX4_readCarrier_77 ?_
          exact absurd c_68 (by omega)
    · skip
      refine E_aload_n 2 dX4_readCarrier_13 rfl rfl ?_
      refine E_iload_n 0 dX4_readCarrier_14 rfl rfl ?_
      refine E_callV (c_X1_carrierOn l hfl 9 isD_9 mi_1 ml r_1 D.length (((congrArg Int32.toInt (congrFun (hP1.1 9 (by decide)) 5)).trans hDc.1).trans (by omega)) (by omega)) cw_X4_55 (As := [.int r_1]) (st := [.ref 58]) wi_yX1_carrierOn we_yX1_carrierOn (ci := 1) (q := (RX1, TX1, 15)) rfl rfl (wl_atO isD_9.t) rfl ⟨Nat.le_of_ble_eq_true rfl, Nat.le_of_ble_eq_true rfl, Nat.le_of_ble_eq_true rfl, Nat.le_of_ble_eq_true rfl⟩ (Nat.le_of_ble_eq_true rfl) dX4_readCarrier_15 (fun _ _ h => h) rfl (kI (fun r_15 mi_15 ml_15 h_15 => ?_))
      obtain ⟨rfl, rfl, h_15⟩ := h_15
      refine E_iconst (-1) (by decide) dX4_readCarrier_18 ?_
      refine Z_eq r_15.toInt (-1) rfl (show ((-1) : Int32).toInt = (-1) from rfl) 26 dX4_readCarrier_19 (by decide) (fun c_19 => ?_) (fun c_19 => ?_)
      · skip
        refine E_iconst 0 (by decide) dX4_readCarrier_26 ?_
        refine E_callV (c_X4_refuseNumberIfb l hfl mi_1 ml (0 : Int32) False (show (0 : Int32) = bI False from b0 not_false) (((p + 1) : Nat) : Int) (-1) hP1.2.2.2.1 hP1.2.2.2.2) cw_X4_58 (As := [.int 0]) (st := []) wi_yX4_refuseNumberIf we_yX4_refuseNumberIf (ci := 4) (q := (RX4, TX4, 5)) rfl rfl (wl_atO tw_58) rfl ⟨Nat.le_of_ble_eq_true rfl, Nat.le_of_ble_eq_true rfl, Nat.le_of_ble_eq_true rfl, Nat.le_of_ble_eq_true rfl⟩ (Nat.le_of_ble_eq_true rfl) dX4_readCarrier_27 (fun _ _ h => h) rfl (kV (fun mi_27 ml_27 h_27 => ?_))
        obtain ⟨rfl, h_27⟩ := h_27
        refine E_aload_n 1 dX4_readCarrier_30 rfl rfl ?_
        refine E_bipush 44 (by decide) dX4_readCarrier_31 ?_
        refine E_callV (c_X4_expect l hfl mi_27 ml N ((congrArg Int32.toInt ((h_27.2.1 1 (by decide)).trans (hP1.2.1))).trans hN) hN2 q1 (((congrArg Int32.toInt (h_27.2.1 2 (by decide))).trans hP1.2.2.1).trans (by omega)) (by omega) 44 44 (-1) (show (44 : Int32).toInt = 44 from rfl) ((h_27.2.2.resolve_left (fun z => z.2.1)).2)) cw_X4_62 (As := [.int 44]) (st := []) wi_yX4_expect we_yX4_expect (ci := 4) (q := (RX4, TX4, 5)) rfl rfl (wl_atO tw_58) rfl ⟨Nat.le_of_ble_eq_true rfl, Nat.le_of_ble_eq_true rfl, Nat.le_of_ble_eq_true rfl, Nat.le_of_ble_eq_true rfl⟩ (Nat.le_of_ble_eq_true rfl) dX4_readCarrier_33 (fun _ _ h => h) rfl (kV (fun mi_33 ml_33 h_33 => ?_))
        obtain ⟨rfl, hF_33, hk_33, hx_33⟩ := h_33
        rw [show mi_27 59 = mi 59 from ((h_27.1 59 (by decide)).trans (hP1.1 59 (by decide)))] at hx_33
        rcases hx_33.resolve_left (fun z => z.1 rfl) with hx33 | hx33
        · skip
          have ht33 := tX_lt (row := mi 59) (N := N) (p := q1) (by rw [hx33.2.1]; decide)
          refine E_aload_n 1 dX4_readCarrier_36 rfl rfl ?_
          refine E_callV (c_X4_readNumber l hfl mi_33 ml N ((congrArg Int32.toInt ((hk_33 1 (by decide) (by decide)).trans ((h_27.2.1 1 (by decide)).trans (hP1.2.1)))).trans hN) hN2 (q1 + 1) (hx33.2.2.2.trans (by omega)) (by omega) hx33.2.2.1) cw_X4_47 (As := []) (st := []) wi_yX4_readNumber we_yX4_readNumber (ci := 4) (q := (RX4, TX4, 5)) rfl rfl (wl_atO tw_58) rfl ⟨Nat.le_of_ble_eq_true rfl, Nat.le_of_ble_eq_true rfl, Nat.le_of_ble_eq_true rfl, Nat.le_of_ble_eq_true rfl⟩ (Nat.le_of_ble_eq_true rfl) dX4_readCarrier_37 (fun _ _ h => h) rfl (kI (fun r_37 mi_37 ml_37 h_37 => ?_))
          obtain ⟨rfl, hv_37, hn_37⟩ := h_37
          rw [show mi_33 59 = mi 59 from ((hF_33 59 (by decide)).trans ((h_27.1 59 (by decide)).trans (hP1.1 59 (by decide))))] at hv_37 hn_37
          obtain ⟨v37, ev37⟩ : ∃ v, v = rdV (tX (mi 59) N) (q1 + 1) (rdI (tX (mi 59) N) (q1 + 1)) := ⟨_, rfl⟩
          obtain ⟨q37, eq37⟩ : ∃ q, q = (q1 + 1) + rdI (tX (mi 59) N) (q1 + 1) := ⟨_, rfl⟩
          rw [← ev37] at hv_37
          rw [← eq37] at hn_37
          have hle_37 := rdI_N (row := mi 59) (N := N) (p := (q1 + 1)) (by omega)
          refine E_istore_n [(3, .int r_37), (2, .int r_1), (0, .ref 58), (1, .ref 9)] dX4_readCarrier_40 rfl (by decide) rfl ?_
          rcases hn_37 with ⟨ho37, hP37⟩ | ⟨ho37, hP37⟩
          · skip
            refine E_aload_n 2 dX4_readCarrier_41 rfl rfl ?_
            refine E_iload_n 0 dX4_readCarrier_42 rfl rfl ?_
            refine E_callSN (c_X5_isLevel l hfl mi_37 ml r_37 (v37 : Int) hv_37) cw_X4_66 (As := [.int r_37]) (st := [.ref 58]) ws_yX5_isLevel rfl ⟨Nat.le_of_ble_eq_true rfl, Nat.le_of_ble_eq_true rfl, Nat.le_of_ble_eq_true rfl, Nat.le_of_ble_eq_true rfl⟩ (Nat.le_of_ble_eq_true rfl) dX4_readCarrier_43 (fun _ _ h => h) rfl (kE ?_)
            refine B_ne 53 dX4_readCarrier_46 (by decide) (fun c_46 => ?_) (fun c_46 => ?_)
            · skip
              refine E_iconst 0 (by decide) dX4_readCarrier_53 ?_
              refine E_callV (c_X4_refuseNumberIfb l hfl mi_37 ml (0 : Int32) False (show (0 : Int32) = bI False from b0 not_false) (((q1 + 1) : Nat) : Int) (-1) hP37.2.2.2.1 hP37.2.2.2.2) cw_X4_58 (As := [.int 0]) (st := []) wi_yX4_refuseNumberIf we_yX4_refuseNumberIf (ci := 4) (q := (RX4, TX4, 5)) rfl rfl (wl_atO tw_58) rfl ⟨Nat.le_of_ble_eq_true rfl, Nat.le_of_ble_eq_true rfl, Nat.le_of_ble_eq_true rfl, Nat.le_of_ble_eq_true rfl⟩ (Nat.le_of_ble_eq_true rfl) dX4_readCarrier_54 (fun _ _ h => h) rfl (kV (fun mi_54 ml_54 h_54 => ?_))
              obtain ⟨rfl, h_54⟩ := h_54
              refine E_aload_n 2 dX4_readCarrier_57 rfl rfl ?_
              refine E_bipush 59 (by decide) dX4_readCarrier_58 ?_
              refine E_callV (c_X4_expect l hfl mi_54 ml N ((congrArg Int32.toInt ((h_54.2.1 1 (by decide)).trans (hP37.2.1.trans ((hk_33 1 (by decide) (by decide)).trans ((h_27.2.1 1 (by decide)).trans (hP1.2.1)))))).trans hN) hN2 q37 (((congrArg Int32.toInt (h_54.2.1 2 (by decide))).trans hP37.2.2.1).trans (by omega)) (by omega) 59 59 (-1) (show (59 : Int32).toInt = 59 from rfl) ((h_54.2.2.resolve_left (fun z => z.2.1)).2)) cw_X4_62 (As := [.int 59]) (st := []) wi_yX4_expect we_yX4_expect (ci := 4) (q := (RX4, TX4, 5)) rfl rfl (wl_atO tw_58) rfl ⟨Nat.le_of_ble_eq_true rfl, Nat.le_of_ble_eq_true rfl, Nat.le_of_ble_eq_true rfl, Nat.le_of_ble_eq_true rfl⟩ (Nat.le_of_ble_eq_true rfl) dX4_readCarrier_60 (fun _ _ h => h) rfl (kV (fun mi_60 ml_60 h_60 => ?_))
              obtain ⟨rfl, hF_60, hk_60, hx_60⟩ := h_60
              rw [show mi_54 59 = mi 59 from ((h_54.1 59 (by decide)).trans ((hP37.1 59 (by decide)).trans ((hF_33 59 (by decide)).trans ((h_27.1 59 (by decide)).trans (hP1.1 59 (by decide))))))] at hx_60
              rcases hx_60.resolve_left (fun z => z.1 rfl) with hx60 | hx60
              · skip
                have ht60 := tX_lt (row := mi 59) (N := N) (p := q37) (by rw [hx60.2.1]; decide)
                refine E_aload_n 2 dX4_readCarrier_63 rfl rfl ?_
                refine gf_X4_22 (mi_60 58 4) tw_58 rfl rfl dX4_readCarrier_64 ?_
                refine E_iconst (-1) (by decide) dX4_readCarrier_67 ?_
                refine Z_ne (-1) (-1) hx60.2.2.1 (show ((-1) : Int32).toInt = (-1) from rfl) 77 dX4_readCarrier_68 (by decide) (fun c_68 => ?_) (fun c_68 => ?_)
                · skip
                  refine E_vret rfl (Nat.le_of_ble_eq_true rfl) (Nat.le_of_ble_eq_true rfl) dX4_readCarrier_77 ?_
                  exact absurd rfl c_68
                · skip
                  refine E_aload_n 3 dX4_readCarrier_71 rfl rfl ?_
                  refine E_iload_n 1 dX4_readCarrier_72 rfl rfl ?_
                  refine E_iload_n 0 dX4_readCarrier_73 rfl rfl ?_
                  refine E_callV (c_X1_putCarrier l hfl 9 isD_9 mi_60 ml r_1 r_37 D.length (((congrArg Int32.toInt ((congrFun (hF_60 9 (by decide)) 5).trans ((congrFun (h_54.1 9 (by decide)) 5).trans ((congrFun (hP37.1 9 (by decide)) 5).trans ((congrFun (hF_33 9 (by decide)) 5).trans ((congrFun (h_27.1 9 (by decide)) 5).trans (congrFun (hP1.1 9 (by decide)) 5))))))).trans hDc.1).trans (by omega)) (by omega) (by omega)) cw_X4_69 (As := [.int r_1, .int r_37]) (st := []) wi_yX1_putCarrier we_yX1_putCarrier (ci := 1) (q := (RX1, TX1, 15)) rfl rfl (wl_atO isD_9.t) rfl ⟨Nat.le_of_ble_eq_true rfl, Nat.le_of_ble_eq_true rfl, Nat.le_of_ble_eq_true rfl, Nat.le_of_ble_eq_true rfl⟩ (Nat.le_of_ble_eq_true rfl) dX4_readCarrier_74 (fun _ _ h => h) rfl (kE0 ?_)
                  rw [show (mi_60 9 5) = (mi 9 5) from ((congrFun (hF_60 9 (by decide)) 5).trans ((congrFun (h_54.1 9 (by decide)) 5).trans ((congrFun (hP37.1 9 (by decide)) 5).trans ((congrFun (hF_33 9 (by decide)) 5).trans ((congrFun (h_27.1 9 (by decide)) 5).trans (congrFun (hP1.1 9 (by decide)) 5))))))]
                  refine E_vret rfl (Nat.le_of_ble_eq_true rfl) (Nat.le_of_ble_eq_true rfl) dX4_readCarrier_77 ?_
                  have hdc9 := DrC_a (v := v1) (w := v37) (hDc.c (congrFun ((hF_60 9 (by decide)).trans ((h_54.1 9 (by decide)).trans ((hP37.1 9 (by decide)).trans ((hF_33 9 (by decide)).trans ((h_27.1 9 (by decide)).trans (hP1.1 9 (by decide))))))) 5) ((hF_60 10 (by decide)).trans ((h_54.1 10 (by decide)).trans ((hP37.1 10 (by decide)).trans ((hF_33 10 (by decide)).trans ((h_27.1 10 (by decide)).trans (hP1.1 10 (by decide))))))) ((hF_60 11 (by decide)).trans ((h_54.1 11 (by decide)).trans ((hP37.1 11 (by decide)).trans ((hF_33 11 (by decide)).trans ((h_27.1 11 (by decide)).trans (hP1.1 11 (by decide)))))))) hlt ((tI_add hDc.1 (show (1 : Int32).toInt = 1 from rfl) (by omega))) hv_1 hv_37
                  exact okQV ⟨rfl, ((((Fr.w (G := [58, 9, 10, 11]) (Fr.trans (Fr.trans (Fr.trans (Fr.trans (Fr.trans hP1.1 h_27.1 (fun _ h => h) (fun _ h => h)) hF_33 (fun _ h => h) (fun _ h => h)) hP37.1 (fun _ h => h) (fun _ h => h)) h_54.1 (fun _ h => h) (fun _ h => h)) hF_60 (fun _ h => h) (fun _ h => h)) (by decide)).u (by decide)).u (by decide)).u (by decide)).u (by decide), (u2_n (by omega)).trans ((u2_n (by omega)).trans ((u2_n (by omega)).trans ((u2_n (by omega)).trans (((hk_60 1 (by decide) (by decide)).trans ((h_54.2.1 1 (by decide)).trans (hP37.2.1.trans ((hk_33 1 (by decide) (by decide)).trans ((h_27.2.1 1 (by decide)).trans (hP1.2.1)))))))))), fun k hk hk2 => (u2_n (Or.inr hk2)).trans ((u2_n (by omega)).trans ((u2_n (by omega)).trans ((u2_n (Or.inr hk)).trans (congrFun ((hF_60 9 (by decide)).trans ((h_54.1 9 (by decide)).trans ((hP37.1 9 (by decide)).trans ((hF_33 9 (by decide)).trans ((h_27.1 9 (by decide)).trans (hP1.1 9 (by decide))))))) k)))), Or.inr ⟨_, _, ci_y (pc_7 hDl eq1 ev1 ho1 (tk_k hDc (hP1.1 10 (by decide)) hv_1 h_15 c_19 (by omega)) hx33.2.1 eq37 ev37 ho37 (by omega)) hx60.2.1, (congrArg Int32.toInt ((u2_n (by omega)).trans ((u2_n (by omega)).trans ((u2_n (by omega)).trans (u2_n (by omega)))))).trans hx60.2.2.1, (congrArg Int32.toInt ((u2_n (by omega)).trans ((u2_n (by omega)).trans ((u2_n (by omega)).trans (u2_n (by omega)))))).trans hx60.2.2.2, hdc9, u2_s _ _ _ _, by omega⟩⟩
              · skip
                refine E_aload_n 2 dX4_readCarrier_63 rfl rfl ?_
                refine gf_X4_22 (mi_60 58 4) tw_58 rfl rfl dX4_readCarrier_64 ?_
                refine E_iconst (-1) (by decide) dX4_readCarrier_67 ?_
                refine Z_ne ((q37 : Nat) : Int) (-1) hx60.2.2.1 (show ((-1) : Int32).toInt = (-1) from rfl) 77 dX4_readCarrier_68 (by decide) (fun c_68 => ?_) (fun c_68 => ?_)
                · skip
                  refine E_vret rfl (Nat.le_of_ble_eq_true rfl) (Nat.le_of_ble_eq_true rfl) dX4_readCarrier_77 ?_
                  exact okQV ⟨rfl, Fr.w (Fr.trans (Fr.trans (Fr.trans (Fr.trans (Fr.trans hP1.1 h_27.1 (fun _ h => h) (fun _ h => h)) hF_33 (fun _ h => h) (fun _ h => h)) hP37.1 (fun _ h => h) (fun _ h => h)) h_54.1 (fun _ h => h) (fun _ h => h)) hF_60 (fun _ h => h) (fun _ h => h)) (by decide), ((hk_60 1 (by decide) (by decide)).trans ((h_54.2.1 1 (by decide)).trans (hP37.2.1.trans ((hk_33 1 (by decide) (by decide)).trans ((h_27.2.1 1 (by decide)).trans (hP1.2.1)))))), fun k _ _ => congrFun ((hF_60 9 (by decide)).trans ((h_54.1 9 (by decide)).trans ((hP37.1 9 (by decide)).trans ((hF_33 9 (by decide)).trans ((h_27.1 9 (by decide)).trans (hP1.1 9 (by decide))))))) k, Or.inl ⟨q37, ci_n (pc_7 hDl eq1 ev1 ho1 (tk_k hDc (hP1.1 10 (by decide)) hv_1 h_15 c_19 (by omega)) hx33.2.1 eq37 ev37 ho37 (by omega)) hx60.2.1, hx60.2.2.1.trans (by omega)⟩⟩
                · skip
                  refine E_aload_n 3 dX4_readCarrier_71 rfl rfl ?_
                  refine E_iload_n 1 dX4_readCarrier_72 rfl rfl ?_
                  refine E_iload_n 0 dX4_readCarrier_73 rfl rfl ?_
                  refine E_callV (c_X1_putCarrier l hfl 9 isD_9 mi_60 ml r_1 r_37 D.length (((congrArg Int32.toInt ((congrFun (hF_60 9 (by decide)) 5).trans ((congrFun (h_54.1 9 (by decide)) 5).trans ((congrFun (hP37.1 9 (by decide)) 5).trans ((congrFun (hF_33 9 (by decide)) 5).trans ((congrFun (h_27.1 9 (by decide)) 5).trans (congrFun (hP1.1 9 (by decide)) 5))))))).trans hDc.1).trans (by omega)) (by omega) (by omega)) cw_X4_69 (As := [.int r_1, .int r_37]) (st := []) wi_yX1_putCarrier we_yX1_putCarrier (ci := 1) (q := (RX1, TX1, 15)) rfl rfl (wl_atO isD_9.t) rfl ⟨Nat.le_of_ble_eq_true rfl, Nat.le_of_ble_eq_true rfl, Nat.le_of_ble_eq_true rfl, Nat.le_of_ble_eq_true rfl⟩ (Nat.le_of_ble_eq_true rfl) dX4_readCarrier_74 (fun _ _ h => h) rfl (kE0 ?_)
                  rw [show (mi_60 9 5) = (mi 9 5) from ((congrFun (hF_60 9 (by decide)) 5).trans ((congrFun (h_54.1 9 (by decide)) 5).trans ((congrFun (hP37.1 9 (by decide)) 5).trans ((congrFun (hF_33 9 (by decide)) 5).trans ((congrFun (h_27.1 9 (by decide)) 5).trans (congrFun (hP1.1 9 (by decide)) 5))))))]
                  refine E_vret rfl (Nat.le_of_ble_eq_true rfl) (Nat.le_of_ble_eq_true rfl) dX4_readCarrier_77 ?_
                  exact absurd c_68 (by omega)
            · skip
              refine E_iconst 1 (by decide) dX4_readCarrier_49 ?_
              refine E_goto 54 dX4_readCarrier_50 (by decide) ?_
              refine E_callV (c_X4_refuseNumberIfb l hfl mi_37 ml (1 : Int32) True (show (1 : Int32) = bI True from b1 trivial) (((q1 + 1) : Nat) : Int) (-1) hP37.2.2.2.1 hP37.2.2.2.2) cw_X4_58 (As := [.int 1]) (st := []) wi_yX4_refuseNumberIf we_yX4_refuseNumberIf (ci := 4) (q := (RX4, TX4, 5)) rfl rfl (wl_atO tw_58) rfl ⟨Nat.le_of_ble_eq_true rfl, Nat.le_of_ble_eq_true rfl, Nat.le_of_ble_eq_true rfl, Nat.le_of_ble_eq_true rfl⟩ (Nat.le_of_ble_eq_true rfl) dX4_readCarrier_54 (fun _ _ h => h) rfl (kV (fun mi_54 ml_54 h_54 => ?_))
              obtain ⟨rfl, h_54⟩ := h_54
              refine E_aload_n 2 dX4_readCarrier_57 rfl rfl ?_
              refine E_bipush 59 (by decide) dX4_readCarrier_58 ?_
              refine E_callV (c_X4_expect l hfl mi_54 ml N ((congrArg Int32.toInt ((h_54.2.1 1 (by decide)).trans (hP37.2.1.trans ((hk_33 1 (by decide) (by decide)).trans ((h_27.2.1 1 (by decide)).trans (hP1.2.1)))))).trans hN) hN2 q37 (((congrArg Int32.toInt (h_54.2.1 2 (by decide))).trans hP37.2.2.1).trans (by omega)) (by omega) 59 59 (((q1 + 1) : Nat) : Int) (show (59 : Int32).toInt = 59 from rfl) ((h_54.2.2.resolve_right (fun z => z.1 ⟨rfl, trivial⟩)).2.2)) cw_X4_62 (As := [.int 59]) (st := []) wi_yX4_expect we_yX4_expect (ci := 4) (q := (RX4, TX4, 5)) rfl rfl (wl_atO tw_58) rfl ⟨Nat.le_of_ble_eq_true rfl, Nat.le_of_ble_eq_true rfl, Nat.le_of_ble_eq_true rfl, Nat.le_of_ble_eq_true rfl⟩ (Nat.le_of_ble_eq_true rfl) dX4_readCarrier_60 (fun _ _ h => h) rfl (kV (fun mi_60 ml_60 h_60 => ?_))
              obtain ⟨rfl, hF_60, hk_60, hx_60⟩ := h_60
              rw [show mi_54 59 = mi 59 from ((h_54.1 59 (by decide)).trans ((hP37.1 59 (by decide)).trans ((hF_33 59 (by decide)).trans ((h_27.1 59 (by decide)).trans (hP1.1 59 (by decide))))))] at hx_60
              refine E_aload_n 2 dX4_readCarrier_63 rfl rfl ?_
              refine gf_X4_22 (mi_60 58 4) tw_58 rfl rfl dX4_readCarrier_64 ?_
              refine E_iconst (-1) (by decide) dX4_readCarrier_67 ?_
              refine Z_ne (((q1 + 1) : Nat) : Int) (-1) (ex_e hx_60 (by omega)).1 (show ((-1) : Int32).toInt = (-1) from rfl) 77 dX4_readCarrier_68 (by decide) (fun c_68 => ?_) (fun c_68 => ?_)
              · skip
                refine E_vret rfl (Nat.le_of_ble_eq_true rfl) (Nat.le_of_ble_eq_true rfl) dX4_readCarrier_77 ?_
                exact okQV ⟨rfl, Fr.w (Fr.trans (Fr.trans (Fr.trans (Fr.trans (Fr.trans hP1.1 h_27.1 (fun _ h => h) (fun _ h => h)) hF_33 (fun _ h => h) (fun _ h => h)) hP37.1 (fun _ h => h) (fun _ h => h)) h_54.1 (fun _ h => h) (fun _ h => h)) hF_60 (fun _ h => h) (fun _ h => h)) (by decide), ((hk_60 1 (by decide) (by decide)).trans ((h_54.2.1 1 (by decide)).trans (hP37.2.1.trans ((hk_33 1 (by decide) (by decide)).trans ((h_27.2.1 1 (by decide)).trans (hP1.2.1)))))), fun k _ _ => congrFun ((hF_60 9 (by decide)).trans ((h_54.1 9 (by decide)).trans ((hP37.1 9 (by decide)).trans ((hF_33 9 (by decide)).trans ((h_27.1 9 (by decide)).trans (hP1.1 9 (by decide))))))) k, Or.inl ⟨(q1 + 1), ci_l (pc_6 hDl eq1 ev1 ho1 (tk_k hDc (hP1.1 10 (by decide)) hv_1 h_15 c_19 (by omega)) hx33.2.1 eq37 ev37 ho37 (by omega)), (ex_e hx_60 (by omega)).1.trans (by omega)⟩⟩
              · skip
                refine E_aload_n 3 dX4_readCarrier_71 rfl rfl ?_
                refine E_iload_n 1 dX4_readCarrier_72 rfl rfl ?_
                refine E_iload_n 0 dX4_readCarrier_73 rfl rfl ?_
                refine E_callV (c_X1_putCarrier l hfl 9 isD_9 mi_60 ml r_1 r_37 D.length (((congrArg Int32.toInt ((congrFun (hF_60 9 (by decide)) 5).trans ((congrFun (h_54.1 9 (by decide)) 5).trans ((congrFun (hP37.1 9 (by decide)) 5).trans ((congrFun (hF_33 9 (by decide)) 5).trans ((congrFun (h_27.1 9 (by decide)) 5).trans (congrFun (hP1.1 9 (by decide)) 5))))))).trans hDc.1).trans (by omega)) (by omega) (by omega)) cw_X4_69 (As := [.int r_1, .int r_37]) (st := []) wi_yX1_putCarrier we_yX1_putCarrier (ci := 1) (q := (RX1, TX1, 15)) rfl rfl (wl_atO isD_9.t) rfl ⟨Nat.le_of_ble_eq_true rfl, Nat.le_of_ble_eq_true rfl, Nat.le_of_ble_eq_true rfl, Nat.le_of_ble_eq_true rfl⟩ (Nat.le_of_ble_eq_true rfl) dX4_readCarrier_74 (fun _ _ h => h) rfl (kE0 ?_)
                rw [show (mi_60 9 5) = (mi 9 5) from ((congrFun (hF_60 9 (by decide)) 5).trans ((congrFun (h_54.1 9 (by decide)) 5).trans ((congrFun (hP37.1 9 (by decide)) 5).trans ((congrFun (hF_33 9 (by decide)) 5).trans ((congrFun (h_27.1 9 (by decide)) 5).trans (congrFun (hP1.1 9 (by decide)) 5))))))]
                refine E_vret rfl (Nat.le_of_ble_eq_true rfl) (Nat.le_of_ble_eq_true rfl) dX4_readCarrier_77 ?_
                exact absurd c_68 (by omega)
          · skip
            refine E_aload_n 2 dX4_readCarrier_41 rfl rfl ?_
            refine E_iload_n 0 dX4_readCarrier_42 rfl rfl ?_
            refine E_callSN (c_X5_isLevel l hfl mi_37 ml r_37 (v37 : Int) hv_37) cw_X4_66 (As := [.int r_37]) (st := [.ref 58]) ws_yX5_isLevel rfl ⟨Nat.le_of_ble_eq_true rfl, Nat.le_of_ble_eq_true rfl, Nat.le_of_ble_eq_true rfl, Nat.le_of_ble_eq_true rfl⟩ (Nat.le_of_ble_eq_true rfl) dX4_readCarrier_43 (fun _ _ h => h) rfl (kE ?_)
            refine B_ne 53 dX4_readCarrier_46 (by decide) (fun c_46 => ?_) (fun c_46 => ?_)
            · skip
              refine E_iconst 0 (by decide) dX4_readCarrier_53 ?_
              refine E_callV (c_X4_refuseNumberIfb l hfl mi_37 ml (0 : Int32) False (show (0 : Int32) = bI False from b0 not_false) (((q1 + 1) : Nat) : Int) (q37 : Int) hP37.2.2.2.1 hP37.2.2.2.2) cw_X4_58 (As := [.int 0]) (st := []) wi_yX4_refuseNumberIf we_yX4_refuseNumberIf (ci := 4) (q := (RX4, TX4, 5)) rfl rfl (wl_atO tw_58) rfl ⟨Nat.le_of_ble_eq_true rfl, Nat.le_of_ble_eq_true rfl, Nat.le_of_ble_eq_true rfl, Nat.le_of_ble_eq_true rfl⟩ (Nat.le_of_ble_eq_true rfl) dX4_readCarrier_54 (fun _ _ h => h) rfl (kV (fun mi_54 ml_54 h_54 => ?_))
              obtain ⟨rfl, h_54⟩ := h_54
              refine E_aload_n 2 dX4_readCarrier_57 rfl rfl ?_
              refine E_bipush 59 (by decide) dX4_readCarrier_58 ?_
              refine E_callV (c_X4_expect l hfl mi_54 ml N ((congrArg Int32.toInt ((h_54.2.1 1 (by decide)).trans (hP37.2.1.trans ((hk_33 1 (by decide) (by decide)).trans ((h_27.2.1 1 (by decide)).trans (hP1.2.1)))))).trans hN) hN2 q37 (((congrArg Int32.toInt (h_54.2.1 2 (by decide))).trans hP37.2.2.1).trans (by omega)) (by omega) 59 59 (q37 : Int) (show (59 : Int32).toInt = 59 from rfl) ((h_54.2.2.resolve_left (fun z => absurd z.1 (by omega))).2)) cw_X4_62 (As := [.int 59]) (st := []) wi_yX4_expect we_yX4_expect (ci := 4) (q := (RX4, TX4, 5)) rfl rfl (wl_atO tw_58) rfl ⟨Nat.le_of_ble_eq_true rfl, Nat.le_of_ble_eq_true rfl, Nat.le_of_ble_eq_true rfl, Nat.le_of_ble_eq_true rfl⟩ (Nat.le_of_ble_eq_true rfl) dX4_readCarrier_60 (fun _ _ h => h) rfl (kV (fun mi_60 ml_60 h_60 => ?_))
              obtain ⟨rfl, hF_60, hk_60, hx_60⟩ := h_60
              rw [show mi_54 59 = mi 59 from ((h_54.1 59 (by decide)).trans ((hP37.1 59 (by decide)).trans ((hF_33 59 (by decide)).trans ((h_27.1 59 (by decide)).trans (hP1.1 59 (by decide))))))] at hx_60
              refine E_aload_n 2 dX4_readCarrier_63 rfl rfl ?_
              refine gf_X4_22 (mi_60 58 4) tw_58 rfl rfl dX4_readCarrier_64 ?_
              refine E_iconst (-1) (by decide) dX4_readCarrier_67 ?_
              refine Z_ne (q37 : Int) (-1) (ex_e hx_60 (by omega)).1 (show ((-1) : Int32).toInt = (-1) from rfl) 77 dX4_readCarrier_68 (by decide) (fun c_68 => ?_) (fun c_68 => ?_)
              · skip
                refine E_vret rfl (Nat.le_of_ble_eq_true rfl) (Nat.le_of_ble_eq_true rfl) dX4_readCarrier_77 ?_
                exact okQV ⟨rfl, Fr.w (Fr.trans (Fr.trans (Fr.trans (Fr.trans (Fr.trans hP1.1 h_27.1 (fun _ h => h) (fun _ h => h)) hF_33 (fun _ h => h) (fun _ h => h)) hP37.1 (fun _ h => h) (fun _ h => h)) h_54.1 (fun _ h => h) (fun _ h => h)) hF_60 (fun _ h => h) (fun _ h => h)) (by decide), ((hk_60 1 (by decide) (by decide)).trans ((h_54.2.1 1 (by decide)).trans (hP37.2.1.trans ((hk_33 1 (by decide) (by decide)).trans ((h_27.2.1 1 (by decide)).trans (hP1.2.1)))))), fun k _ _ => congrFun ((hF_60 9 (by decide)).trans ((h_54.1 9 (by decide)).trans ((hP37.1 9 (by decide)).trans ((hF_33 9 (by decide)).trans ((h_27.1 9 (by decide)).trans (hP1.1 9 (by decide))))))) k, Or.inl ⟨q37, ci_l (pc_5 hDl eq1 ev1 ho1 (tk_k hDc (hP1.1 10 (by decide)) hv_1 h_15 c_19 (by omega)) hx33.2.1 eq37 ho37), (ex_e hx_60 (by omega)).1.trans (by omega)⟩⟩
              · skip
                refine E_aload_n 3 dX4_readCarrier_71 rfl rfl ?_
                refine E_iload_n 1 dX4_readCarrier_72 rfl rfl ?_
                refine E_iload_n 0 dX4_readCarrier_73 rfl rfl ?_
                refine E_callV (c_X1_putCarrier l hfl 9 isD_9 mi_60 ml r_1 r_37 D.length (((congrArg Int32.toInt ((congrFun (hF_60 9 (by decide)) 5).trans ((congrFun (h_54.1 9 (by decide)) 5).trans ((congrFun (hP37.1 9 (by decide)) 5).trans ((congrFun (hF_33 9 (by decide)) 5).trans ((congrFun (h_27.1 9 (by decide)) 5).trans (congrFun (hP1.1 9 (by decide)) 5))))))).trans hDc.1).trans (by omega)) (by omega) (by omega)) cw_X4_69 (As := [.int r_1, .int r_37]) (st := []) wi_yX1_putCarrier we_yX1_putCarrier (ci := 1) (q := (RX1, TX1, 15)) rfl rfl (wl_atO isD_9.t) rfl ⟨Nat.le_of_ble_eq_true rfl, Nat.le_of_ble_eq_true rfl, Nat.le_of_ble_eq_true rfl, Nat.le_of_ble_eq_true rfl⟩ (Nat.le_of_ble_eq_true rfl) dX4_readCarrier_74 (fun _ _ h => h) rfl (kE0 ?_)
                rw [show (mi_60 9 5) = (mi 9 5) from ((congrFun (hF_60 9 (by decide)) 5).trans ((congrFun (h_54.1 9 (by decide)) 5).trans ((congrFun (hP37.1 9 (by decide)) 5).trans ((congrFun (hF_33 9 (by decide)) 5).trans ((congrFun (h_27.1 9 (by decide)) 5).trans (congrFun (hP1.1 9 (by decide)) 5))))))]
                refine E_vret rfl (Nat.le_of_ble_eq_true rfl) (Nat.le_of_ble_eq_true rfl) dX4_readCarrier_77 ?_
                exact absurd c_68 (by omega)
            · skip
              refine E_iconst 1 (by decide) dX4_readCarrier_49 ?_
              refine E_goto 54 dX4_readCarrier_50 (by decide) ?_
              refine E_callV (c_X4_refuseNumberIfb l hfl mi_37 ml (1 : Int32) True (show (1 : Int32) = bI True from b1 trivial) (((q1 + 1) : Nat) : Int) (q37 : Int) hP37.2.2.2.1 hP37.2.2.2.2) cw_X4_58 (As := [.int 1]) (st := []) wi_yX4_refuseNumberIf we_yX4_refuseNumberIf (ci := 4) (q := (RX4, TX4, 5)) rfl rfl (wl_atO tw_58) rfl ⟨Nat.le_of_ble_eq_true rfl, Nat.le_of_ble_eq_true rfl, Nat.le_of_ble_eq_true rfl, Nat.le_of_ble_eq_true rfl⟩ (Nat.le_of_ble_eq_true rfl) dX4_readCarrier_54 (fun _ _ h => h) rfl (kV (fun mi_54 ml_54 h_54 => ?_))
              obtain ⟨rfl, h_54⟩ := h_54
              refine E_aload_n 2 dX4_readCarrier_57 rfl rfl ?_
              refine E_bipush 59 (by decide) dX4_readCarrier_58 ?_
              refine E_callV (c_X4_expect l hfl mi_54 ml N ((congrArg Int32.toInt ((h_54.2.1 1 (by decide)).trans (hP37.2.1.trans ((hk_33 1 (by decide) (by decide)).trans ((h_27.2.1 1 (by decide)).trans (hP1.2.1)))))).trans hN) hN2 q37 (((congrArg Int32.toInt (h_54.2.1 2 (by decide))).trans hP37.2.2.1).trans (by omega)) (by omega) 59 59 (q37 : Int) (show (59 : Int32).toInt = 59 from rfl) ((h_54.2.2.resolve_left (fun z => absurd z.1 (by omega))).2)) cw_X4_62 (As := [.int 59]) (st := []) wi_yX4_expect we_yX4_expect (ci := 4) (q := (RX4, TX4, 5)) rfl rfl (wl_atO tw_58) rfl ⟨Nat.le_of_ble_eq_true rfl, Nat.le_of_ble_eq_true rfl, Nat.le_of_ble_eq_true rfl, Nat.le_of_ble_eq_true rfl⟩ (Nat.le_of_ble_eq_true rfl) dX4_readCarrier_60 (fun _ _ h => h) rfl (kV (fun mi_60 ml_60 h_60 => ?_))
              obtain ⟨rfl, hF_60, hk_60, hx_60⟩ := h_60
              rw [show mi_54 59 = mi 59 from ((h_54.1 59 (by decide)).trans ((hP37.1 59 (by decide)).trans ((hF_33 59 (by decide)).trans ((h_27.1 59 (by decide)).trans (hP1.1 59 (by decide))))))] at hx_60
              refine E_aload_n 2 dX4_readCarrier_63 rfl rfl ?_
              refine gf_X4_22 (mi_60 58 4) tw_58 rfl rfl dX4_readCarrier_64 ?_
              refine E_iconst (-1) (by decide) dX4_readCarrier_67 ?_
              refine Z_ne (q37 : Int) (-1) (ex_e hx_60 (by omega)).1 (show ((-1) : Int32).toInt = (-1) from rfl) 77 dX4_readCarrier_68 (by decide) (fun c_68 => ?_) (fun c_68 => ?_)
              · skip
                refine E_vret rfl (Nat.le_of_ble_eq_true rfl) (Nat.le_of_ble_eq_true rfl) dX4_readCarrier_77 ?_
                exact okQV ⟨rfl, Fr.w (Fr.trans (Fr.trans (Fr.trans (Fr.trans (Fr.trans hP1.1 h_27.1 (fun _ h => h) (fun _ h => h)) hF_33 (fun _ h => h) (fun _ h => h)) hP37.1 (fun _ h => h) (fun _ h => h)) h_54.1 (fun _ h => h) (fun _ h => h)) hF_60 (fun _ h => h) (fun _ h => h)) (by decide), ((hk_60 1 (by decide) (by decide)).trans ((h_54.2.1 1 (by decide)).trans (hP37.2.1.trans ((hk_33 1 (by decide) (by decide)).trans ((h_27.2.1 1 (by decide)).trans (hP1.2.1)))))), fun k _ _ => congrFun ((hF_60 9 (by decide)).trans ((h_54.1 9 (by decide)).trans ((hP37.1 9 (by decide)).trans ((hF_33 9 (by decide)).trans ((h_27.1 9 (by decide)).trans (hP1.1 9 (by decide))))))) k, Or.inl ⟨q37, ci_l (pc_5 hDl eq1 ev1 ho1 (tk_k hDc (hP1.1 10 (by decide)) hv_1 h_15 c_19 (by omega)) hx33.2.1 eq37 ho37), (ex_e hx_60 (by omega)).1.trans (by omega)⟩⟩
              · skip
                refine E_aload_n 3 dX4_readCarrier_71 rfl rfl ?_
                refine E_iload_n 1 dX4_readCarrier_72 rfl rfl ?_
                refine E_iload_n 0 dX4_readCarrier_73 rfl rfl ?_
                refine E_callV (c_X1_putCarrier l hfl 9 isD_9 mi_60 ml r_1 r_37 D.length (((congrArg Int32.toInt ((congrFun (hF_60 9 (by decide)) 5).trans ((congrFun (h_54.1 9 (by decide)) 5).trans ((congrFun (hP37.1 9 (by decide)) 5).trans ((congrFun (hF_33 9 (by decide)) 5).trans ((congrFun (h_27.1 9 (by decide)) 5).trans (congrFun (hP1.1 9 (by decide)) 5))))))).trans hDc.1).trans (by omega)) (by omega) (by omega)) cw_X4_69 (As := [.int r_1, .int r_37]) (st := []) wi_yX1_putCarrier we_yX1_putCarrier (ci := 1) (q := (RX1, TX1, 15)) rfl rfl (wl_atO isD_9.t) rfl ⟨Nat.le_of_ble_eq_true rfl, Nat.le_of_ble_eq_true rfl, Nat.le_of_ble_eq_true rfl, Nat.le_of_ble_eq_true rfl⟩ (Nat.le_of_ble_eq_true rfl) dX4_readCarrier_74 (fun _ _ h => h) rfl (kE0 ?_)
                rw [show (mi_60 9 5) = (mi 9 5) from ((congrFun (hF_60 9 (by decide)) 5).trans ((congrFun (h_54.1 9 (by decide)) 5).trans ((congrFun (hP37.1 9 (by decide)) 5).trans ((congrFun (hF_33 9 (by decide)) 5).trans ((congrFun (h_27.1 9 (by decide)) 5).trans (congrFun (hP1.1 9 (by decide)) 5))))))]
                refine E_vret rfl (Nat.le_of_ble_eq_true rfl) (Nat.le_of_ble_eq_true rfl) dX4_readCarrier_77 ?_
                exact absurd c_68 (by omega)
        · skip
          refine E_aload_n 1 dX4_readCarrier_36 rfl rfl ?_
          refine E_callV (c_X4_readNumberE l hfl mi_33 ml (fun z => absurd (hx33.2.2.1.symm.trans z) (by omega))) cw_X4_47 (As := []) (st := []) wi_yX4_readNumber we_yX4_readNumber (ci := 4) (q := (RX4, TX4, 5)) rfl rfl (wl_atO tw_58) rfl ⟨Nat.le_of_ble_eq_true rfl, Nat.le_of_ble_eq_true rfl, Nat.le_of_ble_eq_true rfl, Nat.le_of_ble_eq_true rfl⟩ (Nat.le_of_ble_eq_true rfl) dX4_readCarrier_37 (fun _ _ h => h) rfl (kE ?_)
          refine E_istore_n [(3, .int 0), (2, .int r_1), (0, .ref 58), (1, .ref 9)] dX4_readCarrier_40 rfl (by decide) rfl ?_
          refine E_aload_n 2 dX4_readCarrier_41 rfl rfl ?_
          refine E_iload_n 0 dX4_readCarrier_42 rfl rfl ?_
          refine E_callSN (c_X5_isLevel l hfl mi_33 ml 0 0 (show (0 : Int32).toInt = 0 from rfl)) cw_X4_66 (As := [.int 0]) (st := [.ref 58]) ws_yX5_isLevel rfl ⟨Nat.le_of_ble_eq_true rfl, Nat.le_of_ble_eq_true rfl, Nat.le_of_ble_eq_true rfl, Nat.le_of_ble_eq_true rfl⟩ (Nat.le_of_ble_eq_true rfl) dX4_readCarrier_43 (fun _ _ h => h) rfl (kE ?_)
          refine B_ne 53 dX4_readCarrier_46 (by decide) (fun c_46 => ?_) (fun c_46 => ?_)
          · skip
            refine E_iconst 0 (by decide) dX4_readCarrier_53 ?_
            refine E_callV (c_X4_refuseNumberIfb l hfl mi_33 ml (0 : Int32) False (show (0 : Int32) = bI False from b0 not_false) (((p + 1) : Nat) : Int) ((q1 : Nat) : Int) ((congrArg Int32.toInt ((hk_33 3 (by decide) (by decide)).trans (h_27.2.1 3 (by decide)))).trans hP1.2.2.2.1) hx33.2.2.1) cw_X4_58 (As := [.int 0]) (st := []) wi_yX4_refuseNumberIf we_yX4_refuseNumberIf (ci := 4) (q := (RX4, TX4, 5)) rfl rfl (wl_atO tw_58) rfl ⟨Nat.le_of_ble_eq_true rfl, Nat.le_of_ble_eq_true rfl, Nat.le_of_ble_eq_true rfl, Nat.le_of_ble_eq_true rfl⟩ (Nat.le_of_ble_eq_true rfl) dX4_readCarrier_54 (fun _ _ h => h) rfl (kV (fun mi_54 ml_54 h_54 => ?_))
            obtain ⟨rfl, h_54⟩ := h_54
            refine E_aload_n 2 dX4_readCarrier_57 rfl rfl ?_
            refine E_bipush 59 (by decide) dX4_readCarrier_58 ?_
            refine E_callV (c_X4_expect l hfl mi_54 ml N ((congrArg Int32.toInt ((h_54.2.1 1 (by decide)).trans ((hk_33 1 (by decide) (by decide)).trans ((h_27.2.1 1 (by decide)).trans (hP1.2.1))))).trans hN) hN2 q1 (((congrArg Int32.toInt ((h_54.2.1 2 (by decide)).trans (hx33.2.2.2.trans (h_27.2.1 2 (by decide))))).trans hP1.2.2.1).trans (by omega)) (by omega) 59 59 ((q1 : Nat) : Int) (show (59 : Int32).toInt = 59 from rfl) ((h_54.2.2.resolve_left (fun z => absurd z.1 (by omega))).2)) cw_X4_62 (As := [.int 59]) (st := []) wi_yX4_expect we_yX4_expect (ci := 4) (q := (RX4, TX4, 5)) rfl rfl (wl_atO tw_58) rfl ⟨Nat.le_of_ble_eq_true rfl, Nat.le_of_ble_eq_true rfl, Nat.le_of_ble_eq_true rfl, Nat.le_of_ble_eq_true rfl⟩ (Nat.le_of_ble_eq_true rfl) dX4_readCarrier_60 (fun _ _ h => h) rfl (kV (fun mi_60 ml_60 h_60 => ?_))
            obtain ⟨rfl, hF_60, hk_60, hx_60⟩ := h_60
            rw [show mi_54 59 = mi 59 from ((h_54.1 59 (by decide)).trans ((hF_33 59 (by decide)).trans ((h_27.1 59 (by decide)).trans (hP1.1 59 (by decide)))))] at hx_60
            refine E_aload_n 2 dX4_readCarrier_63 rfl rfl ?_
            refine gf_X4_22 (mi_60 58 4) tw_58 rfl rfl dX4_readCarrier_64 ?_
            refine E_iconst (-1) (by decide) dX4_readCarrier_67 ?_
            refine Z_ne ((q1 : Nat) : Int) (-1) (ex_e hx_60 (by omega)).1 (show ((-1) : Int32).toInt = (-1) from rfl) 77 dX4_readCarrier_68 (by decide) (fun c_68 => ?_) (fun c_68 => ?_)
            · skip
              refine E_vret rfl (Nat.le_of_ble_eq_true rfl) (Nat.le_of_ble_eq_true rfl) dX4_readCarrier_77 ?_
              exact okQV ⟨rfl, Fr.w (Fr.trans (Fr.trans (Fr.trans (Fr.trans hP1.1 h_27.1 (fun _ h => h) (fun _ h => h)) hF_33 (fun _ h => h) (fun _ h => h)) h_54.1 (fun _ h => h) (fun _ h => h)) hF_60 (fun _ h => h) (fun _ h => h)) (by decide), ((hk_60 1 (by decide) (by decide)).trans ((h_54.2.1 1 (by decide)).trans ((hk_33 1 (by decide) (by decide)).trans ((h_27.2.1 1 (by decide)).trans (hP1.2.1))))), fun k _ _ => congrFun ((hF_60 9 (by decide)).trans ((h_54.1 9 (by decide)).trans ((hF_33 9 (by decide)).trans ((h_27.1 9 (by decide)).trans (hP1.1 9 (by decide)))))) k, Or.inl ⟨q1, ci_l (pc_4 hDl eq1 ev1 ho1 (tk_k hDc (hP1.1 10 (by decide)) hv_1 h_15 c_19 (by omega)) hx33.2.1), (ex_e hx_60 (by omega)).1.trans (by omega)⟩⟩
            · skip
              refine E_aload_n 3 dX4_readCarrier_71 rfl rfl ?_
              refine E_iload_n 1 dX4_readCarrier_72 rfl rfl ?_
              refine E_iload_n 0 dX4_readCarrier_73 rfl rfl ?_
              refine E_callV (c_X1_putCarrier l hfl 9 isD_9 mi_60 ml r_1 0 D.length (((congrArg Int32.toInt ((congrFun (hF_60 9 (by decide)) 5).trans ((congrFun (h_54.1 9 (by decide)) 5).trans ((congrFun (hF_33 9 (by decide)) 5).trans ((congrFun (h_27.1 9 (by decide)) 5).trans (congrFun (hP1.1 9 (by decide)) 5)))))).trans hDc.1).trans (by omega)) (by omega) (by omega)) cw_X4_69 (As := [.int r_1, .int 0]) (st := []) wi_yX1_putCarrier we_yX1_putCarrier (ci := 1) (q := (RX1, TX1, 15)) rfl rfl (wl_atO isD_9.t) rfl ⟨Nat.le_of_ble_eq_true rfl, Nat.le_of_ble_eq_true rfl, Nat.le_of_ble_eq_true rfl, Nat.le_of_ble_eq_true rfl⟩ (Nat.le_of_ble_eq_true rfl) dX4_readCarrier_74 (fun _ _ h => h) rfl (kE0 ?_)
              rw [show (mi_60 9 5) = (mi 9 5) from ((congrFun (hF_60 9 (by decide)) 5).trans ((congrFun (h_54.1 9 (by decide)) 5).trans ((congrFun (hF_33 9 (by decide)) 5).trans ((congrFun (h_27.1 9 (by decide)) 5).trans (congrFun (hP1.1 9 (by decide)) 5)))))]
              refine E_vret rfl (Nat.le_of_ble_eq_true rfl) (Nat.le_of_ble_eq_true rfl) dX4_readCarrier_77 ?_
              exact absurd c_68 (by omega)
          · skip
            refine E_iconst 1 (by decide) dX4_readCarrier_49 ?_
            refine E_goto 54 dX4_readCarrier_50 (by decide) ?_
            refine E_callV (c_X4_refuseNumberIfb l hfl mi_33 ml (1 : Int32) True (show (1 : Int32) = bI True from b1 trivial) (((p + 1) : Nat) : Int) ((q1 : Nat) : Int) ((congrArg Int32.toInt ((hk_33 3 (by decide) (by decide)).trans (h_27.2.1 3 (by decide)))).trans hP1.2.2.2.1) hx33.2.2.1) cw_X4_58 (As := [.int 1]) (st := []) wi_yX4_refuseNumberIf we_yX4_refuseNumberIf (ci := 4) (q := (RX4, TX4, 5)) rfl rfl (wl_atO tw_58) rfl ⟨Nat.le_of_ble_eq_true rfl, Nat.le_of_ble_eq_true rfl, Nat.le_of_ble_eq_true rfl, Nat.le_of_ble_eq_true rfl⟩ (Nat.le_of_ble_eq_true rfl) dX4_readCarrier_54 (fun _ _ h => h) rfl (kV (fun mi_54 ml_54 h_54 => ?_))
            obtain ⟨rfl, h_54⟩ := h_54
            refine E_aload_n 2 dX4_readCarrier_57 rfl rfl ?_
            refine E_bipush 59 (by decide) dX4_readCarrier_58 ?_
            refine E_callV (c_X4_expect l hfl mi_54 ml N ((congrArg Int32.toInt ((h_54.2.1 1 (by decide)).trans ((hk_33 1 (by decide) (by decide)).trans ((h_27.2.1 1 (by decide)).trans (hP1.2.1))))).trans hN) hN2 q1 (((congrArg Int32.toInt ((h_54.2.1 2 (by decide)).trans (hx33.2.2.2.trans (h_27.2.1 2 (by decide))))).trans hP1.2.2.1).trans (by omega)) (by omega) 59 59 ((q1 : Nat) : Int) (show (59 : Int32).toInt = 59 from rfl) ((h_54.2.2.resolve_left (fun z => absurd z.1 (by omega))).2)) cw_X4_62 (As := [.int 59]) (st := []) wi_yX4_expect we_yX4_expect (ci := 4) (q := (RX4, TX4, 5)) rfl rfl (wl_atO tw_58) rfl ⟨Nat.le_of_ble_eq_true rfl, Nat.le_of_ble_eq_true rfl, Nat.le_of_ble_eq_true rfl, Nat.le_of_ble_eq_true rfl⟩ (Nat.le_of_ble_eq_true rfl) dX4_readCarrier_60 (fun _ _ h => h) rfl (kV (fun mi_60 ml_60 h_60 => ?_))
            obtain ⟨rfl, hF_60, hk_60, hx_60⟩ := h_60
            rw [show mi_54 59 = mi 59 from ((h_54.1 59 (by decide)).trans ((hF_33 59 (by decide)).trans ((h_27.1 59 (by decide)).trans (hP1.1 59 (by decide)))))] at hx_60
            refine E_aload_n 2 dX4_readCarrier_63 rfl rfl ?_
            refine gf_X4_22 (mi_60 58 4) tw_58 rfl rfl dX4_readCarrier_64 ?_
            refine E_iconst (-1) (by decide) dX4_readCarrier_67 ?_
            refine Z_ne ((q1 : Nat) : Int) (-1) (ex_e hx_60 (by omega)).1 (show ((-1) : Int32).toInt = (-1) from rfl) 77 dX4_readCarrier_68 (by decide) (fun c_68 => ?_) (fun c_68 => ?_)
            · skip
              refine E_vret rfl (Nat.le_of_ble_eq_true rfl) (Nat.le_of_ble_eq_true rfl) dX4_readCarrier_77 ?_
              exact okQV ⟨rfl, Fr.w (Fr.trans (Fr.trans (Fr.trans (Fr.trans hP1.1 h_27.1 (fun _ h => h) (fun _ h => h)) hF_33 (fun _ h => h) (fun _ h => h)) h_54.1 (fun _ h => h) (fun _ h => h)) hF_60 (fun _ h => h) (fun _ h => h)) (by decide), ((hk_60 1 (by decide) (by decide)).trans ((h_54.2.1 1 (by decide)).trans ((hk_33 1 (by decide) (by decide)).trans ((h_27.2.1 1 (by decide)).trans (hP1.2.1))))), fun k _ _ => congrFun ((hF_60 9 (by decide)).trans ((h_54.1 9 (by decide)).trans ((hF_33 9 (by decide)).trans ((h_27.1 9 (by decide)).trans (hP1.1 9 (by decide)))))) k, Or.inl ⟨q1, ci_l (pc_4 hDl eq1 ev1 ho1 (tk_k hDc (hP1.1 10 (by decide)) hv_1 h_15 c_19 (by omega)) hx33.2.1), (ex_e hx_60 (by omega)).1.trans (by omega)⟩⟩
            · skip
              refine E_aload_n 3 dX4_readCarrier_71 rfl rfl ?_
              refine E_iload_n 1 dX4_readCarrier_72 rfl rfl ?_
              refine E_iload_n 0 dX4_readCarrier_73 rfl rfl ?_
              refine E_callV (c_X1_putCarrier l hfl 9 isD_9 mi_60 ml r_1 0 D.length (((congrArg Int32.toInt ((congrFun (hF_60 9 (by decide)) 5).trans ((congrFun (h_54.1 9 (by decide)) 5).trans ((congrFun (hF_33 9 (by decide)) 5).trans ((congrFun (h_27.1 9 (by decide)) 5).trans (congrFun (hP1.1 9 (by decide)) 5)))))).trans hDc.1).trans (by omega)) (by omega) (by omega)) cw_X4_69 (As := [.int r_1, .int 0]) (st := []) wi_yX1_putCarrier we_yX1_putCarrier (ci := 1) (q := (RX1, TX1, 15)) rfl rfl (wl_atO isD_9.t) rfl ⟨Nat.le_of_ble_eq_true rfl, Nat.le_of_ble_eq_true rfl, Nat.le_of_ble_eq_true rfl, Nat.le_of_ble_eq_true rfl⟩ (Nat.le_of_ble_eq_true rfl) dX4_readCarrier_74 (fun _ _ h => h) rfl (kE0 ?_)
              rw [show (mi_60 9 5) = (mi 9 5) from ((congrFun (hF_60 9 (by decide)) 5).trans ((congrFun (h_54.1 9 (by decide)) 5).trans ((congrFun (hF_33 9 (by decide)) 5).trans ((congrFun (h_27.1 9 (by decide)) 5).trans (congrFun (hP1.1 9 (by decide)) 5)))))]
              refine E_vret rfl (Nat.le_of_ble_eq_true rfl) (Nat.le_of_ble_eq_true rfl) dX4_readCarrier_77 ?_
              exact absurd c_68 (by omega)
      · skip
        refine E_iconst 1 (by decide) dX4_readCarrier_22 ?_
        refine E_goto 27 dX4_readCarrier_23 (by decide) ?_
        refine E_callV (c_X4_refuseNumberIfb l hfl mi_1 ml (1 : Int32) True (show (1 : Int32) = bI True from b1 trivial) (((p + 1) : Nat) : Int) (-1) hP1.2.2.2.1 hP1.2.2.2.2) cw_X4_58 (As := [.int 1]) (st := []) wi_yX4_refuseNumberIf we_yX4_refuseNumberIf (ci := 4) (q := (RX4, TX4, 5)) rfl rfl (wl_atO tw_58) rfl ⟨Nat.le_of_ble_eq_true rfl, Nat.le_of_ble_eq_true rfl, Nat.le_of_ble_eq_true rfl, Nat.le_of_ble_eq_true rfl⟩ (Nat.le_of_ble_eq_true rfl) dX4_readCarrier_27 (fun _ _ h => h) rfl (kV (fun mi_27 ml_27 h_27 => ?_))
        obtain ⟨rfl, h_27⟩ := h_27
        refine E_aload_n 1 dX4_readCarrier_30 rfl rfl ?_
        refine E_bipush 44 (by decide) dX4_readCarrier_31 ?_
        refine E_callV (c_X4_expect l hfl mi_27 ml N ((congrArg Int32.toInt ((h_27.2.1 1 (by decide)).trans (hP1.2.1))).trans hN) hN2 q1 (((congrArg Int32.toInt (h_27.2.1 2 (by decide))).trans hP1.2.2.1).trans (by omega)) (by omega) 44 44 (((p + 1) : Nat) : Int) (show (44 : Int32).toInt = 44 from rfl) ((h_27.2.2.resolve_right (fun z => z.1 ⟨rfl, trivial⟩)).2.2)) cw_X4_62 (As := [.int 44]) (st := []) wi_yX4_expect we_yX4_expect (ci := 4) (q := (RX4, TX4, 5)) rfl rfl (wl_atO tw_58) rfl ⟨Nat.le_of_ble_eq_true rfl, Nat.le_of_ble_eq_true rfl, Nat.le_of_ble_eq_true rfl, Nat.le_of_ble_eq_true rfl⟩ (Nat.le_of_ble_eq_true rfl) dX4_readCarrier_33 (fun _ _ h => h) rfl (kV (fun mi_33 ml_33 h_33 => ?_))
        obtain ⟨rfl, hF_33, hk_33, hx_33⟩ := h_33
        rw [show mi_27 59 = mi 59 from ((h_27.1 59 (by decide)).trans (hP1.1 59 (by decide)))] at hx_33
        refine E_aload_n 1 dX4_readCarrier_36 rfl rfl ?_
        refine E_callV (c_X4_readNumberE l hfl mi_33 ml (fun z => absurd ((ex_e hx_33 (by omega)).1.symm.trans z) (by omega))) cw_X4_47 (As := []) (st := []) wi_yX4_readNumber we_yX4_readNumber (ci := 4) (q := (RX4, TX4, 5)) rfl rfl (wl_atO tw_58) rfl ⟨Nat.le_of_ble_eq_true rfl, Nat.le_of_ble_eq_true rfl, Nat.le_of_ble_eq_true rfl, Nat.le_of_ble_eq_true rfl⟩ (Nat.le_of_ble_eq_true rfl) dX4_readCarrier_37 (fun _ _ h => h) rfl (kE ?_)
        refine E_istore_n [(3, .int 0), (2, .int r_1), (0, .ref 58), (1, .ref 9)] dX4_readCarrier_40 rfl (by decide) rfl ?_
        refine E_aload_n 2 dX4_readCarrier_41 rfl rfl ?_
        refine E_iload_n 0 dX4_readCarrier_42 rfl rfl ?_
        refine E_callSN (c_X5_isLevel l hfl mi_33 ml 0 0 (show (0 : Int32).toInt = 0 from rfl)) cw_X4_66 (As := [.int 0]) (st := [.ref 58]) ws_yX5_isLevel rfl ⟨Nat.le_of_ble_eq_true rfl, Nat.le_of_ble_eq_true rfl, Nat.le_of_ble_eq_true rfl, Nat.le_of_ble_eq_true rfl⟩ (Nat.le_of_ble_eq_true rfl) dX4_readCarrier_43 (fun _ _ h => h) rfl (kE ?_)
        refine B_ne 53 dX4_readCarrier_46 (by decide) (fun c_46 => ?_) (fun c_46 => ?_)
        · skip
          refine E_iconst 0 (by decide) dX4_readCarrier_53 ?_
          refine E_callV (c_X4_refuseNumberIfb l hfl mi_33 ml (0 : Int32) False (show (0 : Int32) = bI False from b0 not_false) (((p + 1) : Nat) : Int) (((p + 1) : Nat) : Int) ((congrArg Int32.toInt ((hk_33 3 (by decide) (by decide)).trans (h_27.2.1 3 (by decide)))).trans hP1.2.2.2.1) ((ex_e hx_33 (by omega)).1)) cw_X4_58 (As := [.int 0]) (st := []) wi_yX4_refuseNumberIf we_yX4_refuseNumberIf (ci := 4) (q := (RX4, TX4, 5)) rfl rfl (wl_atO tw_58) rfl ⟨Nat.le_of_ble_eq_true rfl, Nat.le_of_ble_eq_true rfl, Nat.le_of_ble_eq_true rfl, Nat.le_of_ble_eq_true rfl⟩ (Nat.le_of_ble_eq_true rfl) dX4_readCarrier_54 (fun _ _ h => h) rfl (kV (fun mi_54 ml_54 h_54 => ?_))
          obtain ⟨rfl, h_54⟩ := h_54
          refine E_aload_n 2 dX4_readCarrier_57 rfl rfl ?_
          refine E_bipush 59 (by decide) dX4_readCarrier_58 ?_
          refine E_callV (c_X4_expect l hfl mi_54 ml N ((congrArg Int32.toInt ((h_54.2.1 1 (by decide)).trans ((hk_33 1 (by decide) (by decide)).trans ((h_27.2.1 1 (by decide)).trans (hP1.2.1))))).trans hN) hN2 q1 (((congrArg Int32.toInt ((h_54.2.1 2 (by decide)).trans ((ex_e hx_33 (by omega)).2.trans (h_27.2.1 2 (by decide))))).trans hP1.2.2.1).trans (by omega)) (by omega) 59 59 (((p + 1) : Nat) : Int) (show (59 : Int32).toInt = 59 from rfl) ((h_54.2.2.resolve_left (fun z => absurd z.1 (by omega))).2)) cw_X4_62 (As := [.int 59]) (st := []) wi_yX4_expect we_yX4_expect (ci := 4) (q := (RX4, TX4, 5)) rfl rfl (wl_atO tw_58) rfl ⟨Nat.le_of_ble_eq_true rfl, Nat.le_of_ble_eq_true rfl, Nat.le_of_ble_eq_true rfl, Nat.le_of_ble_eq_true rfl⟩ (Nat.le_of_ble_eq_true rfl) dX4_readCarrier_60 (fun _ _ h => h) rfl (kV (fun mi_60 ml_60 h_60 => ?_))
          obtain ⟨rfl, hF_60, hk_60, hx_60⟩ := h_60
          rw [show mi_54 59 = mi 59 from ((h_54.1 59 (by decide)).trans ((hF_33 59 (by decide)).trans ((h_27.1 59 (by decide)).trans (hP1.1 59 (by decide)))))] at hx_60
          refine E_aload_n 2 dX4_readCarrier_63 rfl rfl ?_
          refine gf_X4_22 (mi_60 58 4) tw_58 rfl rfl dX4_readCarrier_64 ?_
          refine E_iconst (-1) (by decide) dX4_readCarrier_67 ?_
          refine Z_ne (((p + 1) : Nat) : Int) (-1) (ex_e hx_60 (by omega)).1 (show ((-1) : Int32).toInt = (-1) from rfl) 77 dX4_readCarrier_68 (by decide) (fun c_68 => ?_) (fun c_68 => ?_)
          · skip
            refine E_vret rfl (Nat.le_of_ble_eq_true rfl) (Nat.le_of_ble_eq_true rfl) dX4_readCarrier_77 ?_
            exact okQV ⟨rfl, Fr.w (Fr.trans (Fr.trans (Fr.trans (Fr.trans hP1.1 h_27.1 (fun _ h => h) (fun _ h => h)) hF_33 (fun _ h => h) (fun _ h => h)) h_54.1 (fun _ h => h) (fun _ h => h)) hF_60 (fun _ h => h) (fun _ h => h)) (by decide), ((hk_60 1 (by decide) (by decide)).trans ((h_54.2.1 1 (by decide)).trans ((hk_33 1 (by decide) (by decide)).trans ((h_27.2.1 1 (by decide)).trans (hP1.2.1))))), fun k _ _ => congrFun ((hF_60 9 (by decide)).trans ((h_54.1 9 (by decide)).trans ((hF_33 9 (by decide)).trans ((h_27.1 9 (by decide)).trans (hP1.1 9 (by decide)))))) k, Or.inl ⟨(p + 1), ci_l (pc_3 hDl eq1 ev1 ho1 (Or.inr (tk_l hDc (hP1.1 10 (by decide)) hv_1 h_15 c_19))), (ex_e hx_60 (by omega)).1.trans (by omega)⟩⟩
          · skip
            refine E_aload_n 3 dX4_readCarrier_71 rfl rfl ?_
            refine E_iload_n 1 dX4_readCarrier_72 rfl rfl ?_
            refine E_iload_n 0 dX4_readCarrier_73 rfl rfl ?_
            refine E_callV (c_X1_putCarrier l hfl 9 isD_9 mi_60 ml r_1 0 D.length (((congrArg Int32.toInt ((congrFun (hF_60 9 (by decide)) 5).trans ((congrFun (h_54.1 9 (by decide)) 5).trans ((congrFun (hF_33 9 (by decide)) 5).trans ((congrFun (h_27.1 9 (by decide)) 5).trans (congrFun (hP1.1 9 (by decide)) 5)))))).trans hDc.1).trans (by omega)) (by omega) (by omega)) cw_X4_69 (As := [.int r_1, .int 0]) (st := []) wi_yX1_putCarrier we_yX1_putCarrier (ci := 1) (q := (RX1, TX1, 15)) rfl rfl (wl_atO isD_9.t) rfl ⟨Nat.le_of_ble_eq_true rfl, Nat.le_of_ble_eq_true rfl, Nat.le_of_ble_eq_true rfl, Nat.le_of_ble_eq_true rfl⟩ (Nat.le_of_ble_eq_true rfl) dX4_readCarrier_74 (fun _ _ h => h) rfl (kE0 ?_)
            rw [show (mi_60 9 5) = (mi 9 5) from ((congrFun (hF_60 9 (by decide)) 5).trans ((congrFun (h_54.1 9 (by decide)) 5).trans ((congrFun (hF_33 9 (by decide)) 5).trans ((congrFun (h_27.1 9 (by decide)) 5).trans (congrFun (hP1.1 9 (by decide)) 5)))))]
            refine E_vret rfl (Nat.le_of_ble_eq_true rfl) (Nat.le_of_ble_eq_true rfl) dX4_readCarrier_77 ?_
            exact absurd c_68 (by omega)
        · skip
          refine E_iconst 1 (by decide) dX4_readCarrier_49 ?_
          refine E_goto 54 dX4_readCarrier_50 (by decide) ?_
          refine E_callV (c_X4_refuseNumberIfb l hfl mi_33 ml (1 : Int32) True (show (1 : Int32) = bI True from b1 trivial) (((p + 1) : Nat) : Int) (((p + 1) : Nat) : Int) ((congrArg Int32.toInt ((hk_33 3 (by decide) (by decide)).trans (h_27.2.1 3 (by decide)))).trans hP1.2.2.2.1) ((ex_e hx_33 (by omega)).1)) cw_X4_58 (As := [.int 1]) (st := []) wi_yX4_refuseNumberIf we_yX4_refuseNumberIf (ci := 4) (q := (RX4, TX4, 5)) rfl rfl (wl_atO tw_58) rfl ⟨Nat.le_of_ble_eq_true rfl, Nat.le_of_ble_eq_true rfl, Nat.le_of_ble_eq_true rfl, Nat.le_of_ble_eq_true rfl⟩ (Nat.le_of_ble_eq_true rfl) dX4_readCarrier_54 (fun _ _ h => h) rfl (kV (fun mi_54 ml_54 h_54 => ?_))
          obtain ⟨rfl, h_54⟩ := h_54
          refine E_aload_n 2 dX4_readCarrier_57 rfl rfl ?_
          refine E_bipush 59 (by decide) dX4_readCarrier_58 ?_
          refine E_callV (c_X4_expect l hfl mi_54 ml N ((congrArg Int32.toInt ((h_54.2.1 1 (by decide)).trans ((hk_33 1 (by decide) (by decide)).trans ((h_27.2.1 1 (by decide)).trans (hP1.2.1))))).trans hN) hN2 q1 (((congrArg Int32.toInt ((h_54.2.1 2 (by decide)).trans ((ex_e hx_33 (by omega)).2.trans (h_27.2.1 2 (by decide))))).trans hP1.2.2.1).trans (by omega)) (by omega) 59 59 (((p + 1) : Nat) : Int) (show (59 : Int32).toInt = 59 from rfl) ((h_54.2.2.resolve_left (fun z => absurd z.1 (by omega))).2)) cw_X4_62 (As := [.int 59]) (st := []) wi_yX4_expect we_yX4_expect (ci := 4) (q := (RX4, TX4, 5)) rfl rfl (wl_atO tw_58) rfl ⟨Nat.le_of_ble_eq_true rfl, Nat.le_of_ble_eq_true rfl, Nat.le_of_ble_eq_true rfl, Nat.le_of_ble_eq_true rfl⟩ (Nat.le_of_ble_eq_true rfl) dX4_readCarrier_60 (fun _ _ h => h) rfl (kV (fun mi_60 ml_60 h_60 => ?_))
          obtain ⟨rfl, hF_60, hk_60, hx_60⟩ := h_60
          rw [show mi_54 59 = mi 59 from ((h_54.1 59 (by decide)).trans ((hF_33 59 (by decide)).trans ((h_27.1 59 (by decide)).trans (hP1.1 59 (by decide)))))] at hx_60
          refine E_aload_n 2 dX4_readCarrier_63 rfl rfl ?_
          refine gf_X4_22 (mi_60 58 4) tw_58 rfl rfl dX4_readCarrier_64 ?_
          refine E_iconst (-1) (by decide) dX4_readCarrier_67 ?_
          refine Z_ne (((p + 1) : Nat) : Int) (-1) (ex_e hx_60 (by omega)).1 (show ((-1) : Int32).toInt = (-1) from rfl) 77 dX4_readCarrier_68 (by decide) (fun c_68 => ?_) (fun c_68 => ?_)
          · skip
            refine E_vret rfl (Nat.le_of_ble_eq_true rfl) (Nat.le_of_ble_eq_true rfl) dX4_readCarrier_77 ?_
            exact okQV ⟨rfl, Fr.w (Fr.trans (Fr.trans (Fr.trans (Fr.trans hP1.1 h_27.1 (fun _ h => h) (fun _ h => h)) hF_33 (fun _ h => h) (fun _ h => h)) h_54.1 (fun _ h => h) (fun _ h => h)) hF_60 (fun _ h => h) (fun _ h => h)) (by decide), ((hk_60 1 (by decide) (by decide)).trans ((h_54.2.1 1 (by decide)).trans ((hk_33 1 (by decide) (by decide)).trans ((h_27.2.1 1 (by decide)).trans (hP1.2.1))))), fun k _ _ => congrFun ((hF_60 9 (by decide)).trans ((h_54.1 9 (by decide)).trans ((hF_33 9 (by decide)).trans ((h_27.1 9 (by decide)).trans (hP1.1 9 (by decide)))))) k, Or.inl ⟨(p + 1), ci_l (pc_3 hDl eq1 ev1 ho1 (Or.inr (tk_l hDc (hP1.1 10 (by decide)) hv_1 h_15 c_19))), (ex_e hx_60 (by omega)).1.trans (by omega)⟩⟩
          · skip
            refine E_aload_n 3 dX4_readCarrier_71 rfl rfl ?_
            refine E_iload_n 1 dX4_readCarrier_72 rfl rfl ?_
            refine E_iload_n 0 dX4_readCarrier_73 rfl rfl ?_
            refine E_callV (c_X1_putCarrier l hfl 9 isD_9 mi_60 ml r_1 0 D.length (((congrArg Int32.toInt ((congrFun (hF_60 9 (by decide)) 5).trans ((congrFun (h_54.1 9 (by decide)) 5).trans ((congrFun (hF_33 9 (by decide)) 5).trans ((congrFun (h_27.1 9 (by decide)) 5).trans (congrFun (hP1.1 9 (by decide)) 5)))))).trans hDc.1).trans (by omega)) (by omega) (by omega)) cw_X4_69 (As := [.int r_1, .int 0]) (st := []) wi_yX1_putCarrier we_yX1_putCarrier (ci := 1) (q := (RX1, TX1, 15)) rfl rfl (wl_atO isD_9.t) rfl ⟨Nat.le_of_ble_eq_true rfl, Nat.le_of_ble_eq_true rfl, Nat.le_of_ble_eq_true rfl, Nat.le_of_ble_eq_true rfl⟩ (Nat.le_of_ble_eq_true rfl) dX4_readCarrier_74 (fun _ _ h => h) rfl (kE0 ?_)
            rw [show (mi_60 9 5) = (mi 9 5) from ((congrFun (hF_60 9 (by decide)) 5).trans ((congrFun (h_54.1 9 (by decide)) 5).trans ((congrFun (hF_33 9 (by decide)) 5).trans ((congrFun (h_27.1 9 (by decide)) 5).trans (congrFun (hP1.1 9 (by decide)) 5)))))]
            refine E_vret rfl (Nat.le_of_ble_eq_true rfl) (Nat.le_of_ble_eq_true rfl) dX4_readCarrier_77 ?_
            exact absurd c_68 (by omega)
  · skip
    refine E_aload_n 1 dX4_readCarrier_5 rfl rfl ?_
    refine E_iload_n 0 dX4_readCarrier_6 rfl rfl ?_
    refine E_callSN (c_X5_isChannel l hfl mi_1 ml r_1 (v1 : Int) hv_1) cw_X4_51 (As := [.int r_1]) (st := [.ref 58]) ws_yX5_isChannel rfl ⟨Nat.le_of_ble_eq_true rfl, Nat.le_of_ble_eq_true rfl, Nat.le_of_ble_eq_true rfl, Nat.le_of_ble_eq_true rfl⟩ (Nat.le_of_ble_eq_true rfl) dX4_readCarrier_7 (fun _ _ h => h) rfl (kE ?_)
    refine B_eq 22 dX4_readCarrier_10 (by decide) (fun c_10 => ?_) (fun c_10 => ?_)
    · skip
      refine E_iconst 1 (by decide) dX4_readCarrier_22 ?_
      refine E_goto 27 dX4_readCarrier_23 (by decide) ?_
      refine E_callV (c_X4_refuseNumberIfb l hfl mi_1 ml (1 : Int32) True (show (1 : Int32) = bI True from b1 trivial) (((p + 1) : Nat) : Int) (q1 : Int) hP1.2.2.2.1 hP1.2.2.2.2) cw_X4_58 (As := [.int 1]) (st := []) wi_yX4_refuseNumberIf we_yX4_refuseNumberIf (ci := 4) (q := (RX4, TX4, 5)) rfl rfl (wl_atO tw_58) rfl ⟨Nat.le_of_ble_eq_true rfl, Nat.le_of_ble_eq_true rfl, Nat.le_of_ble_eq_true rfl, Nat.le_of_ble_eq_true rfl⟩ (Nat.le_of_ble_eq_true rfl) dX4_readCarrier_27 (fun _ _ h => h) rfl (kV (fun mi_27 ml_27 h_27 => ?_))
      obtain ⟨rfl, h_27⟩ := h_27
      refine E_aload_n 1 dX4_readCarrier_30 rfl rfl ?_
      refine E_bipush 44 (by decide) dX4_readCarrier_31 ?_
      refine E_callV (c_X4_expect l hfl mi_27 ml N ((congrArg Int32.toInt ((h_27.2.1 1 (by decide)).trans (hP1.2.1))).trans hN) hN2 q1 (((congrArg Int32.toInt (h_27.2.1 2 (by decide))).trans hP1.2.2.1).trans (by omega)) (by omega) 44 44 (q1 : Int) (show (44 : Int32).toInt = 44 from rfl) ((h_27.2.2.resolve_left (fun z => absurd z.1 (by omega))).2)) cw_X4_62 (As := [.int 44]) (st := []) wi_yX4_expect we_yX4_expect (ci := 4) (q := (RX4, TX4, 5)) rfl rfl (wl_atO tw_58) rfl ⟨Nat.le_of_ble_eq_true rfl, Nat.le_of_ble_eq_true rfl, Nat.le_of_ble_eq_true rfl, Nat.le_of_ble_eq_true rfl⟩ (Nat.le_of_ble_eq_true rfl) dX4_readCarrier_33 (fun _ _ h => h) rfl (kV (fun mi_33 ml_33 h_33 => ?_))
      obtain ⟨rfl, hF_33, hk_33, hx_33⟩ := h_33
      rw [show mi_27 59 = mi 59 from ((h_27.1 59 (by decide)).trans (hP1.1 59 (by decide)))] at hx_33
      refine E_aload_n 1 dX4_readCarrier_36 rfl rfl ?_
      refine E_callV (c_X4_readNumberE l hfl mi_33 ml (fun z => absurd ((ex_e hx_33 (by omega)).1.symm.trans z) (by omega))) cw_X4_47 (As := []) (st := []) wi_yX4_readNumber we_yX4_readNumber (ci := 4) (q := (RX4, TX4, 5)) rfl rfl (wl_atO tw_58) rfl ⟨Nat.le_of_ble_eq_true rfl, Nat.le_of_ble_eq_true rfl, Nat.le_of_ble_eq_true rfl, Nat.le_of_ble_eq_true rfl⟩ (Nat.le_of_ble_eq_true rfl) dX4_readCarrier_37 (fun _ _ h => h) rfl (kE ?_)
      refine E_istore_n [(3, .int 0), (2, .int r_1), (0, .ref 58), (1, .ref 9)] dX4_readCarrier_40 rfl (by decide) rfl ?_
      refine E_aload_n 2 dX4_readCarrier_41 rfl rfl ?_
      refine E_iload_n 0 dX4_readCarrier_42 rfl rfl ?_
      refine E_callSN (c_X5_isLevel l hfl mi_33 ml 0 0 (show (0 : Int32).toInt = 0 from rfl)) cw_X4_66 (As := [.int 0]) (st := [.ref 58]) ws_yX5_isLevel rfl ⟨Nat.le_of_ble_eq_true rfl, Nat.le_of_ble_eq_true rfl, Nat.le_of_ble_eq_true rfl, Nat.le_of_ble_eq_true rfl⟩ (Nat.le_of_ble_eq_true rfl) dX4_readCarrier_43 (fun _ _ h => h) rfl (kE ?_)
      refine B_ne 53 dX4_readCarrier_46 (by decide) (fun c_46 => ?_) (fun c_46 => ?_)
      · skip
        refine E_iconst 0 (by decide) dX4_readCarrier_53 ?_
        refine E_callV (c_X4_refuseNumberIfb l hfl mi_33 ml (0 : Int32) False (show (0 : Int32) = bI False from b0 not_false) (((p + 1) : Nat) : Int) (q1 : Int) ((congrArg Int32.toInt ((hk_33 3 (by decide) (by decide)).trans (h_27.2.1 3 (by decide)))).trans hP1.2.2.2.1) ((ex_e hx_33 (by omega)).1)) cw_X4_58 (As := [.int 0]) (st := []) wi_yX4_refuseNumberIf we_yX4_refuseNumberIf (ci := 4) (q := (RX4, TX4, 5)) rfl rfl (wl_atO tw_58) rfl ⟨Nat.le_of_ble_eq_true rfl, Nat.le_of_ble_eq_true rfl, Nat.le_of_ble_eq_true rfl, Nat.le_of_ble_eq_true rfl⟩ (Nat.le_of_ble_eq_true rfl) dX4_readCarrier_54 (fun _ _ h => h) rfl (kV (fun mi_54 ml_54 h_54 => ?_))
        obtain ⟨rfl, h_54⟩ := h_54
        refine E_aload_n 2 dX4_readCarrier_57 rfl rfl ?_
        refine E_bipush 59 (by decide) dX4_readCarrier_58 ?_
        refine E_callV (c_X4_expect l hfl mi_54 ml N ((congrArg Int32.toInt ((h_54.2.1 1 (by decide)).trans ((hk_33 1 (by decide) (by decide)).trans ((h_27.2.1 1 (by decide)).trans (hP1.2.1))))).trans hN) hN2 q1 (((congrArg Int32.toInt ((h_54.2.1 2 (by decide)).trans ((ex_e hx_33 (by omega)).2.trans (h_27.2.1 2 (by decide))))).trans hP1.2.2.1).trans (by omega)) (by omega) 59 59 (q1 : Int) (show (59 : Int32).toInt = 59 from rfl) ((h_54.2.2.resolve_left (fun z => absurd z.1 (by omega))).2)) cw_X4_62 (As := [.int 59]) (st := []) wi_yX4_expect we_yX4_expect (ci := 4) (q := (RX4, TX4, 5)) rfl rfl (wl_atO tw_58) rfl ⟨Nat.le_of_ble_eq_true rfl, Nat.le_of_ble_eq_true rfl, Nat.le_of_ble_eq_true rfl, Nat.le_of_ble_eq_true rfl⟩ (Nat.le_of_ble_eq_true rfl) dX4_readCarrier_60 (fun _ _ h => h) rfl (kV (fun mi_60 ml_60 h_60 => ?_))
        obtain ⟨rfl, hF_60, hk_60, hx_60⟩ := h_60
        rw [show mi_54 59 = mi 59 from ((h_54.1 59 (by decide)).trans ((hF_33 59 (by decide)).trans ((h_27.1 59 (by decide)).trans (hP1.1 59 (by decide)))))] at hx_60
        refine E_aload_n 2 dX4_readCarrier_63 rfl rfl ?_
        refine gf_X4_22 (mi_60 58 4) tw_58 rfl rfl dX4_readCarrier_64 ?_
        refine E_iconst (-1) (by decide) dX4_readCarrier_67 ?_
        refine Z_ne (q1 : Int) (-1) (ex_e hx_60 (by omega)).1 (show ((-1) : Int32).toInt = (-1) from rfl) 77 dX4_readCarrier_68 (by decide) (fun c_68 => ?_) (fun c_68 => ?_)
        · skip
          refine E_vret rfl (Nat.le_of_ble_eq_true rfl) (Nat.le_of_ble_eq_true rfl) dX4_readCarrier_77 ?_
          exact okQV ⟨rfl, Fr.w (Fr.trans (Fr.trans (Fr.trans (Fr.trans hP1.1 h_27.1 (fun _ h => h) (fun _ h => h)) hF_33 (fun _ h => h) (fun _ h => h)) h_54.1 (fun _ h => h) (fun _ h => h)) hF_60 (fun _ h => h) (fun _ h => h)) (by decide), ((hk_60 1 (by decide) (by decide)).trans ((h_54.2.1 1 (by decide)).trans ((hk_33 1 (by decide) (by decide)).trans ((h_27.2.1 1 (by decide)).trans (hP1.2.1))))), fun k _ _ => congrFun ((hF_60 9 (by decide)).trans ((h_54.1 9 (by decide)).trans ((hF_33 9 (by decide)).trans ((h_27.1 9 (by decide)).trans (hP1.1 9 (by decide)))))) k, Or.inl ⟨q1, ci_l (pc_2 hDl eq1 ho1), (ex_e hx_60 (by omega)).1.trans (by omega)⟩⟩
        · skip
          refine E_aload_n 3 dX4_readCarrier_71 rfl rfl ?_
          refine E_iload_n 1 dX4_readCarrier_72 rfl rfl ?_
          refine E_iload_n 0 dX4_readCarrier_73 rfl rfl ?_
          refine E_callV (c_X1_putCarrier l hfl 9 isD_9 mi_60 ml r_1 0 D.length (((congrArg Int32.toInt ((congrFun (hF_60 9 (by decide)) 5).trans ((congrFun (h_54.1 9 (by decide)) 5).trans ((congrFun (hF_33 9 (by decide)) 5).trans ((congrFun (h_27.1 9 (by decide)) 5).trans (congrFun (hP1.1 9 (by decide)) 5)))))).trans hDc.1).trans (by omega)) (by omega) (by omega)) cw_X4_69 (As := [.int r_1, .int 0]) (st := []) wi_yX1_putCarrier we_yX1_putCarrier (ci := 1) (q := (RX1, TX1, 15)) rfl rfl (wl_atO isD_9.t) rfl ⟨Nat.le_of_ble_eq_true rfl, Nat.le_of_ble_eq_true rfl, Nat.le_of_ble_eq_true rfl, Nat.le_of_ble_eq_true rfl⟩ (Nat.le_of_ble_eq_true rfl) dX4_readCarrier_74 (fun _ _ h => h) rfl (kE0 ?_)
          rw [show (mi_60 9 5) = (mi 9 5) from ((congrFun (hF_60 9 (by decide)) 5).trans ((congrFun (h_54.1 9 (by decide)) 5).trans ((congrFun (hF_33 9 (by decide)) 5).trans ((congrFun (h_27.1 9 (by decide)) 5).trans (congrFun (hP1.1 9 (by decide)) 5)))))]
          refine E_vret rfl (Nat.le_of_ble_eq_true rfl) (Nat.le_of_ble_eq_true rfl) dX4_readCarrier_77 ?_
          exact absurd c_68 (by omega)
      · skip
        refine E_iconst 1 (by decide) dX4_readCarrier_49 ?_
        refine E_goto 54 dX4_readCarrier_50 (by decide) ?_
        refine E_callV (c_X4_refuseNumberIfb l hfl mi_33 ml (1 : Int32) True (show (1 : Int32) = bI True from b1 trivial) (((p + 1) : Nat) : Int) (q1 : Int) ((congrArg Int32.toInt ((hk_33 3 (by decide) (by decide)).trans (h_27.2.1 3 (by decide)))).trans hP1.2.2.2.1) ((ex_e hx_33 (by omega)).1)) cw_X4_58 (As := [.int 1]) (st := []) wi_yX4_refuseNumberIf we_yX4_refuseNumberIf (ci := 4) (q := (RX4, TX4, 5)) rfl rfl (wl_atO tw_58) rfl ⟨Nat.le_of_ble_eq_true rfl, Nat.le_of_ble_eq_true rfl, Nat.le_of_ble_eq_true rfl, Nat.le_of_ble_eq_true rfl⟩ (Nat.le_of_ble_eq_true rfl) dX4_readCarrier_54 (fun _ _ h => h) rfl (kV (fun mi_54 ml_54 h_54 => ?_))
        obtain ⟨rfl, h_54⟩ := h_54
        refine E_aload_n 2 dX4_readCarrier_57 rfl rfl ?_
        refine E_bipush 59 (by decide) dX4_readCarrier_58 ?_
        refine E_callV (c_X4_expect l hfl mi_54 ml N ((congrArg Int32.toInt ((h_54.2.1 1 (by decide)).trans ((hk_33 1 (by decide) (by decide)).trans ((h_27.2.1 1 (by decide)).trans (hP1.2.1))))).trans hN) hN2 q1 (((congrArg Int32.toInt ((h_54.2.1 2 (by decide)).trans ((ex_e hx_33 (by omega)).2.trans (h_27.2.1 2 (by decide))))).trans hP1.2.2.1).trans (by omega)) (by omega) 59 59 (q1 : Int) (show (59 : Int32).toInt = 59 from rfl) ((h_54.2.2.resolve_left (fun z => absurd z.1 (by omega))).2)) cw_X4_62 (As := [.int 59]) (st := []) wi_yX4_expect we_yX4_expect (ci := 4) (q := (RX4, TX4, 5)) rfl rfl (wl_atO tw_58) rfl ⟨Nat.le_of_ble_eq_true rfl, Nat.le_of_ble_eq_true rfl, Nat.le_of_ble_eq_true rfl, Nat.le_of_ble_eq_true rfl⟩ (Nat.le_of_ble_eq_true rfl) dX4_readCarrier_60 (fun _ _ h => h) rfl (kV (fun mi_60 ml_60 h_60 => ?_))
        obtain ⟨rfl, hF_60, hk_60, hx_60⟩ := h_60
        rw [show mi_54 59 = mi 59 from ((h_54.1 59 (by decide)).trans ((hF_33 59 (by decide)).trans ((h_27.1 59 (by decide)).trans (hP1.1 59 (by decide)))))] at hx_60
        refine E_aload_n 2 dX4_readCarrier_63 rfl rfl ?_
        refine gf_X4_22 (mi_60 58 4) tw_58 rfl rfl dX4_readCarrier_64 ?_
        refine E_iconst (-1) (by decide) dX4_readCarrier_67 ?_
        refine Z_ne (q1 : Int) (-1) (ex_e hx_60 (by omega)).1 (show ((-1) : Int32).toInt = (-1) from rfl) 77 dX4_readCarrier_68 (by decide) (fun c_68 => ?_) (fun c_68 => ?_)
        · skip
          refine E_vret rfl (Nat.le_of_ble_eq_true rfl) (Nat.le_of_ble_eq_true rfl) dX4_readCarrier_77 ?_
          exact okQV ⟨rfl, Fr.w (Fr.trans (Fr.trans (Fr.trans (Fr.trans hP1.1 h_27.1 (fun _ h => h) (fun _ h => h)) hF_33 (fun _ h => h) (fun _ h => h)) h_54.1 (fun _ h => h) (fun _ h => h)) hF_60 (fun _ h => h) (fun _ h => h)) (by decide), ((hk_60 1 (by decide) (by decide)).trans ((h_54.2.1 1 (by decide)).trans ((hk_33 1 (by decide) (by decide)).trans ((h_27.2.1 1 (by decide)).trans (hP1.2.1))))), fun k _ _ => congrFun ((hF_60 9 (by decide)).trans ((h_54.1 9 (by decide)).trans ((hF_33 9 (by decide)).trans ((h_27.1 9 (by decide)).trans (hP1.1 9 (by decide)))))) k, Or.inl ⟨q1, ci_l (pc_2 hDl eq1 ho1), (ex_e hx_60 (by omega)).1.trans (by omega)⟩⟩
        · skip
          refine E_aload_n 3 dX4_readCarrier_71 rfl rfl ?_
          refine E_iload_n 1 dX4_readCarrier_72 rfl rfl ?_
          refine E_iload_n 0 dX4_readCarrier_73 rfl rfl ?_
          refine E_callV (c_X1_putCarrier l hfl 9 isD_9 mi_60 ml r_1 0 D.length (((congrArg Int32.toInt ((congrFun (hF_60 9 (by decide)) 5).trans ((congrFun (h_54.1 9 (by decide)) 5).trans ((congrFun (hF_33 9 (by decide)) 5).trans ((congrFun (h_27.1 9 (by decide)) 5).trans (congrFun (hP1.1 9 (by decide)) 5)))))).trans hDc.1).trans (by omega)) (by omega) (by omega)) cw_X4_69 (As := [.int r_1, .int 0]) (st := []) wi_yX1_putCarrier we_yX1_putCarrier (ci := 1) (q := (RX1, TX1, 15)) rfl rfl (wl_atO isD_9.t) rfl ⟨Nat.le_of_ble_eq_true rfl, Nat.le_of_ble_eq_true rfl, Nat.le_of_ble_eq_true rfl, Nat.le_of_ble_eq_true rfl⟩ (Nat.le_of_ble_eq_true rfl) dX4_readCarrier_74 (fun _ _ h => h) rfl (kE0 ?_)
          rw [show (mi_60 9 5) = (mi 9 5) from ((congrFun (hF_60 9 (by decide)) 5).trans ((congrFun (h_54.1 9 (by decide)) 5).trans ((congrFun (hF_33 9 (by decide)) 5).trans ((congrFun (h_27.1 9 (by decide)) 5).trans (congrFun (hP1.1 9 (by decide)) 5)))))]
          refine E_vret rfl (Nat.le_of_ble_eq_true rfl) (Nat.le_of_ble_eq_true rfl) dX4_readCarrier_77 ?_
          exact absurd c_68 (by omega)
    · skip
      refine E_aload_n 2 dX4_readCarrier_13 rfl rfl ?_
      refine E_iload_n 0 dX4_readCarrier_14 rfl rfl ?_
      refine E_callV (c_X1_carrierOn l hfl 9 isD_9 mi_1 ml r_1 D.length (((congrArg Int32.toInt (congrFun (hP1.1 9 (by decide)) 5)).trans hDc.1).trans (by omega)) (by omega)) cw_X4_55 (As := [.int r_1]) (st := [.ref 58]) wi_yX1_carrierOn we_yX1_carrierOn (ci := 1) (q := (RX1, TX1, 15)) rfl rfl (wl_atO isD_9.t) rfl ⟨Nat.le_of_ble_eq_true rfl, Nat.le_of_ble_eq_true rfl, Nat.le_of_ble_eq_true rfl, Nat.le_of_ble_eq_true rfl⟩ (Nat.le_of_ble_eq_true rfl) dX4_readCarrier_15 (fun _ _ h => h) rfl (kI (fun r_15 mi_15 ml_15 h_15 => ?_))
      obtain ⟨rfl, rfl, h_15⟩ := h_15
      refine E_iconst (-1) (by decide) dX4_readCarrier_18 ?_
      refine Z_eq r_15.toInt (-1) rfl (show ((-1) : Int32).toInt = (-1) from rfl) 26 dX4_readCarrier_19 (by decide) (fun c_19 => ?_) (fun c_19 => ?_)
      · skip
        refine E_iconst 0 (by decide) dX4_readCarrier_26 ?_
        refine E_callV (c_X4_refuseNumberIfb l hfl mi_1 ml (0 : Int32) False (show (0 : Int32) = bI False from b0 not_false) (((p + 1) : Nat) : Int) (q1 : Int) hP1.2.2.2.1 hP1.2.2.2.2) cw_X4_58 (As := [.int 0]) (st := []) wi_yX4_refuseNumberIf we_yX4_refuseNumberIf (ci := 4) (q := (RX4, TX4, 5)) rfl rfl (wl_atO tw_58) rfl ⟨Nat.le_of_ble_eq_true rfl, Nat.le_of_ble_eq_true rfl, Nat.le_of_ble_eq_true rfl, Nat.le_of_ble_eq_true rfl⟩ (Nat.le_of_ble_eq_true rfl) dX4_readCarrier_27 (fun _ _ h => h) rfl (kV (fun mi_27 ml_27 h_27 => ?_))
        obtain ⟨rfl, h_27⟩ := h_27
        refine E_aload_n 1 dX4_readCarrier_30 rfl rfl ?_
        refine E_bipush 44 (by decide) dX4_readCarrier_31 ?_
        refine E_callV (c_X4_expect l hfl mi_27 ml N ((congrArg Int32.toInt ((h_27.2.1 1 (by decide)).trans (hP1.2.1))).trans hN) hN2 q1 (((congrArg Int32.toInt (h_27.2.1 2 (by decide))).trans hP1.2.2.1).trans (by omega)) (by omega) 44 44 (q1 : Int) (show (44 : Int32).toInt = 44 from rfl) ((h_27.2.2.resolve_left (fun z => absurd z.1 (by omega))).2)) cw_X4_62 (As := [.int 44]) (st := []) wi_yX4_expect we_yX4_expect (ci := 4) (q := (RX4, TX4, 5)) rfl rfl (wl_atO tw_58) rfl ⟨Nat.le_of_ble_eq_true rfl, Nat.le_of_ble_eq_true rfl, Nat.le_of_ble_eq_true rfl, Nat.le_of_ble_eq_true rfl⟩ (Nat.le_of_ble_eq_true rfl) dX4_readCarrier_33 (fun _ _ h => h) rfl (kV (fun mi_33 ml_33 h_33 => ?_))
        obtain ⟨rfl, hF_33, hk_33, hx_33⟩ := h_33
        rw [show mi_27 59 = mi 59 from ((h_27.1 59 (by decide)).trans (hP1.1 59 (by decide)))] at hx_33
        refine E_aload_n 1 dX4_readCarrier_36 rfl rfl ?_
        refine E_callV (c_X4_readNumberE l hfl mi_33 ml (fun z => absurd ((ex_e hx_33 (by omega)).1.symm.trans z) (by omega))) cw_X4_47 (As := []) (st := []) wi_yX4_readNumber we_yX4_readNumber (ci := 4) (q := (RX4, TX4, 5)) rfl rfl (wl_atO tw_58) rfl ⟨Nat.le_of_ble_eq_true rfl, Nat.le_of_ble_eq_true rfl, Nat.le_of_ble_eq_true rfl, Nat.le_of_ble_eq_true rfl⟩ (Nat.le_of_ble_eq_true rfl) dX4_readCarrier_37 (fun _ _ h => h) rfl (kE ?_)
        refine E_istore_n [(3, .int 0), (2, .int r_1), (0, .ref 58), (1, .ref 9)] dX4_readCarrier_40 rfl (by decide) rfl ?_
        refine E_aload_n 2 dX4_readCarrier_41 rfl rfl ?_
        refine E_iload_n 0 dX4_readCarrier_42 rfl rfl ?_
        refine E_callSN (c_X5_isLevel l hfl mi_33 ml 0 0 (show (0 : Int32).toInt = 0 from rfl)) cw_X4_66 (As := [.int 0]) (st := [.ref 58]) ws_yX5_isLevel rfl ⟨Nat.le_of_ble_eq_true rfl, Nat.le_of_ble_eq_true rfl, Nat.le_of_ble_eq_true rfl, Nat.le_of_ble_eq_true rfl⟩ (Nat.le_of_ble_eq_true rfl) dX4_readCarrier_43 (fun _ _ h => h) rfl (kE ?_)
        refine B_ne 53 dX4_readCarrier_46 (by decide) (fun c_46 => ?_) (fun c_46 => ?_)
        · skip
          refine E_iconst 0 (by decide) dX4_readCarrier_53 ?_
          refine E_callV (c_X4_refuseNumberIfb l hfl mi_33 ml (0 : Int32) False (show (0 : Int32) = bI False from b0 not_false) (((p + 1) : Nat) : Int) (q1 : Int) ((congrArg Int32.toInt ((hk_33 3 (by decide) (by decide)).trans (h_27.2.1 3 (by decide)))).trans hP1.2.2.2.1) ((ex_e hx_33 (by omega)).1)) cw_X4_58 (As := [.int 0]) (st := []) wi_yX4_refuseNumberIf we_yX4_refuseNumberIf (ci := 4) (q := (RX4, TX4, 5)) rfl rfl (wl_atO tw_58) rfl ⟨Nat.le_of_ble_eq_true rfl, Nat.le_of_ble_eq_true rfl, Nat.le_of_ble_eq_true rfl, Nat.le_of_ble_eq_true rfl⟩ (Nat.le_of_ble_eq_true rfl) dX4_readCarrier_54 (fun _ _ h => h) rfl (kV (fun mi_54 ml_54 h_54 => ?_))
          obtain ⟨rfl, h_54⟩ := h_54
          refine E_aload_n 2 dX4_readCarrier_57 rfl rfl ?_
          refine E_bipush 59 (by decide) dX4_readCarrier_58 ?_
          refine E_callV (c_X4_expect l hfl mi_54 ml N ((congrArg Int32.toInt ((h_54.2.1 1 (by decide)).trans ((hk_33 1 (by decide) (by decide)).trans ((h_27.2.1 1 (by decide)).trans (hP1.2.1))))).trans hN) hN2 q1 (((congrArg Int32.toInt ((h_54.2.1 2 (by decide)).trans ((ex_e hx_33 (by omega)).2.trans (h_27.2.1 2 (by decide))))).trans hP1.2.2.1).trans (by omega)) (by omega) 59 59 (q1 : Int) (show (59 : Int32).toInt = 59 from rfl) ((h_54.2.2.resolve_left (fun z => absurd z.1 (by omega))).2)) cw_X4_62 (As := [.int 59]) (st := []) wi_yX4_expect we_yX4_expect (ci := 4) (q := (RX4, TX4, 5)) rfl rfl (wl_atO tw_58) rfl ⟨Nat.le_of_ble_eq_true rfl, Nat.le_of_ble_eq_true rfl, Nat.le_of_ble_eq_true rfl, Nat.le_of_ble_eq_true rfl⟩ (Nat.le_of_ble_eq_true rfl) dX4_readCarrier_60 (fun _ _ h => h) rfl (kV (fun mi_60 ml_60 h_60 => ?_))
          obtain ⟨rfl, hF_60, hk_60, hx_60⟩ := h_60
          rw [show mi_54 59 = mi 59 from ((h_54.1 59 (by decide)).trans ((hF_33 59 (by decide)).trans ((h_27.1 59 (by decide)).trans (hP1.1 59 (by decide)))))] at hx_60
          refine E_aload_n 2 dX4_readCarrier_63 rfl rfl ?_
          refine gf_X4_22 (mi_60 58 4) tw_58 rfl rfl dX4_readCarrier_64 ?_
          refine E_iconst (-1) (by decide) dX4_readCarrier_67 ?_
          refine Z_ne (q1 : Int) (-1) (ex_e hx_60 (by omega)).1 (show ((-1) : Int32).toInt = (-1) from rfl) 77 dX4_readCarrier_68 (by decide) (fun c_68 => ?_) (fun c_68 => ?_)
          · skip
            refine E_vret rfl (Nat.le_of_ble_eq_true rfl) (Nat.le_of_ble_eq_true rfl) dX4_readCarrier_77 ?_
            exact okQV ⟨rfl, Fr.w (Fr.trans (Fr.trans (Fr.trans (Fr.trans hP1.1 h_27.1 (fun _ h => h) (fun _ h => h)) hF_33 (fun _ h => h) (fun _ h => h)) h_54.1 (fun _ h => h) (fun _ h => h)) hF_60 (fun _ h => h) (fun _ h => h)) (by decide), ((hk_60 1 (by decide) (by decide)).trans ((h_54.2.1 1 (by decide)).trans ((hk_33 1 (by decide) (by decide)).trans ((h_27.2.1 1 (by decide)).trans (hP1.2.1))))), fun k _ _ => congrFun ((hF_60 9 (by decide)).trans ((h_54.1 9 (by decide)).trans ((hF_33 9 (by decide)).trans ((h_27.1 9 (by decide)).trans (hP1.1 9 (by decide)))))) k, Or.inl ⟨q1, ci_l (pc_2 hDl eq1 ho1), (ex_e hx_60 (by omega)).1.trans (by omega)⟩⟩
          · skip
            refine E_aload_n 3 dX4_readCarrier_71 rfl rfl ?_
            refine E_iload_n 1 dX4_readCarrier_72 rfl rfl ?_
            refine E_iload_n 0 dX4_readCarrier_73 rfl rfl ?_
            refine E_callV (c_X1_putCarrier l hfl 9 isD_9 mi_60 ml r_1 0 D.length (((congrArg Int32.toInt ((congrFun (hF_60 9 (by decide)) 5).trans ((congrFun (h_54.1 9 (by decide)) 5).trans ((congrFun (hF_33 9 (by decide)) 5).trans ((congrFun (h_27.1 9 (by decide)) 5).trans (congrFun (hP1.1 9 (by decide)) 5)))))).trans hDc.1).trans (by omega)) (by omega) (by omega)) cw_X4_69 (As := [.int r_1, .int 0]) (st := []) wi_yX1_putCarrier we_yX1_putCarrier (ci := 1) (q := (RX1, TX1, 15)) rfl rfl (wl_atO isD_9.t) rfl ⟨Nat.le_of_ble_eq_true rfl, Nat.le_of_ble_eq_true rfl, Nat.le_of_ble_eq_true rfl, Nat.le_of_ble_eq_true rfl⟩ (Nat.le_of_ble_eq_true rfl) dX4_readCarrier_74 (fun _ _ h => h) rfl (kE0 ?_)
            rw [show (mi_60 9 5) = (mi 9 5) from ((congrFun (hF_60 9 (by decide)) 5).trans ((congrFun (h_54.1 9 (by decide)) 5).trans ((congrFun (hF_33 9 (by decide)) 5).trans ((congrFun (h_27.1 9 (by decide)) 5).trans (congrFun (hP1.1 9 (by decide)) 5)))))]
            refine E_vret rfl (Nat.le_of_ble_eq_true rfl) (Nat.le_of_ble_eq_true rfl) dX4_readCarrier_77 ?_
            exact absurd c_68 (by omega)
        · skip
          refine E_iconst 1 (by decide) dX4_readCarrier_49 ?_
          refine E_goto 54 dX4_readCarrier_50 (by decide) ?_
          refine E_callV (c_X4_refuseNumberIfb l hfl mi_33 ml (1 : Int32) True (show (1 : Int32) = bI True from b1 trivial) (((p + 1) : Nat) : Int) (q1 : Int) ((congrArg Int32.toInt ((hk_33 3 (by decide) (by decide)).trans (h_27.2.1 3 (by decide)))).trans hP1.2.2.2.1) ((ex_e hx_33 (by omega)).1)) cw_X4_58 (As := [.int 1]) (st := []) wi_yX4_refuseNumberIf we_yX4_refuseNumberIf (ci := 4) (q := (RX4, TX4, 5)) rfl rfl (wl_atO tw_58) rfl ⟨Nat.le_of_ble_eq_true rfl, Nat.le_of_ble_eq_true rfl, Nat.le_of_ble_eq_true rfl, Nat.le_of_ble_eq_true rfl⟩ (Nat.le_of_ble_eq_true rfl) dX4_readCarrier_54 (fun _ _ h => h) rfl (kV (fun mi_54 ml_54 h_54 => ?_))
          obtain ⟨rfl, h_54⟩ := h_54
          refine E_aload_n 2 dX4_readCarrier_57 rfl rfl ?_
          refine E_bipush 59 (by decide) dX4_readCarrier_58 ?_
          refine E_callV (c_X4_expect l hfl mi_54 ml N ((congrArg Int32.toInt ((h_54.2.1 1 (by decide)).trans ((hk_33 1 (by decide) (by decide)).trans ((h_27.2.1 1 (by decide)).trans (hP1.2.1))))).trans hN) hN2 q1 (((congrArg Int32.toInt ((h_54.2.1 2 (by decide)).trans ((ex_e hx_33 (by omega)).2.trans (h_27.2.1 2 (by decide))))).trans hP1.2.2.1).trans (by omega)) (by omega) 59 59 (q1 : Int) (show (59 : Int32).toInt = 59 from rfl) ((h_54.2.2.resolve_left (fun z => absurd z.1 (by omega))).2)) cw_X4_62 (As := [.int 59]) (st := []) wi_yX4_expect we_yX4_expect (ci := 4) (q := (RX4, TX4, 5)) rfl rfl (wl_atO tw_58) rfl ⟨Nat.le_of_ble_eq_true rfl, Nat.le_of_ble_eq_true rfl, Nat.le_of_ble_eq_true rfl, Nat.le_of_ble_eq_true rfl⟩ (Nat.le_of_ble_eq_true rfl) dX4_readCarrier_60 (fun _ _ h => h) rfl (kV (fun mi_60 ml_60 h_60 => ?_))
          obtain ⟨rfl, hF_60, hk_60, hx_60⟩ := h_60
          rw [show mi_54 59 = mi 59 from ((h_54.1 59 (by decide)).trans ((hF_33 59 (by decide)).trans ((h_27.1 59 (by decide)).trans (hP1.1 59 (by decide)))))] at hx_60
          refine E_aload_n 2 dX4_readCarrier_63 rfl rfl ?_
          refine gf_X4_22 (mi_60 58 4) tw_58 rfl rfl dX4_readCarrier_64 ?_
          refine E_iconst (-1) (by decide) dX4_readCarrier_67 ?_
          refine Z_ne (q1 : Int) (-1) (ex_e hx_60 (by omega)).1 (show ((-1) : Int32).toInt = (-1) from rfl) 77 dX4_readCarrier_68 (by decide) (fun c_68 => ?_) (fun c_68 => ?_)
          · skip
            refine E_vret rfl (Nat.le_of_ble_eq_true rfl) (Nat.le_of_ble_eq_true rfl) dX4_readCarrier_77 ?_
            exact okQV ⟨rfl, Fr.w (Fr.trans (Fr.trans (Fr.trans (Fr.trans hP1.1 h_27.1 (fun _ h => h) (fun _ h => h)) hF_33 (fun _ h => h) (fun _ h => h)) h_54.1 (fun _ h => h) (fun _ h => h)) hF_60 (fun _ h => h) (fun _ h => h)) (by decide), ((hk_60 1 (by decide) (by decide)).trans ((h_54.2.1 1 (by decide)).trans ((hk_33 1 (by decide) (by decide)).trans ((h_27.2.1 1 (by decide)).trans (hP1.2.1))))), fun k _ _ => congrFun ((hF_60 9 (by decide)).trans ((h_54.1 9 (by decide)).trans ((hF_33 9 (by decide)).trans ((h_27.1 9 (by decide)).trans (hP1.1 9 (by decide)))))) k, Or.inl ⟨q1, ci_l (pc_2 hDl eq1 ho1), (ex_e hx_60 (by omega)).1.trans (by omega)⟩⟩
          · skip
            refine E_aload_n 3 dX4_readCarrier_71 rfl rfl ?_
            refine E_iload_n 1 dX4_readCarrier_72 rfl rfl ?_
            refine E_iload_n 0 dX4_readCarrier_73 rfl rfl ?_
            refine E_callV (c_X1_putCarrier l hfl 9 isD_9 mi_60 ml r_1 0 D.length (((congrArg Int32.toInt ((congrFun (hF_60 9 (by decide)) 5).trans ((congrFun (h_54.1 9 (by decide)) 5).trans ((congrFun (hF_33 9 (by decide)) 5).trans ((congrFun (h_27.1 9 (by decide)) 5).trans (congrFun (hP1.1 9 (by decide)) 5)))))).trans hDc.1).trans (by omega)) (by omega) (by omega)) cw_X4_69 (As := [.int r_1, .int 0]) (st := []) wi_yX1_putCarrier we_yX1_putCarrier (ci := 1) (q := (RX1, TX1, 15)) rfl rfl (wl_atO isD_9.t) rfl ⟨Nat.le_of_ble_eq_true rfl, Nat.le_of_ble_eq_true rfl, Nat.le_of_ble_eq_true rfl, Nat.le_of_ble_eq_true rfl⟩ (Nat.le_of_ble_eq_true rfl) dX4_readCarrier_74 (fun _ _ h => h) rfl (kE0 ?_)
            rw [show (mi_60 9 5) = (mi 9 5) from ((congrFun (hF_60 9 (by decide)) 5).trans ((congrFun (h_54.1 9 (by decide)) 5).trans ((congrFun (hF_33 9 (by decide)) 5).trans ((congrFun (h_27.1 9 (by decide)) 5).trans (congrFun (hP1.1 9 (by decide)) 5)))))]
            refine E_vret rfl (Nat.le_of_ble_eq_true rfl) (Nat.le_of_ble_eq_true rfl) dX4_readCarrier_77 ?_
            exact absurd c_68 (by omega)
      · skip
        refine E_iconst 1 (by decide) dX4_readCarrier_22 ?_
        refine E_goto 27 dX4_readCarrier_23 (by decide) ?_
        refine E_callV (c_X4_refuseNumberIfb l hfl mi_1 ml (1 : Int32) True (show (1 : Int32) = bI True from b1 trivial) (((p + 1) : Nat) : Int) (q1 : Int) hP1.2.2.2.1 hP1.2.2.2.2) cw_X4_58 (As := [.int 1]) (st := []) wi_yX4_refuseNumberIf we_yX4_refuseNumberIf (ci := 4) (q := (RX4, TX4, 5)) rfl rfl (wl_atO tw_58) rfl ⟨Nat.le_of_ble_eq_true rfl, Nat.le_of_ble_eq_true rfl, Nat.le_of_ble_eq_true rfl, Nat.le_of_ble_eq_true rfl⟩ (Nat.le_of_ble_eq_true rfl) dX4_readCarrier_27 (fun _ _ h => h) rfl (kV (fun mi_27 ml_27 h_27 => ?_))
        obtain ⟨rfl, h_27⟩ := h_27
        refine E_aload_n 1 dX4_readCarrier_30 rfl rfl ?_
        refine E_bipush 44 (by decide) dX4_readCarrier_31 ?_
        refine E_callV (c_X4_expect l hfl mi_27 ml N ((congrArg Int32.toInt ((h_27.2.1 1 (by decide)).trans (hP1.2.1))).trans hN) hN2 q1 (((congrArg Int32.toInt (h_27.2.1 2 (by decide))).trans hP1.2.2.1).trans (by omega)) (by omega) 44 44 (q1 : Int) (show (44 : Int32).toInt = 44 from rfl) ((h_27.2.2.resolve_left (fun z => absurd z.1 (by omega))).2)) cw_X4_62 (As := [.int 44]) (st := []) wi_yX4_expect we_yX4_expect (ci := 4) (q := (RX4, TX4, 5)) rfl rfl (wl_atO tw_58) rfl ⟨Nat.le_of_ble_eq_true rfl, Nat.le_of_ble_eq_true rfl, Nat.le_of_ble_eq_true rfl, Nat.le_of_ble_eq_true rfl⟩ (Nat.le_of_ble_eq_true rfl) dX4_readCarrier_33 (fun _ _ h => h) rfl (kV (fun mi_33 ml_33 h_33 => ?_))
        obtain ⟨rfl, hF_33, hk_33, hx_33⟩ := h_33
        rw [show mi_27 59 = mi 59 from ((h_27.1 59 (by decide)).trans (hP1.1 59 (by decide)))] at hx_33
        refine E_aload_n 1 dX4_readCarrier_36 rfl rfl ?_
        refine E_callV (c_X4_readNumberE l hfl mi_33 ml (fun z => absurd ((ex_e hx_33 (by omega)).1.symm.trans z) (by omega))) cw_X4_47 (As := []) (st := []) wi_yX4_readNumber we_yX4_readNumber (ci := 4) (q := (RX4, TX4, 5)) rfl rfl (wl_atO tw_58) rfl ⟨Nat.le_of_ble_eq_true rfl, Nat.le_of_ble_eq_true rfl, Nat.le_of_ble_eq_true rfl, Nat.le_of_ble_eq_true rfl⟩ (Nat.le_of_ble_eq_true rfl) dX4_readCarrier_37 (fun _ _ h => h) rfl (kE ?_)
        refine E_istore_n [(3, .int 0), (2, .int r_1), (0, .ref 58), (1, .ref 9)] dX4_readCarrier_40 rfl (by decide) rfl ?_
        refine E_aload_n 2 dX4_readCarrier_41 rfl rfl ?_
        refine E_iload_n 0 dX4_readCarrier_42 rfl rfl ?_
        refine E_callSN (c_X5_isLevel l hfl mi_33 ml 0 0 (show (0 : Int32).toInt = 0 from rfl)) cw_X4_66 (As := [.int 0]) (st := [.ref 58]) ws_yX5_isLevel rfl ⟨Nat.le_of_ble_eq_true rfl, Nat.le_of_ble_eq_true rfl, Nat.le_of_ble_eq_true rfl, Nat.le_of_ble_eq_true rfl⟩ (Nat.le_of_ble_eq_true rfl) dX4_readCarrier_43 (fun _ _ h => h) rfl (kE ?_)
        refine B_ne 53 dX4_readCarrier_46 (by decide) (fun c_46 => ?_) (fun c_46 => ?_)
        · skip
          refine E_iconst 0 (by decide) dX4_readCarrier_53 ?_
          refine E_callV (c_X4_refuseNumberIfb l hfl mi_33 ml (0 : Int32) False (show (0 : Int32) = bI False from b0 not_false) (((p + 1) : Nat) : Int) (q1 : Int) ((congrArg Int32.toInt ((hk_33 3 (by decide) (by decide)).trans (h_27.2.1 3 (by decide)))).trans hP1.2.2.2.1) ((ex_e hx_33 (by omega)).1)) cw_X4_58 (As := [.int 0]) (st := []) wi_yX4_refuseNumberIf we_yX4_refuseNumberIf (ci := 4) (q := (RX4, TX4, 5)) rfl rfl (wl_atO tw_58) rfl ⟨Nat.le_of_ble_eq_true rfl, Nat.le_of_ble_eq_true rfl, Nat.le_of_ble_eq_true rfl, Nat.le_of_ble_eq_true rfl⟩ (Nat.le_of_ble_eq_true rfl) dX4_readCarrier_54 (fun _ _ h => h) rfl (kV (fun mi_54 ml_54 h_54 => ?_))
          obtain ⟨rfl, h_54⟩ := h_54
          refine E_aload_n 2 dX4_readCarrier_57 rfl rfl ?_
          refine E_bipush 59 (by decide) dX4_readCarrier_58 ?_
          refine E_callV (c_X4_expect l hfl mi_54 ml N ((congrArg Int32.toInt ((h_54.2.1 1 (by decide)).trans ((hk_33 1 (by decide) (by decide)).trans ((h_27.2.1 1 (by decide)).trans (hP1.2.1))))).trans hN) hN2 q1 (((congrArg Int32.toInt ((h_54.2.1 2 (by decide)).trans ((ex_e hx_33 (by omega)).2.trans (h_27.2.1 2 (by decide))))).trans hP1.2.2.1).trans (by omega)) (by omega) 59 59 (q1 : Int) (show (59 : Int32).toInt = 59 from rfl) ((h_54.2.2.resolve_left (fun z => absurd z.1 (by omega))).2)) cw_X4_62 (As := [.int 59]) (st := []) wi_yX4_expect we_yX4_expect (ci := 4) (q := (RX4, TX4, 5)) rfl rfl (wl_atO tw_58) rfl ⟨Nat.le_of_ble_eq_true rfl, Nat.le_of_ble_eq_true rfl, Nat.le_of_ble_eq_true rfl, Nat.le_of_ble_eq_true rfl⟩ (Nat.le_of_ble_eq_true rfl) dX4_readCarrier_60 (fun _ _ h => h) rfl (kV (fun mi_60 ml_60 h_60 => ?_))
          obtain ⟨rfl, hF_60, hk_60, hx_60⟩ := h_60
          rw [show mi_54 59 = mi 59 from ((h_54.1 59 (by decide)).trans ((hF_33 59 (by decide)).trans ((h_27.1 59 (by decide)).trans (hP1.1 59 (by decide)))))] at hx_60
          refine E_aload_n 2 dX4_readCarrier_63 rfl rfl ?_
          refine gf_X4_22 (mi_60 58 4) tw_58 rfl rfl dX4_readCarrier_64 ?_
          refine E_iconst (-1) (by decide) dX4_readCarrier_67 ?_
          refine Z_ne (q1 : Int) (-1) (ex_e hx_60 (by omega)).1 (show ((-1) : Int32).toInt = (-1) from rfl) 77 dX4_readCarrier_68 (by decide) (fun c_68 => ?_) (fun c_68 => ?_)
          · skip
            refine E_vret rfl (Nat.le_of_ble_eq_true rfl) (Nat.le_of_ble_eq_true rfl) dX4_readCarrier_77 ?_
            exact okQV ⟨rfl, Fr.w (Fr.trans (Fr.trans (Fr.trans (Fr.trans hP1.1 h_27.1 (fun _ h => h) (fun _ h => h)) hF_33 (fun _ h => h) (fun _ h => h)) h_54.1 (fun _ h => h) (fun _ h => h)) hF_60 (fun _ h => h) (fun _ h => h)) (by decide), ((hk_60 1 (by decide) (by decide)).trans ((h_54.2.1 1 (by decide)).trans ((hk_33 1 (by decide) (by decide)).trans ((h_27.2.1 1 (by decide)).trans (hP1.2.1))))), fun k _ _ => congrFun ((hF_60 9 (by decide)).trans ((h_54.1 9 (by decide)).trans ((hF_33 9 (by decide)).trans ((h_27.1 9 (by decide)).trans (hP1.1 9 (by decide)))))) k, Or.inl ⟨q1, ci_l (pc_2 hDl eq1 ho1), (ex_e hx_60 (by omega)).1.trans (by omega)⟩⟩
          · skip
            refine E_aload_n 3 dX4_readCarrier_71 rfl rfl ?_
            refine E_iload_n 1 dX4_readCarrier_72 rfl rfl ?_
            refine E_iload_n 0 dX4_readCarrier_73 rfl rfl ?_
            refine E_callV (c_X1_putCarrier l hfl 9 isD_9 mi_60 ml r_1 0 D.length (((congrArg Int32.toInt ((congrFun (hF_60 9 (by decide)) 5).trans ((congrFun (h_54.1 9 (by decide)) 5).trans ((congrFun (hF_33 9 (by decide)) 5).trans ((congrFun (h_27.1 9 (by decide)) 5).trans (congrFun (hP1.1 9 (by decide)) 5)))))).trans hDc.1).trans (by omega)) (by omega) (by omega)) cw_X4_69 (As := [.int r_1, .int 0]) (st := []) wi_yX1_putCarrier we_yX1_putCarrier (ci := 1) (q := (RX1, TX1, 15)) rfl rfl (wl_atO isD_9.t) rfl ⟨Nat.le_of_ble_eq_true rfl, Nat.le_of_ble_eq_true rfl, Nat.le_of_ble_eq_true rfl, Nat.le_of_ble_eq_true rfl⟩ (Nat.le_of_ble_eq_true rfl) dX4_readCarrier_74 (fun _ _ h => h) rfl (kE0 ?_)
            rw [show (mi_60 9 5) = (mi 9 5) from ((congrFun (hF_60 9 (by decide)) 5).trans ((congrFun (h_54.1 9 (by decide)) 5).trans ((congrFun (hF_33 9 (by decide)) 5).trans ((congrFun (h_27.1 9 (by decide)) 5).trans (congrFun (hP1.1 9 (by decide)) 5)))))]
            refine E_vret rfl (Nat.le_of_ble_eq_true rfl) (Nat.le_of_ble_eq_true rfl) dX4_readCarrier_77 ?_
            exact absurd c_68 (by omega)
        · skip
          refine E_iconst 1 (by decide) dX4_readCarrier_49 ?_
          refine E_goto 54 dX4_readCarrier_50 (by decide) ?_
          refine E_callV (c_X4_refuseNumberIfb l hfl mi_33 ml (1 : Int32) True (show (1 : Int32) = bI True from b1 trivial) (((p + 1) : Nat) : Int) (q1 : Int) ((congrArg Int32.toInt ((hk_33 3 (by decide) (by decide)).trans (h_27.2.1 3 (by decide)))).trans hP1.2.2.2.1) ((ex_e hx_33 (by omega)).1)) cw_X4_58 (As := [.int 1]) (st := []) wi_yX4_refuseNumberIf we_yX4_refuseNumberIf (ci := 4) (q := (RX4, TX4, 5)) rfl rfl (wl_atO tw_58) rfl ⟨Nat.le_of_ble_eq_true rfl, Nat.le_of_ble_eq_true rfl, Nat.le_of_ble_eq_true rfl, Nat.le_of_ble_eq_true rfl⟩ (Nat.le_of_ble_eq_true rfl) dX4_readCarrier_54 (fun _ _ h => h) rfl (kV (fun mi_54 ml_54 h_54 => ?_))
          obtain ⟨rfl, h_54⟩ := h_54
          refine E_aload_n 2 dX4_readCarrier_57 rfl rfl ?_
          refine E_bipush 59 (by decide) dX4_readCarrier_58 ?_
          refine E_callV (c_X4_expect l hfl mi_54 ml N ((congrArg Int32.toInt ((h_54.2.1 1 (by decide)).trans ((hk_33 1 (by decide) (by decide)).trans ((h_27.2.1 1 (by decide)).trans (hP1.2.1))))).trans hN) hN2 q1 (((congrArg Int32.toInt ((h_54.2.1 2 (by decide)).trans ((ex_e hx_33 (by omega)).2.trans (h_27.2.1 2 (by decide))))).trans hP1.2.2.1).trans (by omega)) (by omega) 59 59 (q1 : Int) (show (59 : Int32).toInt = 59 from rfl) ((h_54.2.2.resolve_left (fun z => absurd z.1 (by omega))).2)) cw_X4_62 (As := [.int 59]) (st := []) wi_yX4_expect we_yX4_expect (ci := 4) (q := (RX4, TX4, 5)) rfl rfl (wl_atO tw_58) rfl ⟨Nat.le_of_ble_eq_true rfl, Nat.le_of_ble_eq_true rfl, Nat.le_of_ble_eq_true rfl, Nat.le_of_ble_eq_true rfl⟩ (Nat.le_of_ble_eq_true rfl) dX4_readCarrier_60 (fun _ _ h => h) rfl (kV (fun mi_60 ml_60 h_60 => ?_))
          obtain ⟨rfl, hF_60, hk_60, hx_60⟩ := h_60
          rw [show mi_54 59 = mi 59 from ((h_54.1 59 (by decide)).trans ((hF_33 59 (by decide)).trans ((h_27.1 59 (by decide)).trans (hP1.1 59 (by decide)))))] at hx_60
          refine E_aload_n 2 dX4_readCarrier_63 rfl rfl ?_
          refine gf_X4_22 (mi_60 58 4) tw_58 rfl rfl dX4_readCarrier_64 ?_
          refine E_iconst (-1) (by decide) dX4_readCarrier_67 ?_
          refine Z_ne (q1 : Int) (-1) (ex_e hx_60 (by omega)).1 (show ((-1) : Int32).toInt = (-1) from rfl) 77 dX4_readCarrier_68 (by decide) (fun c_68 => ?_) (fun c_68 => ?_)
          · skip
            refine E_vret rfl (Nat.le_of_ble_eq_true rfl) (Nat.le_of_ble_eq_true rfl) dX4_readCarrier_77 ?_
            exact okQV ⟨rfl, Fr.w (Fr.trans (Fr.trans (Fr.trans (Fr.trans hP1.1 h_27.1 (fun _ h => h) (fun _ h => h)) hF_33 (fun _ h => h) (fun _ h => h)) h_54.1 (fun _ h => h) (fun _ h => h)) hF_60 (fun _ h => h) (fun _ h => h)) (by decide), ((hk_60 1 (by decide) (by decide)).trans ((h_54.2.1 1 (by decide)).trans ((hk_33 1 (by decide) (by decide)).trans ((h_27.2.1 1 (by decide)).trans (hP1.2.1))))), fun k _ _ => congrFun ((hF_60 9 (by decide)).trans ((h_54.1 9 (by decide)).trans ((hF_33 9 (by decide)).trans ((h_27.1 9 (by decide)).trans (hP1.1 9 (by decide)))))) k, Or.inl ⟨q1, ci_l (pc_2 hDl eq1 ho1), (ex_e hx_60 (by omega)).1.trans (by omega)⟩⟩
          · skip
            refine E_aload_n 3 dX4_readCarrier_71 rfl rfl ?_
            refine E_iload_n 1 dX4_readCarrier_72 rfl rfl ?_
            refine E_iload_n 0 dX4_readCarrier_73 rfl rfl ?_
            refine E_callV (c_X1_putCarrier l hfl 9 isD_9 mi_60 ml r_1 0 D.length (((congrArg Int32.toInt ((congrFun (hF_60 9 (by decide)) 5).trans ((congrFun (h_54.1 9 (by decide)) 5).trans ((congrFun (hF_33 9 (by decide)) 5).trans ((congrFun (h_27.1 9 (by decide)) 5).trans (congrFun (hP1.1 9 (by decide)) 5)))))).trans hDc.1).trans (by omega)) (by omega) (by omega)) cw_X4_69 (As := [.int r_1, .int 0]) (st := []) wi_yX1_putCarrier we_yX1_putCarrier (ci := 1) (q := (RX1, TX1, 15)) rfl rfl (wl_atO isD_9.t) rfl ⟨Nat.le_of_ble_eq_true rfl, Nat.le_of_ble_eq_true rfl, Nat.le_of_ble_eq_true rfl, Nat.le_of_ble_eq_true rfl⟩ (Nat.le_of_ble_eq_true rfl) dX4_readCarrier_74 (fun _ _ h => h) rfl (kE0 ?_)
            rw [show (mi_60 9 5) = (mi 9 5) from ((congrFun (hF_60 9 (by decide)) 5).trans ((congrFun (h_54.1 9 (by decide)) 5).trans ((congrFun (hF_33 9 (by decide)) 5).trans ((congrFun (h_27.1 9 (by decide)) 5).trans (congrFun (hP1.1 9 (by decide)) 5)))))]
            refine E_vret rfl (Nat.le_of_ble_eq_true rfl) (Nat.le_of_ble_eq_true rfl) dX4_readCarrier_77 ?_
            exact absurd c_68 (by omega)
end PL2
