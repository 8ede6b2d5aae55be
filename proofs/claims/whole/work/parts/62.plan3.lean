section PL3
/-- how the reading of a member ends -/
def RMO (t : Nat → Int) (nD N s p : Nat) (r : Int32) (mj : MI) : Prop :=
  (∃ e a : Nat, ((¬ rdO t p ∧ e = p + rdI t p) ∨ (rdO t p ∧ (nD ≤ rdV t p (rdI t p) ∨ s.testBit (rdV t p (rdI t p)) = true) ∧ e = p)) ∧ (mj 58 4).toInt = (e : Int) ∧ (mj 58 2).toInt = (a : Int) ∧ a ≤ N) ∨
  (rdO t p ∧ ¬ (nD ≤ rdV t p (rdI t p) ∨ s.testBit (rdV t p (rdI t p)) = true) ∧ r.toInt = ((s ||| 2 ^ rdV t p (rdI t p) : Nat) : Int) ∧ s ||| 2 ^ rdV t p (rdI t p) < 1024 ∧ (mj 58 2).toInt = ((p + rdI t p : Nat) : Int) ∧ p + rdI t p ≤ N ∧ (mj 58 4).toInt = -1)
/-- the state in a mixer's text -/
def MXS (t : Nat → Int) (nD N : Nat) (T0 : Sum Nat (Nat × Nat)) (k : Nat) (xs : Int32) (mj : MI) : Prop :=
  (∃ e a : Nat, T0 = .inl e ∧ (mj 58 4).toInt = (e : Int) ∧ (mj 58 2).toInt = (a : Int) ∧ a ≤ N) ∨
  (∃ f s q : Nat, T0 = ifp (t q = 44) (pmS t nD f s (q + 1)) (.inr (s, q)) ∧ f + k = 121 ∧ k ≤ q ∧ q ≤ N ∧ s < 1024 ∧ xs.toInt = (s : Int) ∧ (mj 58 2).toInt = (q : Int) ∧ (mj 58 4).toInt = -1)
theorem MXS_i {t : Nat → Int} {nD N f s p k : Nat} {T0 : Sum Nat (Nat × Nat)} {r : Int32} {mj : MI} (hT : T0 = pmS t nD (f + 1) s p) (hf : f + k = 121) (hk : k ≤ p) (h : RMO t nD N s p r mj) : MXS t nD N T0 k r mj := by
  rcases h with ⟨e, a, h1, h2, h3, h4⟩ | ⟨h1, h2, h3, h4, h5, h6, h7⟩
  · refine Or.inl ⟨e, a, ?_, h2, h3, h4⟩
    rcases h1 with ⟨g1, g2⟩ | ⟨g1, g2, g3⟩
    · rw [hT]; exact pm_1 g2 g1
    · rw [hT, g3]; exact pm_2 rfl g1 g2
  · refine Or.inr ⟨f, _, _, ?_, hf, by omega, h6, h4, h3, h5, h7⟩
    rcases Classical.em (t (p + rdI t p) = 44) with q | q
    · rw [hT, ifp_t q]; exact pm_3 rfl rfl h1 h2 q
    · rw [hT, ifp_f q]; exact pm_4 rfl rfl h1 h2 q
/-- a mixer of the text with its end -/
noncomputable def mIt (t : Nat → Int) (nD : Nat) (M : List Nat) (p : Nat) : Sum Nat (Nat × Nat) := match pmT t nD M p with | .inl e => .inl e | .inr (s, q) => ifp (t q = 59) (.inr (s, q + 1)) (.inl q)
theorem mi_l {t : Nat → Int} {nD p e : Nat} {M : List Nat} (h : pmT t nD M p = .inl e) : mIt t nD M p = .inl e := by unfold mIt; rw [h]
theorem mi_n {t : Nat → Int} {nD p s q : Nat} {M : List Nat} (h : pmT t nD M p = .inr (s, q)) (h2 : t q ≠ 59) : mIt t nD M p = .inl q := by unfold mIt; rw [h]; simp only [ifp_f h2]
theorem mi_y {t : Nat → Int} {nD p s q : Nat} {M : List Nat} (h : pmT t nD M p = .inr (s, q)) (h2 : t q = 59) : mIt t nD M p = .inr (s, q + 1) := by unfold mIt; rw [h]; simp only [ifp_t h2]
theorem pmT_e {t : Nat → Int} {nD p : Nat} {M : List Nat} (h : M.length < 5) : pmT t nD M p = pmS t nD 122 0 (p + 1) := by unfold pmT; rw [ifp_f (by omega)]
set_option maxHeartbeats 1600000 in
set_option maxRecDepth 100000 in
theorem c_X4_readMember (l : Launch) (hfl : l.stackTraces = false) (mi : MI) (ml : MJ) (N : Nat) (hN : (mi 58 1).toInt = (N : Int)) (hN2 : N ≤ 120) (D : List (Nat × Nat)) (hDc : DrC mi D) (p : Nat) (hp : (mi 58 2).toInt = (p : Int)) (hpN : p ≤ N) (he : (mi 58 4).toInt = -1) (xs : Int32) (s : Nat) (hxs : xs.toInt = (s : Int)) (hs : s < 1024) : Ct l yX4_readMember (.code yX4_readMember cX4_readMember 5 (some .int)) 2 0 0 [.ref 58, .ref 9, .int xs] (wl mi ml) (QI (fun r mi9 ml9 => ml = ml9 ∧ Fr [58] mi mi9 ∧ mi9 58 1 = mi 58 1 ∧ RMO (tX (mi 59) N) D.length N s p r mi9)) noX := by
  refine Ct_of (ini := false) pn_X4 hfl (fun h => nomatch h) (Nat.le_of_ble_eq_true rfl) ?_
  show E l RX4 cX4_readMember 5 (some .int) false [] (rmE 2 0 0) (wl mi ml) (TgM (wl mi ml) 0 0 (QI (fun r mi9 ml9 => ml = ml9 ∧ Fr [58] mi mi9 ∧ mi9 58 1 = mi 58 1 ∧ RMO (tX (mi 59) N) D.length N s p r mi9)) noX) 0 0 0 [(0, .ref 58), (1, .ref 9), (2, .int xs)] [] (wl mi ml)
  have hD10 := hDc.2.1
  refine E_aload_n 0 dX4_readMember_0 rfl rfl ?_
  refine E_callV (c_X4_readNumber l hfl mi ml N hN hN2 p (hp.trans (by omega)) (by omega) he) cw_X4_47 (As := []) (st := []) wi_yX4_readNumber we_yX4_readNumber (ci := 4) (q := (RX4, TX4, 5)) rfl rfl (wl_atO tw_58) rfl ⟨Nat.le_of_ble_eq_true rfl, Nat.le_of_ble_eq_true rfl, Nat.le_of_ble_eq_true rfl, Nat.le_of_ble_eq_true rfl⟩ (Nat.le_of_ble_eq_true rfl) dX4_readMember_1 (fun _ _ h => h) rfl (kI (fun r_1 mi_1 ml_1 h_1 => ?_))
  obtain ⟨rfl, hv_1, hn_1⟩ := h_1
  obtain ⟨v1, ev1⟩ : ∃ v, v = rdV (tX (mi 59) N) p (rdI (tX (mi 59) N) p) := ⟨_, rfl⟩
  obtain ⟨q1, eq1⟩ : ∃ q, q = p + rdI (tX (mi 59) N) p := ⟨_, rfl⟩
  rw [← ev1] at hv_1
  rw [← eq1] at hn_1
  have hle_1 := rdI_N (row := mi 59) (N := N) (p := p) (by omega)
  refine E_istore_n [(3, .int r_1), (0, .ref 58), (1, .ref 9), (2, .int xs)] dX4_readMember_4 rfl (by decide) rfl ?_
  rcases hn_1 with ⟨ho1, hP1⟩ | ⟨ho1, hP1⟩
  · skip
    refine E_aload_n 2 dX4_readMember_5 rfl rfl ?_
    refine E_iload_n 0 dX4_readMember_6 rfl rfl ?_
    refine E_callV (c_X1_hasCarrier l hfl 9 isD_9 mi_1 ml r_1 (v1 : Int) ((D.length : Nat) : Int) hv_1 ((congrArg Int32.toInt (congrFun (hP1.1 9 (by decide)) 5)).trans hDc.1)) cw_X4_80 (As := [.int r_1]) (st := []) wi_yX1_hasCarrier we_yX1_hasCarrier (ci := 1) (q := (RX1, TX1, 15)) rfl rfl (wl_atO isD_9.t) rfl ⟨Nat.le_of_ble_eq_true rfl, Nat.le_of_ble_eq_true rfl, Nat.le_of_ble_eq_true rfl, Nat.le_of_ble_eq_true rfl⟩ (Nat.le_of_ble_eq_true rfl) dX4_readMember_7 (fun _ _ h => h) rfl (kE ?_)
    refine E_istore [(4, .int (bI (0 ≤ (v1 : Int) ∧ (v1 : Int) < ((D.length : Nat) : Int) ∧ (v1 : Int) < 10))), (3, .int r_1), (0, .ref 58), (1, .ref 9), (2, .int xs)] dX4_readMember_10 (by decide) rfl ?_
    refine E_aload_n 2 dX4_readMember_12 rfl rfl ?_
    refine E_iload 0 dX4_readMember_13 rfl ?_
    refine B_eq 27 dX4_readMember_15 (by decide) (fun c_15 => ?_) (fun c_15 => ?_)
    · skip
      refine E_iconst 1 (by decide) dX4_readMember_27 ?_
      refine E_goto 32 dX4_readMember_28 (by decide) ?_
      refine E_callV (c_X4_refuseNumberIfb l hfl mi_1 ml (1 : Int32) True (show (1 : Int32) = bI True from b1 trivial) ((p : Nat) : Int) (-1) hP1.2.2.2.1 hP1.2.2.2.2) cw_X4_58 (As := [.int 1]) (st := []) wi_yX4_refuseNumberIf we_yX4_refuseNumberIf (ci := 4) (q := (RX4, TX4, 5)) rfl rfl (wl_atO tw_58) rfl ⟨Nat.le_of_ble_eq_true rfl, Nat.le_of_ble_eq_true rfl, Nat.le_of_ble_eq_true rfl, Nat.le_of_ble_eq_true rfl⟩ (Nat.le_of_ble_eq_true rfl) dX4_readMember_32 (fun _ _ h => h) rfl (kV (fun mi_32 ml_32 h_32 => ?_))
      obtain ⟨rfl, h_32⟩ := h_32
      refine E_iload 0 dX4_readMember_35 rfl ?_
      refine B_eq 48 dX4_readMember_37 (by decide) (fun c_37 => ?_) (fun c_37 => ?_)
      · skip
        refine E_iload_n 4 dX4_readMember_48 rfl rfl ?_
        refine E_iret rfl (Nat.le_of_ble_eq_true rfl) (Nat.le_of_ble_eq_true rfl) dX4_readMember_49 ?_
        exact okQI ⟨rfl, (Fr.trans hP1.1 h_32.1 (fun _ h => h) (fun _ h => h)), ((h_32.2.1 1 (by decide)).trans (hP1.2.1)), Or.inl ⟨p, q1, Or.inr ⟨ho1, Or.inl (by rw [← ev1]; omega), rfl⟩, (h_32.2.2.resolve_right (fun z => z.1 ⟨rfl, trivial⟩)).2.2, ((congrArg Int32.toInt (h_32.2.1 2 (by decide))).trans hP1.2.2.1), by omega⟩⟩
      · skip
        refine E_iload_n 4 dX4_readMember_40 rfl rfl ?_
        refine E_iconst 1 (by decide) dX4_readMember_41 ?_
        refine E_iload_n 1 dX4_readMember_42 rfl rfl ?_
        refine E_ishl dX4_readMember_43 ?_
        refine E_ior dX4_readMember_44 ?_
        refine E_goto 49 dX4_readMember_45 (by decide) ?_
        refine E_iret rfl (Nat.le_of_ble_eq_true rfl) (Nat.le_of_ble_eq_true rfl) dX4_readMember_49 ?_
        exact absurd c_37 c_15
    · skip
      refine E_iload_n 1 dX4_readMember_18 rfl rfl ?_
      refine E_iload_n 4 dX4_readMember_19 rfl rfl ?_
      refine E_i2l dX4_readMember_20 ?_
      refine E_callSN (c_X5_isIn l hfl mi_1 ml r_1 (xs.toInt64) v1 (hv_1.trans (by omega)) (by omega)) cw_X4_83 (As := [.int r_1, .long (xs.toInt64)]) (st := [.ref 58]) ws_yX5_isIn rfl ⟨Nat.le_of_ble_eq_true rfl, Nat.le_of_ble_eq_true rfl, Nat.le_of_ble_eq_true rfl, Nat.le_of_ble_eq_true rfl⟩ (Nat.le_of_ble_eq_true rfl) dX4_readMember_21 (fun _ _ h => h) rfl (kE ?_)
      rw [show bI (lb (xs.toInt64) v1 = true) = bI (s.testBit v1 = true) from by rw [lb_i2l hxs (by omega)]]
      refine B_eq 31 dX4_readMember_24 (by decide) (fun c_24 => ?_) (fun c_24 => ?_)
      · skip
        refine E_iconst 0 (by decide) dX4_readMember_31 ?_
        refine E_callV (c_X4_refuseNumberIfb l hfl mi_1 ml (0 : Int32) False (show (0 : Int32) = bI False from b0 not_false) ((p : Nat) : Int) (-1) hP1.2.2.2.1 hP1.2.2.2.2) cw_X4_58 (As := [.int 0]) (st := []) wi_yX4_refuseNumberIf we_yX4_refuseNumberIf (ci := 4) (q := (RX4, TX4, 5)) rfl rfl (wl_atO tw_58) rfl ⟨Nat.le_of_ble_eq_true rfl, Nat.le_of_ble_eq_true rfl, Nat.le_of_ble_eq_true rfl, Nat.le_of_ble_eq_true rfl⟩ (Nat.le_of_ble_eq_true rfl) dX4_readMember_32 (fun _ _ h => h) rfl (kV (fun mi_32 ml_32 h_32 => ?_))
        obtain ⟨rfl, h_32⟩ := h_32
        refine E_iload 0 dX4_readMember_35 rfl ?_
        refine B_eq 48 dX4_readMember_37 (by decide) (fun c_37 => ?_) (fun c_37 => ?_)
        · skip
          refine E_iload_n 4 dX4_readMember_48 rfl rfl ?_
          refine E_iret rfl (Nat.le_of_ble_eq_true rfl) (Nat.le_of_ble_eq_true rfl) dX4_readMember_49 ?_
          exact absurd c_15 c_37
        · skip
          refine E_iload_n 4 dX4_readMember_40 rfl rfl ?_
          refine E_iconst 1 (by decide) dX4_readMember_41 ?_
          refine E_iload_n 1 dX4_readMember_42 rfl rfl ?_
          refine E_ishl dX4_readMember_43 ?_
          refine E_ior dX4_readMember_44 ?_
          refine E_goto 49 dX4_readMember_45 (by decide) ?_
          refine E_iret rfl (Nat.le_of_ble_eq_true rfl) (Nat.le_of_ble_eq_true rfl) dX4_readMember_49 ?_
          have e9 : (xs ||| ((1 : Int32) <<< (r_1 &&& 31))) = nI (s ||| 2 ^ v1) := or_pw hxs hv_1 (by omega)
          have l9 : s ||| 2 ^ v1 < 1024 := or_lt hs (by omega)
          exact okQI ⟨rfl, (Fr.trans hP1.1 h_32.1 (fun _ h => h) (fun _ h => h)), ((h_32.2.1 1 (by decide)).trans (hP1.2.1)), Or.inr ⟨ho1, by rw [← ev1]; exact fun z => z.elim (fun z => absurd z (by omega)) (fun z => c_24 z), by rw [← ev1, e9]; exact tI_nI (by omega), by rw [← ev1]; exact l9, (((congrArg Int32.toInt (h_32.2.1 2 (by decide))).trans hP1.2.2.1)).trans (by rw [eq1]), by omega, (h_32.2.2.resolve_left (fun z => z.2.1)).2⟩⟩
      · skip
        refine E_iconst 1 (by decide) dX4_readMember_27 ?_
        refine E_goto 32 dX4_readMember_28 (by decide) ?_
        refine E_callV (c_X4_refuseNumberIfb l hfl mi_1 ml (1 : Int32) True (show (1 : Int32) = bI True from b1 trivial) ((p : Nat) : Int) (-1) hP1.2.2.2.1 hP1.2.2.2.2) cw_X4_58 (As := [.int 1]) (st := []) wi_yX4_refuseNumberIf we_yX4_refuseNumberIf (ci := 4) (q := (RX4, TX4, 5)) rfl rfl (wl_atO tw_58) rfl ⟨Nat.le_of_ble_eq_true rfl, Nat.le_of_ble_eq_true rfl, Nat.le_of_ble_eq_true rfl, Nat.le_of_ble_eq_true rfl⟩ (Nat.le_of_ble_eq_true rfl) dX4_readMember_32 (fun _ _ h => h) rfl (kV (fun mi_32 ml_32 h_32 => ?_))
        obtain ⟨rfl, h_32⟩ := h_32
        refine E_iload 0 dX4_readMember_35 rfl ?_
        refine B_eq 48 dX4_readMember_37 (by decide) (fun c_37 => ?_) (fun c_37 => ?_)
        · skip
          refine E_iload_n 4 dX4_readMember_48 rfl rfl ?_
          refine E_iret rfl (Nat.le_of_ble_eq_true rfl) (Nat.le_of_ble_eq_true rfl) dX4_readMember_49 ?_
          exact absurd c_15 c_37
        · skip
          refine E_iload_n 4 dX4_readMember_40 rfl rfl ?_
          refine E_iconst 1 (by decide) dX4_readMember_41 ?_
          refine E_iload_n 1 dX4_readMember_42 rfl rfl ?_
          refine E_ishl dX4_readMember_43 ?_
          refine E_ior dX4_readMember_44 ?_
          refine E_goto 49 dX4_readMember_45 (by decide) ?_
          refine E_iret rfl (Nat.le_of_ble_eq_true rfl) (Nat.le_of_ble_eq_true rfl) dX4_readMember_49 ?_
          exact okQI ⟨rfl, (Fr.trans hP1.1 h_32.1 (fun _ h => h) (fun _ h => h)), ((h_32.2.1 1 (by decide)).trans (hP1.2.1)), Or.inl ⟨p, q1, Or.inr ⟨ho1, Or.inr (by rw [← ev1]; exact c_24), rfl⟩, (h_32.2.2.resolve_right (fun z => z.1 ⟨rfl, trivial⟩)).2.2, ((congrArg Int32.toInt (h_32.2.1 2 (by decide))).trans hP1.2.2.1), by omega⟩⟩
  · skip
    refine E_aload_n 2 dX4_readMember_5 rfl rfl ?_
    refine E_iload_n 0 dX4_readMember_6 rfl rfl ?_
    refine E_callV (c_X1_hasCarrier l hfl 9 isD_9 mi_1 ml r_1 (v1 : Int) ((D.length : Nat) : Int) hv_1 ((congrArg Int32.toInt (congrFun (hP1.1 9 (by decide)) 5)).trans hDc.1)) cw_X4_80 (As := [.int r_1]) (st := []) wi_yX1_hasCarrier we_yX1_hasCarrier (ci := 1) (q := (RX1, TX1, 15)) rfl rfl (wl_atO isD_9.t) rfl ⟨Nat.le_of_ble_eq_true rfl, Nat.le_of_ble_eq_true rfl, Nat.le_of_ble_eq_true rfl, Nat.le_of_ble_eq_true rfl⟩ (Nat.le_of_ble_eq_true rfl) dX4_readMember_7 (fun _ _ h => h) rfl (kE ?_)
    refine E_istore [(4, .int (bI (0 ≤ (v1 : Int) ∧ (v1 : Int) < ((D.length : Nat) : Int) ∧ (v1 : Int) < 10))), (3, .int r_1), (0, .ref 58), (1, .ref 9), (2, .int xs)] dX4_readMember_10 (by decide) rfl ?_
    refine E_aload_n 2 dX4_readMember_12 rfl rfl ?_
    refine E_iload 0 dX4_readMember_13 rfl ?_
    refine B_eq 27 dX4_readMember_15 (by decide) (fun c_15 => ?_) (fun c_15 => ?_)
    · skip
      refine E_iconst 1 (by decide) dX4_readMember_27 ?_
      refine E_goto 32 dX4_readMember_28 (by decide) ?_
      refine E_callV (c_X4_refuseNumberIfb l hfl mi_1 ml (1 : Int32) True (show (1 : Int32) = bI True from b1 trivial) ((p : Nat) : Int) (q1 : Int) hP1.2.2.2.1 hP1.2.2.2.2) cw_X4_58 (As := [.int 1]) (st := []) wi_yX4_refuseNumberIf we_yX4_refuseNumberIf (ci := 4) (q := (RX4, TX4, 5)) rfl rfl (wl_atO tw_58) rfl ⟨Nat.le_of_ble_eq_true rfl, Nat.le_of_ble_eq_true rfl, Nat.le_of_ble_eq_true rfl, Nat.le_of_ble_eq_true rfl⟩ (Nat.le_of_ble_eq_true rfl) dX4_readMember_32 (fun _ _ h => h) rfl (kV (fun mi_32 ml_32 h_32 => ?_))
      obtain ⟨rfl, h_32⟩ := h_32
      refine E_iload 0 dX4_readMember_35 rfl ?_
      refine B_eq 48 dX4_readMember_37 (by decide) (fun c_37 => ?_) (fun c_37 => ?_)
      · skip
        refine E_iload_n 4 dX4_readMember_48 rfl rfl ?_
        refine E_iret rfl (Nat.le_of_ble_eq_true rfl) (Nat.le_of_ble_eq_true rfl) dX4_readMember_49 ?_
        exact okQI ⟨rfl, (Fr.trans hP1.1 h_32.1 (fun _ h => h) (fun _ h => h)), ((h_32.2.1 1 (by decide)).trans (hP1.2.1)), Or.inl ⟨q1, q1, Or.inl ⟨ho1, eq1⟩, (h_32.2.2.resolve_left (fun z => absurd z.1 (by omega))).2, ((congrArg Int32.toInt (h_32.2.1 2 (by decide))).trans hP1.2.2.1), by omega⟩⟩
      · skip
        refine E_iload_n 4 dX4_readMember_40 rfl rfl ?_
        refine E_iconst 1 (by decide) dX4_readMember_41 ?_
        refine E_iload_n 1 dX4_readMember_42 rfl rfl ?_
        refine E_ishl dX4_readMember_43 ?_
        refine E_ior dX4_readMember_44 ?_
        refine E_goto 49 dX4_readMember_45 (by decide) ?_
        refine E_iret rfl (Nat.le_of_ble_eq_true rfl) (Nat.le_of_ble_eq_true rfl) dX4_readMember_49 ?_
        exact absurd c_37 c_15
    · skip
      refine E_iload_n 1 dX4_readMember_18 rfl rfl ?_
      refine E_iload_n 4 dX4_readMember_19 rfl rfl ?_
      refine E_i2l dX4_readMember_20 ?_
      refine E_callSN (c_X5_isIn l hfl mi_1 ml r_1 (xs.toInt64) v1 (hv_1.trans (by omega)) (by omega)) cw_X4_83 (As := [.int r_1, .long (xs.toInt64)]) (st := [.ref 58]) ws_yX5_isIn rfl ⟨Nat.le_of_ble_eq_true rfl, Nat.le_of_ble_eq_true rfl, Nat.le_of_ble_eq_true rfl, Nat.le_of_ble_eq_true rfl⟩ (Nat.le_of_ble_eq_true rfl) dX4_readMember_21 (fun _ _ h => h) rfl (kE ?_)
      rw [show bI (lb (xs.toInt64) v1 = true) = bI (s.testBit v1 = true) from by rw [lb_i2l hxs (by omega)]]
      refine B_eq 31 dX4_readMember_24 (by decide) (fun c_24 => ?_) (fun c_24 => ?_)
      · skip
        refine E_iconst 0 (by decide) dX4_readMember_31 ?_
        refine E_callV (c_X4_refuseNumberIfb l hfl mi_1 ml (0 : Int32) False (show (0 : Int32) = bI False from b0 not_false) ((p : Nat) : Int) (q1 : Int) hP1.2.2.2.1 hP1.2.2.2.2) cw_X4_58 (As := [.int 0]) (st := []) wi_yX4_refuseNumberIf we_yX4_refuseNumberIf (ci := 4) (q := (RX4, TX4, 5)) rfl rfl (wl_atO tw_58) rfl ⟨Nat.le_of_ble_eq_true rfl, Nat.le_of_ble_eq_true rfl, Nat.le_of_ble_eq_true rfl, Nat.le_of_ble_eq_true rfl⟩ (Nat.le_of_ble_eq_true rfl) dX4_readMember_32 (fun _ _ h => h) rfl (kV (fun mi_32 ml_32 h_32 => ?_))
        obtain ⟨rfl, h_32⟩ := h_32
        refine E_iload 0 dX4_readMember_35 rfl ?_
        refine B_eq 48 dX4_readMember_37 (by decide) (fun c_37 => ?_) (fun c_37 => ?_)
        · skip
          refine E_iload_n 4 dX4_readMember_48 rfl rfl ?_
          refine E_iret rfl (Nat.le_of_ble_eq_true rfl) (Nat.le_of_ble_eq_true rfl) dX4_readMember_49 ?_
          exact absurd c_15 c_37
        · skip
          refine E_iload_n 4 dX4_readMember_40 rfl rfl ?_
          refine E_iconst 1 (by decide) dX4_readMember_41 ?_
          refine E_iload_n 1 dX4_readMember_42 rfl rfl ?_
          refine E_ishl dX4_readMember_43 ?_
          refine E_ior dX4_readMember_44 ?_
          refine E_goto 49 dX4_readMember_45 (by decide) ?_
          refine E_iret rfl (Nat.le_of_ble_eq_true rfl) (Nat.le_of_ble_eq_true rfl) dX4_readMember_49 ?_
          exact okQI ⟨rfl, (Fr.trans hP1.1 h_32.1 (fun _ h => h) (fun _ h => h)), ((h_32.2.1 1 (by decide)).trans (hP1.2.1)), Or.inl ⟨q1, q1, Or.inl ⟨ho1, eq1⟩, (h_32.2.2.resolve_left (fun z => absurd z.1 (by omega))).2, ((congrArg Int32.toInt (h_32.2.1 2 (by decide))).trans hP1.2.2.1), by omega⟩⟩
      · skip
        refine E_iconst 1 (by decide) dX4_readMember_27 ?_
        refine E_goto 32 dX4_readMember_28 (by decide) ?_
        refine E_callV (c_X4_refuseNumberIfb l hfl mi_1 ml (1 : Int32) True (show (1 : Int32) = bI True from b1 trivial) ((p : Nat) : Int) (q1 : Int) hP1.2.2.2.1 hP1.2.2.2.2) cw_X4_58 (As := [.int 1]) (st := []) wi_yX4_refuseNumberIf we_yX4_refuseNumberIf (ci := 4) (q := (RX4, TX4, 5)) rfl rfl (wl_atO tw_58) rfl ⟨Nat.le_of_ble_eq_true rfl, Nat.le_of_ble_eq_true rfl, Nat.le_of_ble_eq_true rfl, Nat.le_of_ble_eq_true rfl⟩ (Nat.le_of_ble_eq_true rfl) dX4_readMember_32 (fun _ _ h => h) rfl (kV (fun mi_32 ml_32 h_32 => ?_))
        obtain ⟨rfl, h_32⟩ := h_32
        refine E_iload 0 dX4_readMember_35 rfl ?_
        refine B_eq 48 dX4_readMember_37 (by decide) (fun c_37 => ?_) (fun c_37 => ?_)
        · skip
          refine E_iload_n 4 dX4_readMember_48 rfl rfl ?_
          refine E_iret rfl (Nat.le_of_ble_eq_true rfl) (Nat.le_of_ble_eq_true rfl) dX4_readMember_49 ?_
          exact absurd c_15 c_37
        · skip
          refine E_iload_n 4 dX4_readMember_40 rfl rfl ?_
          refine E_iconst 1 (by decide) dX4_readMember_41 ?_
          refine E_iload_n 1 dX4_readMember_42 rfl rfl ?_
          refine E_ishl dX4_readMember_43 ?_
          refine E_ior dX4_readMember_44 ?_
          refine E_goto 49 dX4_readMember_45 (by decide) ?_
          refine E_iret rfl (Nat.le_of_ble_eq_true rfl) (Nat.le_of_ble_eq_true rfl) dX4_readMember_49 ?_
          exact okQI ⟨rfl, (Fr.trans hP1.1 h_32.1 (fun _ h => h) (fun _ h => h)), ((h_32.2.1 1 (by decide)).trans (hP1.2.1)), Or.inl ⟨q1, q1, Or.inl ⟨ho1, eq1⟩, (h_32.2.2.resolve_left (fun z => absurd z.1 (by omega))).2, ((congrArg Int32.toInt (h_32.2.1 2 (by decide))).trans hP1.2.2.1), by omega⟩⟩
set_option maxHeartbeats 1600000 in
set_option maxRecDepth 100000 in
theorem c_X4_readMixer (l : Launch) (hfl : l.stackTraces = false) (mi : MI) (ml : MJ) (N : Nat) (hN : (mi 58 1).toInt = (N : Int)) (hN2 : N ≤ 120) (D : List (Nat × Nat)) (hDc : DrC mi D) (p : Nat) (M : List Nat) (hMd : DrM mi M) (hMl : M.length < 5) (hp : (mi 58 2).toInt = ((p + 1 : Nat) : Int)) (hpN : p < N) (he : (mi 58 4).toInt = -1) : Ct l yX4_readMixer (.code yX4_readMixer cX4_readMixer 4 none) 3 0 0 [.ref 58, .ref 9] (wl mi ml) (QV (fun mi9 ml9 => ml = ml9 ∧ Fr [58, 9, 12] mi mi9 ∧ mi9 58 1 = mi 58 1 ∧ (∀ k, k ≠ 8 → k ≠ 10 → mi9 9 k = mi 9 k) ∧ ((∃ e : Nat, mIt (tX (mi 59) N) D.length M p = .inl e ∧ (mi9 58 4).toInt = (e : Int)) ∨ (∃ s q : Nat, mIt (tX (mi 59) N) D.length M p = .inr (s, q) ∧ (mi9 58 4).toInt = -1 ∧ (mi9 58 2).toInt = (q : Int) ∧ DrM mi9 (M ++ [s]) ∧ mi9 9 10 = 0 ∧ q ≤ N)))) noX := by
  refine Ct_of (ini := false) pn_X4 hfl (fun h => nomatch h) (Nat.le_of_ble_eq_true rfl) ?_
  show E l RX4 cX4_readMixer 4 none false [] (rmE 3 0 0) (wl mi ml) (TgM (wl mi ml) 0 0 (QV (fun mi9 ml9 => ml = ml9 ∧ Fr [58, 9, 12] mi mi9 ∧ mi9 58 1 = mi 58 1 ∧ (∀ k, k ≠ 8 → k ≠ 10 → mi9 9 k = mi 9 k) ∧ ((∃ e : Nat, mIt (tX (mi 59) N) D.length M p = .inl e ∧ (mi9 58 4).toInt = (e : Int)) ∨ (∃ s q : Nat, mIt (tX (mi 59) N) D.length M p = .inr (s, q) ∧ (mi9 58 4).toInt = -1 ∧ (mi9 58 2).toInt = (q : Int) ∧ DrM mi9 (M ++ [s]) ∧ mi9 9 10 = 0 ∧ q ≤ N)))) noX) 0 0 0 [(0, .ref 58), (1, .ref 9)] [] (wl mi ml)
  obtain ⟨T0, hT0⟩ : ∃ T, T = pmS (tX (mi 59) N) D.length 122 0 (p + 1) := ⟨_, rfl⟩
  refine E_aload_n 0 dX4_readMixer_0 rfl rfl ?_
  refine E_aload_n 1 dX4_readMixer_1 rfl rfl ?_
  refine E_iconst 0 (by decide) dX4_readMixer_2 ?_
  refine E_callV (c_X4_readMember l hfl mi ml N hN hN2 D hDc (p + 1) (hp.trans (by omega)) (by omega) he 0 0 ((show (0 : Int32).toInt = 0 from rfl).trans (by omega)) (by omega)) cw_X4_73 (As := [.ref 9, .int 0]) (st := []) wi_yX4_readMember we_yX4_readMember (ci := 4) (q := (RX4, TX4, 5)) rfl rfl (wl_atO tw_58) rfl ⟨Nat.le_of_ble_eq_true rfl, Nat.le_of_ble_eq_true rfl, Nat.le_of_ble_eq_true rfl, Nat.le_of_ble_eq_true rfl⟩ (Nat.le_of_ble_eq_true rfl) dX4_readMixer_3 (fun _ _ h => h) rfl (kI (fun r_3 mi_3 ml_3 h_3 => ?_))
  obtain ⟨rfl, hF_3, hn_3, hR_3⟩ := h_3
  refine E_istore_n [(2, .int r_3), (0, .ref 58), (1, .ref 9)] dX4_readMixer_6 rfl (by decide) rfl ?_
  refine E_iconst 0 (by decide) dX4_readMixer_7 ?_
  refine E_istore_n [(3, .int 0), (2, .int r_3), (0, .ref 58), (1, .ref 9)] dX4_readMixer_8 rfl (by decide) rfl ?_
  have J9 : ∀ (Nm : Nat) (xk xs : Int32) (k : Nat) (mj : MI), 121 - k < Nm → xk.toInt = (k : Int) → k ≤ 120 → Fr [58] mi mj → mj 58 1 = mi 58 1 → MXS (tX (mi 59) N) D.length N T0 k xs mj → E l RX4 cX4_readMixer 4 none false [] (rmE 3 0 0) (wl mi ml) (TgM (wl mi ml) 0 0 (QV (fun mi9 ml9 => ml = ml9 ∧ Fr [58, 9, 12] mi mi9 ∧ mi9 58 1 = mi 58 1 ∧ (∀ k, k ≠ 8 → k ≠ 10 → mi9 9 k = mi 9 k) ∧ ((∃ e : Nat, mIt (tX (mi 59) N) D.length M p = .inl e ∧ (mi9 58 4).toInt = (e : Int)) ∨ (∃ s q : Nat, mIt (tX (mi 59) N) D.length M p = .inr (s, q) ∧ (mi9 58 4).toInt = -1 ∧ (mi9 58 2).toInt = (q : Int) ∧ DrM mi9 (M ++ [s]) ∧ mi9 9 10 = 0 ∧ q ≤ N)))) noX) 0 0 9 [(0, .ref 58), (1, .ref 9), (2, .int xs), (3, .int xk)] [] (wl mj ml) := by
    intro Nm
    induction Nm with
    | zero => intros; omega
    | succ Nm ih9 =>
      intro xk xs k mj hN9 hk hk120 hF h581 hS
      rcases hS with ⟨e, a, hT, hS4, hS2, haN⟩ | ⟨f, s, q, hT, hfk, hkq, hqN, hs, hxs, hS2, hS4⟩
      · skip
        refine E_iload_n 3 dX4_readMixer_9 rfl rfl ?_
        refine E_bipush 120 (by decide) dX4_readMixer_10 ?_
        refine Z_ge (k : Int) 120 hk (show (120 : Int32).toInt = 120 from rfl) 59 dX4_readMixer_12 (by decide) (fun c_12 => ?_) (fun c_12 => ?_)
        · skip
          refine E_aload_n 0 dX4_readMixer_59 rfl rfl ?_
          refine E_bipush 59 (by decide) dX4_readMixer_60 ?_
          refine E_callV (c_X4_expect l hfl mj ml N ((congrArg Int32.toInt h581).trans hN) hN2 a (hS2.trans (by omega)) (by omega) 59 59 (e : Int) (show (59 : Int32).toInt = 59 from rfl) hS4) cw_X4_62 (As := [.int 59]) (st := []) wi_yX4_expect we_yX4_expect (ci := 4) (q := (RX4, TX4, 5)) rfl rfl (wl_atO tw_58) rfl ⟨Nat.le_of_ble_eq_true rfl, Nat.le_of_ble_eq_true rfl, Nat.le_of_ble_eq_true rfl, Nat.le_of_ble_eq_true rfl⟩ (Nat.le_of_ble_eq_true rfl) dX4_readMixer_62 (fun _ _ h => h) rfl (kV (fun mi_62 ml_62 h_62 => ?_))
          obtain ⟨rfl, hF_62, hk_62, hx_62⟩ := h_62
          rw [show mj 59 = mi 59 from (hF 59 (by decide))] at hx_62
          refine E_aload_n 0 dX4_readMixer_65 rfl rfl ?_
          refine gf_X4_22 (mi_62 58 4) tw_58 rfl rfl dX4_readMixer_66 ?_
          refine E_iconst (-1) (by decide) dX4_readMixer_69 ?_
          refine Z_ne (e : Int) (-1) (ex_e hx_62 (by omega)).1 (show ((-1) : Int32).toInt = (-1) from rfl) 78 dX4_readMixer_70 (by decide) (fun c_70 => ?_) (fun c_70 => ?_)
          · skip
            refine E_vret rfl (Nat.le_of_ble_eq_true rfl) (Nat.le_of_ble_eq_true rfl) dX4_readMixer_78 ?_
            exact okQV ⟨rfl, Fr.w (Fr.trans hF hF_62 (fun _ h => h) (fun _ h => h)) (by decide), ((hk_62 1 (by decide) (by decide)).trans h581), fun k _ _ => congrFun ((hF_62 9 (by decide)).trans (hF 9 (by decide))) k, Or.inl ⟨e, mi_l ((pmT_e hMl).trans (hT0.symm.trans hT)), (ex_e hx_62 (by omega)).1.trans (by omega)⟩⟩
          · skip
            refine E_aload_n 1 dX4_readMixer_73 rfl rfl ?_
            refine E_iload_n 2 dX4_readMixer_74 rfl rfl ?_
            refine E_callV (c_X1_putMixer l hfl 9 isD_9 mi_62 ml xs M.length (((congrArg Int32.toInt ((congrFun (hF_62 9 (by decide)) 8).trans (congrFun (hF 9 (by decide)) 8))).trans hMd.1).trans (by omega)) (by omega) (by omega)) cw_X4_77 (As := [.int xs]) (st := []) wi_yX1_putMixer we_yX1_putMixer (ci := 1) (q := (RX1, TX1, 15)) rfl rfl (wl_atO isD_9.t) rfl ⟨Nat.le_of_ble_eq_true rfl, Nat.le_of_ble_eq_true rfl, Nat.le_of_ble_eq_true rfl, Nat.le_of_ble_eq_true rfl⟩ (Nat.le_of_ble_eq_true rfl) dX4_readMixer_75 (fun _ _ h => h) rfl (kE0 ?_)
            rw [show (mi_62 9 8) = (mi 9 8) from ((congrFun (hF_62 9 (by decide)) 8).trans (congrFun (hF 9 (by decide)) 8))]
            refine E_vret rfl (Nat.le_of_ble_eq_true rfl) (Nat.le_of_ble_eq_true rfl) dX4_readMixer_78 ?_
            exact absurd c_70 (by omega)
        · skip
          refine E_aload_n 0 dX4_readMixer_15 rfl rfl ?_
          refine gf_X4_22 (mj 58 4) tw_58 rfl rfl dX4_readMixer_16 ?_
          refine E_iconst (-1) (by decide) dX4_readMixer_19 ?_
          refine Z_ne (e : Int) (-1) hS4 (show ((-1) : Int32).toInt = (-1) from rfl) 59 dX4_readMixer_20 (by decide) (fun c_20 => ?_) (fun c_20 => ?_)
          · skip
            refine E_aload_n 0 dX4_readMixer_59 rfl rfl ?_
            refine E_bipush 59 (by decide) dX4_readMixer_60 ?_
            refine E_callV (c_X4_expect l hfl mj ml N ((congrArg Int32.toInt h581).trans hN) hN2 a (hS2.trans (by omega)) (by omega) 59 59 (e : Int) (show (59 : Int32).toInt = 59 from rfl) hS4) cw_X4_62 (As := [.int 59]) (st := []) wi_yX4_expect we_yX4_expect (ci := 4) (q := (RX4, TX4, 5)) rfl rfl (wl_atO tw_58) rfl ⟨Nat.le_of_ble_eq_true rfl, Nat.le_of_ble_eq_true rfl, Nat.le_of_ble_eq_true rfl, Nat.le_of_ble_eq_true rfl⟩ (Nat.le_of_ble_eq_true rfl) dX4_readMixer_62 (fun _ _ h => h) rfl (kV (fun mi_62 ml_62 h_62 => ?_))
            obtain ⟨rfl, hF_62, hk_62, hx_62⟩ := h_62
            rw [show mj 59 = mi 59 from (hF 59 (by decide))] at hx_62
            refine E_aload_n 0 dX4_readMixer_65 rfl rfl ?_
            refine gf_X4_22 (mi_62 58 4) tw_58 rfl rfl dX4_readMixer_66 ?_
            refine E_iconst (-1) (by decide) dX4_readMixer_69 ?_
            refine Z_ne (e : Int) (-1) (ex_e hx_62 (by omega)).1 (show ((-1) : Int32).toInt = (-1) from rfl) 78 dX4_readMixer_70 (by decide) (fun c_70 => ?_) (fun c_70 => ?_)
            · skip
              refine E_vret rfl (Nat.le_of_ble_eq_true rfl) (Nat.le_of_ble_eq_true rfl) dX4_readMixer_78 ?_
              exact okQV ⟨rfl, Fr.w (Fr.trans hF hF_62 (fun _ h => h) (fun _ h => h)) (by decide), ((hk_62 1 (by decide) (by decide)).trans h581), fun k _ _ => congrFun ((hF_62 9 (by decide)).trans (hF 9 (by decide))) k, Or.inl ⟨e, mi_l ((pmT_e hMl).trans (hT0.symm.trans hT)), (ex_e hx_62 (by omega)).1.trans (by omega)⟩⟩
            · skip
              refine E_aload_n 1 dX4_readMixer_73 rfl rfl ?_
              refine E_iload_n 2 dX4_readMixer_74 rfl rfl ?_
              refine E_callV (c_X1_putMixer l hfl 9 isD_9 mi_62 ml xs M.length (((congrArg Int32.toInt ((congrFun (hF_62 9 (by decide)) 8).trans (congrFun (hF 9 (by decide)) 8))).trans hMd.1).trans (by omega)) (by omega) (by omega)) cw_X4_77 (As := [.int xs]) (st := []) wi_yX1_putMixer we_yX1_putMixer (ci := 1) (q := (RX1, TX1, 15)) rfl rfl (wl_atO isD_9.t) rfl ⟨Nat.le_of_ble_eq_true rfl, Nat.le_of_ble_eq_true rfl, Nat.le_of_ble_eq_true rfl, Nat.le_of_ble_eq_true rfl⟩ (Nat.le_of_ble_eq_true rfl) dX4_readMixer_75 (fun _ _ h => h) rfl (kE0 ?_)
              rw [show (mi_62 9 8) = (mi 9 8) from ((congrFun (hF_62 9 (by decide)) 8).trans (congrFun (hF 9 (by decide)) 8))]
              refine E_vret rfl (Nat.le_of_ble_eq_true rfl) (Nat.le_of_ble_eq_true rfl) dX4_readMixer_78 ?_
              exact absurd c_70 (by omega)
          · exact absurd c_20 (by omega)
      · skip
        refine E_iload_n 3 dX4_readMixer_9 rfl rfl ?_
        refine E_bipush 120 (by decide) dX4_readMixer_10 ?_
        refine Z_ge (k : Int) 120 hk (show (120 : Int32).toInt = 120 from rfl) 59 dX4_readMixer_12 (by decide) (fun c_12 => ?_) (fun c_12 => ?_)
        · skip
          refine E_aload_n 0 dX4_readMixer_59 rfl rfl ?_
          refine E_bipush 59 (by decide) dX4_readMixer_60 ?_
          refine E_callV (c_X4_expect l hfl mj ml N ((congrArg Int32.toInt h581).trans hN) hN2 q (hS2.trans (by omega)) (by omega) 59 59 (-1) (show (59 : Int32).toInt = 59 from rfl) hS4) cw_X4_62 (As := [.int 59]) (st := []) wi_yX4_expect we_yX4_expect (ci := 4) (q := (RX4, TX4, 5)) rfl rfl (wl_atO tw_58) rfl ⟨Nat.le_of_ble_eq_true rfl, Nat.le_of_ble_eq_true rfl, Nat.le_of_ble_eq_true rfl, Nat.le_of_ble_eq_true rfl⟩ (Nat.le_of_ble_eq_true rfl) dX4_readMixer_62 (fun _ _ h => h) rfl (kV (fun mi_62 ml_62 h_62 => ?_))
          obtain ⟨rfl, hF_62, hk_62, hx_62⟩ := h_62
          rw [show mj 59 = mi 59 from (hF 59 (by decide))] at hx_62
          rcases hx_62.resolve_left (fun z => z.1 rfl) with hx62 | hx62
          · skip
            have ht62 := tX_lt (row := mi 59) (N := N) (p := q) (by rw [hx62.2.1]; decide)
            refine E_aload_n 0 dX4_readMixer_65 rfl rfl ?_
            refine gf_X4_22 (mi_62 58 4) tw_58 rfl rfl dX4_readMixer_66 ?_
            refine E_iconst (-1) (by decide) dX4_readMixer_69 ?_
            refine Z_ne (-1) (-1) hx62.2.2.1 (show ((-1) : Int32).toInt = (-1) from rfl) 78 dX4_readMixer_70 (by decide) (fun c_70 => ?_) (fun c_70 => ?_)
            · skip
              refine E_vret rfl (Nat.le_of_ble_eq_true rfl) (Nat.le_of_ble_eq_true rfl) dX4_readMixer_78 ?_
              exact absurd rfl c_70
            · skip
              refine E_aload_n 1 dX4_readMixer_73 rfl rfl ?_
              refine E_iload_n 2 dX4_readMixer_74 rfl rfl ?_
              refine E_callV (c_X1_putMixer l hfl 9 isD_9 mi_62 ml xs M.length (((congrArg Int32.toInt ((congrFun (hF_62 9 (by decide)) 8).trans (congrFun (hF 9 (by decide)) 8))).trans hMd.1).trans (by omega)) (by omega) (by omega)) cw_X4_77 (As := [.int xs]) (st := []) wi_yX1_putMixer we_yX1_putMixer (ci := 1) (q := (RX1, TX1, 15)) rfl rfl (wl_atO isD_9.t) rfl ⟨Nat.le_of_ble_eq_true rfl, Nat.le_of_ble_eq_true rfl, Nat.le_of_ble_eq_true rfl, Nat.le_of_ble_eq_true rfl⟩ (Nat.le_of_ble_eq_true rfl) dX4_readMixer_75 (fun _ _ h => h) rfl (kE0 ?_)
              rw [show (mi_62 9 8) = (mi 9 8) from ((congrFun (hF_62 9 (by decide)) 8).trans (congrFun (hF 9 (by decide)) 8))]
              refine E_vret rfl (Nat.le_of_ble_eq_true rfl) (Nat.le_of_ble_eq_true rfl) dX4_readMixer_78 ?_
              have hdm9 := DrM_a (s := s) (hMd.c (congrFun ((hF_62 9 (by decide)).trans (hF 9 (by decide))) 8) ((hF_62 12 (by decide)).trans (hF 12 (by decide)))) hMl (tI_add hMd.1 (show (1 : Int32).toInt = 1 from rfl) (by omega)) hxs
              exact okQV ⟨rfl, (((Fr.w (G := [58, 9, 12]) (Fr.trans hF hF_62 (fun _ h => h) (fun _ h => h)) (by decide)).u (by decide)).u (by decide)).u (by decide), (u2_n (by omega)).trans ((u2_n (by omega)).trans ((u2_n (by omega)).trans (((hk_62 1 (by decide) (by decide)).trans h581)))), fun k hk hk2 => (u2_n (Or.inr hk2)).trans ((u2_n (by omega)).trans ((u2_n (Or.inr hk)).trans (congrFun ((hF_62 9 (by decide)).trans (hF 9 (by decide))) k))), Or.inr ⟨_, _, mi_y ((pmT_e hMl).trans (hT0.symm.trans (hT.trans (ifp_f (fun z => by have := tX_lt (row := mi 59) (N := N) (p := q) (by rw [z]; decide); omega))))) hx62.2.1, (congrArg Int32.toInt ((u2_n (by omega)).trans ((u2_n (by omega)).trans (u2_n (by omega))))).trans hx62.2.2.1, (congrArg Int32.toInt ((u2_n (by omega)).trans ((u2_n (by omega)).trans (u2_n (by omega))))).trans hx62.2.2.2, hdm9, u2_s _ _ _ _, by omega⟩⟩
          · skip
            refine E_aload_n 0 dX4_readMixer_65 rfl rfl ?_
            refine gf_X4_22 (mi_62 58 4) tw_58 rfl rfl dX4_readMixer_66 ?_
            refine E_iconst (-1) (by decide) dX4_readMixer_69 ?_
            refine Z_ne ((q : Nat) : Int) (-1) hx62.2.2.1 (show ((-1) : Int32).toInt = (-1) from rfl) 78 dX4_readMixer_70 (by decide) (fun c_70 => ?_) (fun c_70 => ?_)
            · skip
              refine E_vret rfl (Nat.le_of_ble_eq_true rfl) (Nat.le_of_ble_eq_true rfl) dX4_readMixer_78 ?_
              exact okQV ⟨rfl, Fr.w (Fr.trans hF hF_62 (fun _ h => h) (fun _ h => h)) (by decide), ((hk_62 1 (by decide) (by decide)).trans h581), fun k _ _ => congrFun ((hF_62 9 (by decide)).trans (hF 9 (by decide))) k, Or.inl ⟨q, mi_n ((pmT_e hMl).trans (hT0.symm.trans (hT.trans (ifp_f (fun z => by have := tX_lt (row := mi 59) (N := N) (p := q) (by rw [z]; decide); omega))))) hx62.2.1, hx62.2.2.1.trans (by omega)⟩⟩
            · skip
              refine E_aload_n 1 dX4_readMixer_73 rfl rfl ?_
              refine E_iload_n 2 dX4_readMixer_74 rfl rfl ?_
              refine E_callV (c_X1_putMixer l hfl 9 isD_9 mi_62 ml xs M.length (((congrArg Int32.toInt ((congrFun (hF_62 9 (by decide)) 8).trans (congrFun (hF 9 (by decide)) 8))).trans hMd.1).trans (by omega)) (by omega) (by omega)) cw_X4_77 (As := [.int xs]) (st := []) wi_yX1_putMixer we_yX1_putMixer (ci := 1) (q := (RX1, TX1, 15)) rfl rfl (wl_atO isD_9.t) rfl ⟨Nat.le_of_ble_eq_true rfl, Nat.le_of_ble_eq_true rfl, Nat.le_of_ble_eq_true rfl, Nat.le_of_ble_eq_true rfl⟩ (Nat.le_of_ble_eq_true rfl) dX4_readMixer_75 (fun _ _ h => h) rfl (kE0 ?_)
              rw [show (mi_62 9 8) = (mi 9 8) from ((congrFun (hF_62 9 (by decide)) 8).trans (congrFun (hF 9 (by decide)) 8))]
              refine E_vret rfl (Nat.le_of_ble_eq_true rfl) (Nat.le_of_ble_eq_true rfl) dX4_readMixer_78 ?_
              exact absurd c_70 (by omega)
        · skip
          refine E_aload_n 0 dX4_readMixer_15 rfl rfl ?_
          refine gf_X4_22 (mj 58 4) tw_58 rfl rfl dX4_readMixer_16 ?_
          refine E_iconst (-1) (by decide) dX4_readMixer_19 ?_
          refine Z_ne (-1) (-1) hS4 (show ((-1) : Int32).toInt = (-1) from rfl) 59 dX4_readMixer_20 (by decide) (fun c_20 => ?_) (fun c_20 => ?_)
          · exact absurd rfl c_20
          · skip
            refine E_aload_n 0 dX4_readMixer_23 rfl rfl ?_
            refine E_aload_n 0 dX4_readMixer_24 rfl rfl ?_
            refine gf_X4_19 (mj 58 2) tw_58 rfl rfl dX4_readMixer_25 ?_
            refine E_callV (c_X4_byteAt l hfl mj ml N ((congrArg Int32.toInt h581).trans hN) hN2 (mi 59) (hF 59 (by decide)) (mj 58 2) q (hS2.trans (by omega))) cw_X4_29 (As := [.int (mj 58 2)]) (st := []) wi_yX4_byteAt we_yX4_byteAt (ci := 4) (q := (RX4, TX4, 5)) rfl rfl (wl_atO tw_58) rfl ⟨Nat.le_of_ble_eq_true rfl, Nat.le_of_ble_eq_true rfl, Nat.le_of_ble_eq_true rfl, Nat.le_of_ble_eq_true rfl⟩ (Nat.le_of_ble_eq_true rfl) dX4_readMixer_28 (fun _ _ h => h) rfl (kE ?_)
            refine E_bipush 44 (by decide) dX4_readMixer_31 ?_
            refine Z_ne (tX (mi 59) N q) 44 hV_t (show (44 : Int32).toInt = 44 from rfl) 59 dX4_readMixer_33 (by decide) (fun c_33 => ?_) (fun c_33 => ?_)
            · skip
              refine E_aload_n 0 dX4_readMixer_59 rfl rfl ?_
              refine E_bipush 59 (by decide) dX4_readMixer_60 ?_
              refine E_callV (c_X4_expect l hfl mj ml N ((congrArg Int32.toInt h581).trans hN) hN2 q (hS2.trans (by omega)) (by omega) 59 59 (-1) (show (59 : Int32).toInt = 59 from rfl) hS4) cw_X4_62 (As := [.int 59]) (st := []) wi_yX4_expect we_yX4_expect (ci := 4) (q := (RX4, TX4, 5)) rfl rfl (wl_atO tw_58) rfl ⟨Nat.le_of_ble_eq_true rfl, Nat.le_of_ble_eq_true rfl, Nat.le_of_ble_eq_true rfl, Nat.le_of_ble_eq_true rfl⟩ (Nat.le_of_ble_eq_true rfl) dX4_readMixer_62 (fun _ _ h => h) rfl (kV (fun mi_62 ml_62 h_62 => ?_))
              obtain ⟨rfl, hF_62, hk_62, hx_62⟩ := h_62
              rw [show mj 59 = mi 59 from (hF 59 (by decide))] at hx_62
              rcases hx_62.resolve_left (fun z => z.1 rfl) with hx62 | hx62
              · skip
                have ht62 := tX_lt (row := mi 59) (N := N) (p := q) (by rw [hx62.2.1]; decide)
                refine E_aload_n 0 dX4_readMixer_65 rfl rfl ?_
                refine gf_X4_22 (mi_62 58 4) tw_58 rfl rfl dX4_readMixer_66 ?_
                refine E_iconst (-1) (by decide) dX4_readMixer_69 ?_
                refine Z_ne (-1) (-1) hx62.2.2.1 (show ((-1) : Int32).toInt = (-1) from rfl) 78 dX4_readMixer_70 (by decide) (fun c_70 => ?_) (fun c_70 => ?_)
                · skip
                  refine E_vret rfl (Nat.le_of_ble_eq_true rfl) (Nat.le_of_ble_eq_true rfl) dX4_readMixer_78 ?_
                  exact absurd rfl c_70
                · skip
                  refine E_aload_n 1 dX4_readMixer_73 rfl rfl ?_
                  refine E_iload_n 2 dX4_readMixer_74 rfl rfl ?_
                  refine E_callV (c_X1_putMixer l hfl 9 isD_9 mi_62 ml xs M.length (((congrArg Int32.toInt ((congrFun (hF_62 9 (by decide)) 8).trans (congrFun (hF 9 (by decide)) 8))).trans hMd.1).trans (by omega)) (by omega) (by omega)) cw_X4_77 (As := [.int xs]) (st := []) wi_yX1_putMixer we_yX1_putMixer (ci := 1) (q := (RX1, TX1, 15)) rfl rfl (wl_atO isD_9.t) rfl ⟨Nat.le_of_ble_eq_true rfl, Nat.le_of_ble_eq_true rfl, Nat.le_of_ble_eq_true rfl, Nat.le_of_ble_eq_true rfl⟩ (Nat.le_of_ble_eq_true rfl) dX4_readMixer_75 (fun _ _ h => h) rfl (kE0 ?_)
                  rw [show (mi_62 9 8) = (mi 9 8) from ((congrFun (hF_62 9 (by decide)) 8).trans (congrFun (hF 9 (by decide)) 8))]
                  refine E_vret rfl (Nat.le_of_ble_eq_true rfl) (Nat.le_of_ble_eq_true rfl) dX4_readMixer_78 ?_
                  have hdm9 := DrM_a (s := s) (hMd.c (congrFun ((hF_62 9 (by decide)).trans (hF 9 (by decide))) 8) ((hF_62 12 (by decide)).trans (hF 12 (by decide)))) hMl (tI_add hMd.1 (show (1 : Int32).toInt = 1 from rfl) (by omega)) hxs
                  exact okQV ⟨rfl, (((Fr.w (G := [58, 9, 12]) (Fr.trans hF hF_62 (fun _ h => h) (fun _ h => h)) (by decide)).u (by decide)).u (by decide)).u (by decide), (u2_n (by omega)).trans ((u2_n (by omega)).trans ((u2_n (by omega)).trans (((hk_62 1 (by decide) (by decide)).trans h581)))), fun k hk hk2 => (u2_n (Or.inr hk2)).trans ((u2_n (by omega)).trans ((u2_n (Or.inr hk)).trans (congrFun ((hF_62 9 (by decide)).trans (hF 9 (by decide))) k))), Or.inr ⟨_, _, mi_y ((pmT_e hMl).trans (hT0.symm.trans (hT.trans (ifp_f c_33)))) hx62.2.1, (congrArg Int32.toInt ((u2_n (by omega)).trans ((u2_n (by omega)).trans (u2_n (by omega))))).trans hx62.2.2.1, (congrArg Int32.toInt ((u2_n (by omega)).trans ((u2_n (by omega)).trans (u2_n (by omega))))).trans hx62.2.2.2, hdm9, u2_s _ _ _ _, by omega⟩⟩
              · skip
                refine E_aload_n 0 dX4_readMixer_65 rfl rfl ?_
                refine gf_X4_22 (mi_62 58 4) tw_58 rfl rfl dX4_readMixer_66 ?_
                refine E_iconst (-1) (by decide) dX4_readMixer_69 ?_
                refine Z_ne ((q : Nat) : Int) (-1) hx62.2.2.1 (show ((-1) : Int32).toInt = (-1) from rfl) 78 dX4_readMixer_70 (by decide) (fun c_70 => ?_) (fun c_70 => ?_)
                · skip
                  refine E_vret rfl (Nat.le_of_ble_eq_true rfl) (Nat.le_of_ble_eq_true rfl) dX4_readMixer_78 ?_
                  exact okQV ⟨rfl, Fr.w (Fr.trans hF hF_62 (fun _ h => h) (fun _ h => h)) (by decide), ((hk_62 1 (by decide) (by decide)).trans h581), fun k _ _ => congrFun ((hF_62 9 (by decide)).trans (hF 9 (by decide))) k, Or.inl ⟨q, mi_n ((pmT_e hMl).trans (hT0.symm.trans (hT.trans (ifp_f c_33)))) hx62.2.1, hx62.2.2.1.trans (by omega)⟩⟩
                · skip
                  refine E_aload_n 1 dX4_readMixer_73 rfl rfl ?_
                  refine E_iload_n 2 dX4_readMixer_74 rfl rfl ?_
                  refine E_callV (c_X1_putMixer l hfl 9 isD_9 mi_62 ml xs M.length (((congrArg Int32.toInt ((congrFun (hF_62 9 (by decide)) 8).trans (congrFun (hF 9 (by decide)) 8))).trans hMd.1).trans (by omega)) (by omega) (by omega)) cw_X4_77 (As := [.int xs]) (st := []) wi_yX1_putMixer we_yX1_putMixer (ci := 1) (q := (RX1, TX1, 15)) rfl rfl (wl_atO isD_9.t) rfl ⟨Nat.le_of_ble_eq_true rfl, Nat.le_of_ble_eq_true rfl, Nat.le_of_ble_eq_true rfl, Nat.le_of_ble_eq_true rfl⟩ (Nat.le_of_ble_eq_true rfl) dX4_readMixer_75 (fun _ _ h => h) rfl (kE0 ?_)
                  rw [show (mi_62 9 8) = (mi 9 8) from ((congrFun (hF_62 9 (by decide)) 8).trans (congrFun (hF 9 (by decide)) 8))]
                  refine E_vret rfl (Nat.le_of_ble_eq_true rfl) (Nat.le_of_ble_eq_true rfl) dX4_readMixer_78 ?_
                  exact absurd c_70 (by omega)
            · skip
              have hqlt := tX_lt (row := mi 59) (N := N) (p := q) (by rw [c_33]; decide)
              refine E_aload_n 0 dX4_readMixer_36 rfl rfl ?_
              refine E_dup rfl dX4_readMixer_37 ?_
              refine gf_X4_19 (mj 58 2) tw_58 rfl rfl dX4_readMixer_38 ?_
              refine E_iconst 1 (by decide) dX4_readMixer_41 ?_
              refine E_iadd dX4_readMixer_42 ?_
              refine pf_X4_19 tw_58 rfl dX4_readMixer_43 ?_
              refine E_aload_n 0 dX4_readMixer_46 rfl rfl ?_
              refine E_aload_n 1 dX4_readMixer_47 rfl rfl ?_
              refine E_iload_n 2 dX4_readMixer_48 rfl rfl ?_
              refine E_callV (c_X4_readMember l hfl (u2 mj 58 2 ((mj 58 2) + 1)) ml N ((congrArg Int32.toInt ((u2_n (by omega)).trans h581)).trans hN) hN2 D (hDc.c (congrFun ((u2_p (by decide)).trans (hF 9 (by decide))) 5) ((u2_p (by decide)).trans (hF 10 (by decide))) ((u2_p (by decide)).trans (hF 11 (by decide)))) (q + 1) (((congrArg Int32.toInt (u2_s _ _ _ _)).trans (tI_add hS2 (show (1 : Int32).toInt = 1 from rfl) (by omega))).trans (by omega)) (by omega) ((congrArg Int32.toInt ((u2_n (by omega)).trans rfl)).trans hS4) xs s (hxs.trans (by omega)) (by omega)) cw_X4_73 (As := [.ref 9, .int xs]) (st := []) wi_yX4_readMember we_yX4_readMember (ci := 4) (q := (RX4, TX4, 5)) rfl rfl (wl_atO tw_58) rfl ⟨Nat.le_of_ble_eq_true rfl, Nat.le_of_ble_eq_true rfl, Nat.le_of_ble_eq_true rfl, Nat.le_of_ble_eq_true rfl⟩ (Nat.le_of_ble_eq_true rfl) dX4_readMixer_49 (fun _ _ h => h) rfl (kI (fun r_49 mi_49 ml_49 h_49 => ?_))
              obtain ⟨rfl, hF_49, hn_49, hR_49⟩ := h_49
              rw [show (u2 mj 58 2 ((mj 58 2) + 1)) 59 = mi 59 from ((u2_p (by decide)).trans (hF 59 (by decide)))] at hR_49
              refine E_istore_n [(2, .int r_49), (0, .ref 58), (1, .ref 9), (3, .int xk)] dX4_readMixer_52 rfl (by decide) rfl ?_
              refine E_iinc 3 (xk + 1) [(3, .int (xk + 1)), (2, .int r_49), (0, .ref 58), (1, .ref 9)] dX4_readMixer_53 rfl rfl (by decide) rfl ?_
              refine E_goto 9 dX4_readMixer_56 (by decide) ?_
              refine E_sub [2, 3, 1, 0] rfl ?_
              exact ih9 (xk + 1) r_49 (k + 1) mi_49 (by omega) ((tI_add hk (show (1 : Int32).toInt = 1 from rfl) (by omega)).trans (by omega)) (by omega) (Fr.trans (F := [58]) (Fr.trans (F := [58]) (G := [58]) (H := [58]) hF (Fr_r.u (by decide)) (fun _ h => h) (fun _ h => h)) hF_49 (fun _ h => h) (fun _ h => h)) (hn_49.trans ((u2_n (by omega)).trans h581)) (MXS_i (f := f - 1) (hT.trans ((ifp_t c_33).trans (by rw [show f - 1 + 1 = f by omega]))) (by omega) (by omega) hR_49)
  refine E_sub [2, 3, 1, 0] rfl ?_
  exact J9 _ 0 r_3 0 mi_3 (Nat.lt_succ_self _) (show (0 : Int32).toInt = 0 from rfl) (by omega) hF_3 hn_3 (MXS_i (f := 121) hT0 rfl (by omega) hR_3)
end PL3
