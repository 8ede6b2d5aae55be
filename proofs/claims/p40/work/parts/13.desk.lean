section DSK
set_option maxHeartbeats 1600000 in
set_option maxRecDepth 100000 in
theorem c_X1_hasCarrier (l : Launch) (hfl : l.stackTraces = false) (h : Nat) (hd : isD h) (mi : MI) (ml : MJ) (c : Int32) (C n : Int) (hC : c.toInt = C) (hn : (mi h 5).toInt = n) : Ct l yX1_hasCarrier (.code yX1_hasCarrier cX1_hasCarrier 2 (some .boolean)) 0 0 0 [.ref h, .int c] (wl mi ml) (QP (some (.int (bI (0 ≤ C ∧ C < n ∧ C < 10)))) (wl mi ml)) noX := by
  refine Ct_of (ini := false) pn_X1 hfl (fun h => nomatch h) (Nat.le_of_ble_eq_true rfl) ?_
  show E l RX1 cX1_hasCarrier 2 (some .boolean) false [] (rmE 0 0 0) (wl mi ml) (TgM (wl mi ml) 0 0 (QP (some (.int (bI (0 ≤ C ∧ C < n ∧ C < 10)))) (wl mi ml)) noX) 0 0 0 [(0, .ref h), (1, .int c)] [] (wl mi ml)
  refine E_iload_n 1 dX1_hasCarrier_0 rfl rfl ?_
  refine Y_lt C hC 22 dX1_hasCarrier_1 (by decide) (fun c_1 => ?_) (fun c_1 => ?_)
  · skip
    refine E_iconst 0 (by decide) dX1_hasCarrier_22 ?_
    refine E_zret rfl rfl (Nat.le_of_ble_eq_true rfl) (Nat.le_of_ble_eq_true rfl) dX1_hasCarrier_23 ?_
    exact okP (b0 (by omega))
  · skip
    refine E_iload_n 1 dX1_hasCarrier_4 rfl rfl ?_
    refine E_aload_n 0 dX1_hasCarrier_5 rfl rfl ?_
    refine gf_X1_49 (mi h 5) hd.t rfl rfl dX1_hasCarrier_6 ?_
    refine Z_ge C n hC hn 22 dX1_hasCarrier_9 (by decide) (fun c_9 => ?_) (fun c_9 => ?_)
    · skip
      refine E_iconst 0 (by decide) dX1_hasCarrier_22 ?_
      refine E_zret rfl rfl (Nat.le_of_ble_eq_true rfl) (Nat.le_of_ble_eq_true rfl) dX1_hasCarrier_23 ?_
      exact okP (b0 (by omega))
    · skip
      refine E_iload_n 1 dX1_hasCarrier_12 rfl rfl ?_
      refine E_bipush 10 (by decide) dX1_hasCarrier_13 ?_
      refine Z_ge C 10 hC (show (10 : Int32).toInt = 10 from rfl) 22 dX1_hasCarrier_15 (by decide) (fun c_15 => ?_) (fun c_15 => ?_)
      · skip
        refine E_iconst 0 (by decide) dX1_hasCarrier_22 ?_
        refine E_zret rfl rfl (Nat.le_of_ble_eq_true rfl) (Nat.le_of_ble_eq_true rfl) dX1_hasCarrier_23 ?_
        exact okP (b0 (by omega))
      · skip
        refine E_iconst 1 (by decide) dX1_hasCarrier_18 ?_
        refine E_goto 23 dX1_hasCarrier_19 (by decide) ?_
        refine E_zret rfl rfl (Nat.le_of_ble_eq_true rfl) (Nat.le_of_ble_eq_true rfl) dX1_hasCarrier_23 ?_
        exact okP (b1 (by omega))
set_option maxHeartbeats 1600000 in
set_option maxRecDepth 100000 in
theorem c_X1_hasMixer (l : Launch) (hfl : l.stackTraces = false) (h : Nat) (hd : isD h) (mi : MI) (ml : MJ) (c : Int32) (C n : Int) (hC : c.toInt = C) (hn : (mi h 8).toInt = n) : Ct l yX1_hasMixer (.code yX1_hasMixer cX1_hasMixer 2 (some .boolean)) 0 0 0 [.ref h, .int c] (wl mi ml) (QP (some (.int (bI (0 ≤ C ∧ C < n ∧ C < 5)))) (wl mi ml)) noX := by
  refine Ct_of (ini := false) pn_X1 hfl (fun h => nomatch h) (Nat.le_of_ble_eq_true rfl) ?_
  show E l RX1 cX1_hasMixer 2 (some .boolean) false [] (rmE 0 0 0) (wl mi ml) (TgM (wl mi ml) 0 0 (QP (some (.int (bI (0 ≤ C ∧ C < n ∧ C < 5)))) (wl mi ml)) noX) 0 0 0 [(0, .ref h), (1, .int c)] [] (wl mi ml)
  refine E_iload_n 1 dX1_hasMixer_0 rfl rfl ?_
  refine Y_lt C hC 21 dX1_hasMixer_1 (by decide) (fun c_1 => ?_) (fun c_1 => ?_)
  · skip
    refine E_iconst 0 (by decide) dX1_hasMixer_21 ?_
    refine E_zret rfl rfl (Nat.le_of_ble_eq_true rfl) (Nat.le_of_ble_eq_true rfl) dX1_hasMixer_22 ?_
    exact okP (b0 (by omega))
  · skip
    refine E_iload_n 1 dX1_hasMixer_4 rfl rfl ?_
    refine E_aload_n 0 dX1_hasMixer_5 rfl rfl ?_
    refine gf_X1_52 (mi h 8) hd.t rfl rfl dX1_hasMixer_6 ?_
    refine Z_ge C n hC hn 21 dX1_hasMixer_9 (by decide) (fun c_9 => ?_) (fun c_9 => ?_)
    · skip
      refine E_iconst 0 (by decide) dX1_hasMixer_21 ?_
      refine E_zret rfl rfl (Nat.le_of_ble_eq_true rfl) (Nat.le_of_ble_eq_true rfl) dX1_hasMixer_22 ?_
      exact okP (b0 (by omega))
    · skip
      refine E_iload_n 1 dX1_hasMixer_12 rfl rfl ?_
      refine E_iconst 5 (by decide) dX1_hasMixer_13 ?_
      refine Z_ge C 5 hC (show (5 : Int32).toInt = 5 from rfl) 21 dX1_hasMixer_14 (by decide) (fun c_14 => ?_) (fun c_14 => ?_)
      · skip
        refine E_iconst 0 (by decide) dX1_hasMixer_21 ?_
        refine E_zret rfl rfl (Nat.le_of_ble_eq_true rfl) (Nat.le_of_ble_eq_true rfl) dX1_hasMixer_22 ?_
        exact okP (b0 (by omega))
      · skip
        refine E_iconst 1 (by decide) dX1_hasMixer_17 ?_
        refine E_goto 22 dX1_hasMixer_18 (by decide) ?_
        refine E_zret rfl rfl (Nat.le_of_ble_eq_true rfl) (Nat.le_of_ble_eq_true rfl) dX1_hasMixer_22 ?_
        exact okP (b1 (by omega))
set_option maxHeartbeats 1600000 in
set_option maxRecDepth 100000 in
theorem c_X1_hasTest (l : Launch) (hfl : l.stackTraces = false) (h : Nat) (hd : isD h) (mi : MI) (ml : MJ) (c : Int32) (C n : Int) (hC : c.toInt = C) (hn : (mi h 10).toInt = n) : Ct l yX1_hasTest (.code yX1_hasTest cX1_hasTest 2 (some .boolean)) 0 0 0 [.ref h, .int c] (wl mi ml) (QP (some (.int (bI (0 ≤ C ∧ C < n ∧ C < 16)))) (wl mi ml)) noX := by
  refine Ct_of (ini := false) pn_X1 hfl (fun h => nomatch h) (Nat.le_of_ble_eq_true rfl) ?_
  show E l RX1 cX1_hasTest 2 (some .boolean) false [] (rmE 0 0 0) (wl mi ml) (TgM (wl mi ml) 0 0 (QP (some (.int (bI (0 ≤ C ∧ C < n ∧ C < 16)))) (wl mi ml)) noX) 0 0 0 [(0, .ref h), (1, .int c)] [] (wl mi ml)
  refine E_iload_n 1 dX1_hasTest_0 rfl rfl ?_
  refine Y_lt C hC 22 dX1_hasTest_1 (by decide) (fun c_1 => ?_) (fun c_1 => ?_)
  · skip
    refine E_iconst 0 (by decide) dX1_hasTest_22 ?_
    refine E_zret rfl rfl (Nat.le_of_ble_eq_true rfl) (Nat.le_of_ble_eq_true rfl) dX1_hasTest_23 ?_
    exact okP (b0 (by omega))
  · skip
    refine E_iload_n 1 dX1_hasTest_4 rfl rfl ?_
    refine E_aload_n 0 dX1_hasTest_5 rfl rfl ?_
    refine gf_X1_55 (mi h 10) hd.t rfl rfl dX1_hasTest_6 ?_
    refine Z_ge C n hC hn 22 dX1_hasTest_9 (by decide) (fun c_9 => ?_) (fun c_9 => ?_)
    · skip
      refine E_iconst 0 (by decide) dX1_hasTest_22 ?_
      refine E_zret rfl rfl (Nat.le_of_ble_eq_true rfl) (Nat.le_of_ble_eq_true rfl) dX1_hasTest_23 ?_
      exact okP (b0 (by omega))
    · skip
      refine E_iload_n 1 dX1_hasTest_12 rfl rfl ?_
      refine E_bipush 16 (by decide) dX1_hasTest_13 ?_
      refine Z_ge C 16 hC (show (16 : Int32).toInt = 16 from rfl) 22 dX1_hasTest_15 (by decide) (fun c_15 => ?_) (fun c_15 => ?_)
      · skip
        refine E_iconst 0 (by decide) dX1_hasTest_22 ?_
        refine E_zret rfl rfl (Nat.le_of_ble_eq_true rfl) (Nat.le_of_ble_eq_true rfl) dX1_hasTest_23 ?_
        exact okP (b0 (by omega))
      · skip
        refine E_iconst 1 (by decide) dX1_hasTest_18 ?_
        refine E_goto 23 dX1_hasTest_19 (by decide) ?_
        refine E_zret rfl rfl (Nat.le_of_ble_eq_true rfl) (Nat.le_of_ble_eq_true rfl) dX1_hasTest_23 ?_
        exact okP (b1 (by omega))
set_option maxHeartbeats 1600000 in
set_option maxRecDepth 100000 in
theorem c_X1_channelOf (l : Launch) (hfl : l.stackTraces = false) (h : Nat) (hd : isD h) (mi : MI) (ml : MJ) (c : Int32) (j n : Nat) (hj : c.toInt = (j : Int)) (hn : (mi h 5).toInt = (n : Int)) (h1 : j < n) (h2 : n ≤ 10) : Ct l yX1_channelOf (.code yX1_channelOf cX1_channelOf 2 (some .int)) 1 0 0 [.ref h, .int c] (wl mi ml) (QP (some (.int (mi (h + 1) j))) (wl mi ml)) noX := by
  refine Ct_of (ini := false) pn_X1 hfl (fun h => nomatch h) (Nat.le_of_ble_eq_true rfl) ?_
  show E l RX1 cX1_channelOf 2 (some .int) false [] (rmE 1 0 0) (wl mi ml) (TgM (wl mi ml) 0 0 (QP (some (.int (mi (h + 1) j))) (wl mi ml)) noX) 0 0 0 [(0, .ref h), (1, .int c)] [] (wl mi ml)
  refine E_aload_n 0 dX1_channelOf_0 rfl rfl ?_
  refine E_iload_n 1 dX1_channelOf_1 rfl rfl ?_
  refine E_callV (c_X1_hasCarrier l hfl h hd mi ml c (j : Int) (n : Int) hj hn) cw_X1_64 (As := [.int c]) (st := []) wi_yX1_hasCarrier we_yX1_hasCarrier (ci := 1) (q := (RX1, TX1, 15)) rfl rfl (wl_atO hd.t) rfl ⟨Nat.le_of_ble_eq_true rfl, Nat.le_of_ble_eq_true rfl, Nat.le_of_ble_eq_true rfl, Nat.le_of_ble_eq_true rfl⟩ (Nat.le_of_ble_eq_true rfl) dX1_channelOf_2 (fun _ _ h => h) rfl (kE ?_)
  refine B_eq 17 dX1_channelOf_5 (by decide) (fun c_5 => ?_) (fun c_5 => ?_)
  · exact absurd (by omega) c_5
  · skip
    refine E_aload_n 0 dX1_channelOf_8 rfl rfl ?_
    refine gf_X1_27 hd.t rfl dX1_channelOf_9 ?_
    refine E_iload_n 1 dX1_channelOf_12 rfl rfl ?_
    refine S_iald j (mi (h + 1) j) hd.a1 (hj.trans (by omega)) (by omega) rfl dX1_channelOf_13 ?_
    refine E_goto 18 dX1_channelOf_14 (by decide) ?_
    refine E_iret rfl (Nat.le_of_ble_eq_true rfl) (Nat.le_of_ble_eq_true rfl) dX1_channelOf_18 ?_
    exact okP rfl
set_option maxHeartbeats 1600000 in
set_option maxRecDepth 100000 in
theorem c_X1_levelOf (l : Launch) (hfl : l.stackTraces = false) (h : Nat) (hd : isD h) (mi : MI) (ml : MJ) (c : Int32) (j n : Nat) (hj : c.toInt = (j : Int)) (hn : (mi h 5).toInt = (n : Int)) (h1 : j < n) (h2 : n ≤ 10) : Ct l yX1_levelOf (.code yX1_levelOf cX1_levelOf 2 (some .int)) 1 0 0 [.ref h, .int c] (wl mi ml) (QP (some (.int (mi (h + 2) j))) (wl mi ml)) noX := by
  refine Ct_of (ini := false) pn_X1 hfl (fun h => nomatch h) (Nat.le_of_ble_eq_true rfl) ?_
  show E l RX1 cX1_levelOf 2 (some .int) false [] (rmE 1 0 0) (wl mi ml) (TgM (wl mi ml) 0 0 (QP (some (.int (mi (h + 2) j))) (wl mi ml)) noX) 0 0 0 [(0, .ref h), (1, .int c)] [] (wl mi ml)
  refine E_aload_n 0 dX1_levelOf_0 rfl rfl ?_
  refine E_iload_n 1 dX1_levelOf_1 rfl rfl ?_
  refine E_callV (c_X1_hasCarrier l hfl h hd mi ml c (j : Int) (n : Int) hj hn) cw_X1_64 (As := [.int c]) (st := []) wi_yX1_hasCarrier we_yX1_hasCarrier (ci := 1) (q := (RX1, TX1, 15)) rfl rfl (wl_atO hd.t) rfl ⟨Nat.le_of_ble_eq_true rfl, Nat.le_of_ble_eq_true rfl, Nat.le_of_ble_eq_true rfl, Nat.le_of_ble_eq_true rfl⟩ (Nat.le_of_ble_eq_true rfl) dX1_levelOf_2 (fun _ _ h => h) rfl (kE ?_)
  refine B_eq 17 dX1_levelOf_5 (by decide) (fun c_5 => ?_) (fun c_5 => ?_)
  · exact absurd (by omega) c_5
  · skip
    refine E_aload_n 0 dX1_levelOf_8 rfl rfl ?_
    refine gf_X1_31 hd.t rfl dX1_levelOf_9 ?_
    refine E_iload_n 1 dX1_levelOf_12 rfl rfl ?_
    refine S_iald j (mi (h + 2) j) hd.a2 (hj.trans (by omega)) (by omega) rfl dX1_levelOf_13 ?_
    refine E_goto 18 dX1_levelOf_14 (by decide) ?_
    refine E_iret rfl (Nat.le_of_ble_eq_true rfl) (Nat.le_of_ble_eq_true rfl) dX1_levelOf_18 ?_
    exact okP rfl
theorem pow_nI {x : Int32} {n : Nat} (hx : x.toInt = (n : Int)) (h : n ≤ 10) : ((1 : Int32) <<< (x &&& 31)) - 1 = nI (2 ^ n - 1) := by
  have e := tI_nIx hx
  subst e
  have h3 : ∀ m : Nat, m < 11 → ((1 : Int32) <<< (nI m &&& 31)) - 1 = nI (2 ^ m - 1) := by decide +kernel
  exact h3 n (by omega)
set_option maxHeartbeats 1600000 in
set_option maxRecDepth 100000 in
theorem c_X1_everyCarrier (l : Launch) (hfl : l.stackTraces = false) (h : Nat) (hd : isD h) (mi : MI) (ml : MJ) (n : Nat) (hn : (mi h 5).toInt = (n : Int)) (h2 : n ≤ 10) : Ct l yX1_everyCarrier (.code yX1_everyCarrier cX1_everyCarrier 1 (some .int)) 0 0 0 [.ref h] (wl mi ml) (QP (some (.int (nI (2 ^ n - 1)))) (wl mi ml)) noX := by
  refine Ct_of (ini := false) pn_X1 hfl (fun h => nomatch h) (Nat.le_of_ble_eq_true rfl) ?_
  show E l RX1 cX1_everyCarrier 1 (some .int) false [] (rmE 0 0 0) (wl mi ml) (TgM (wl mi ml) 0 0 (QP (some (.int (nI (2 ^ n - 1)))) (wl mi ml)) noX) 0 0 0 [(0, .ref h)] [] (wl mi ml)
  refine E_iconst 1 (by decide) dX1_everyCarrier_0 ?_
  refine E_aload_n 0 dX1_everyCarrier_1 rfl rfl ?_
  refine gf_X1_49 (mi h 5) hd.t rfl rfl dX1_everyCarrier_2 ?_
  refine E_ishl dX1_everyCarrier_5 ?_
  refine E_iconst 1 (by decide) dX1_everyCarrier_6 ?_
  refine E_isub dX1_everyCarrier_7 ?_
  refine E_iret rfl (Nat.le_of_ble_eq_true rfl) (Nat.le_of_ble_eq_true rfl) dX1_everyCarrier_8 ?_
  exact okP (pow_nI hn h2)
set_option maxHeartbeats 1600000 in
set_option maxRecDepth 100000 in
theorem c_X1_everyMixer (l : Launch) (hfl : l.stackTraces = false) (h : Nat) (hd : isD h) (mi : MI) (ml : MJ) (n : Nat) (hn : (mi h 8).toInt = (n : Int)) (h2 : n ≤ 10) : Ct l yX1_everyMixer (.code yX1_everyMixer cX1_everyMixer 1 (some .int)) 0 0 0 [.ref h] (wl mi ml) (QP (some (.int (nI (2 ^ n - 1)))) (wl mi ml)) noX := by
  refine Ct_of (ini := false) pn_X1 hfl (fun h => nomatch h) (Nat.le_of_ble_eq_true rfl) ?_
  show E l RX1 cX1_everyMixer 1 (some .int) false [] (rmE 0 0 0) (wl mi ml) (TgM (wl mi ml) 0 0 (QP (some (.int (nI (2 ^ n - 1)))) (wl mi ml)) noX) 0 0 0 [(0, .ref h)] [] (wl mi ml)
  refine E_iconst 1 (by decide) dX1_everyMixer_0 ?_
  refine E_aload_n 0 dX1_everyMixer_1 rfl rfl ?_
  refine gf_X1_52 (mi h 8) hd.t rfl rfl dX1_everyMixer_2 ?_
  refine E_ishl dX1_everyMixer_5 ?_
  refine E_iconst 1 (by decide) dX1_everyMixer_6 ?_
  refine E_isub dX1_everyMixer_7 ?_
  refine E_iret rfl (Nat.le_of_ble_eq_true rfl) (Nat.le_of_ble_eq_true rfl) dX1_everyMixer_8 ?_
  exact okP (pow_nI hn h2)
set_option maxHeartbeats 1600000 in
set_option maxRecDepth 100000 in
theorem c_X1_carrierOn (l : Launch) (hfl : l.stackTraces = false) (h : Nat) (hd : isD h) (mi : MI) (ml : MJ) (c : Int32) (n : Nat) (hn : (mi h 5).toInt = (n : Int)) (h2 : n ≤ 10) : Ct l yX1_carrierOn (.code yX1_carrierOn cX1_carrierOn 3 (some .int)) 2 0 0 [.ref h, .int c] (wl mi ml) (QI (fun r mi9 ml9 => mi = mi9 ∧ ml = ml9 ∧ ((∃ j : Nat, j < n ∧ r.toInt = (j : Int) ∧ mi (h + 1) j = c) ∨ (r = -1 ∧ ∀ j, j < n → mi (h + 1) j ≠ c)))) noX := by
  refine Ct_of (ini := false) pn_X1 hfl (fun h => nomatch h) (Nat.le_of_ble_eq_true rfl) ?_
  show E l RX1 cX1_carrierOn 3 (some .int) false [] (rmE 2 0 0) (wl mi ml) (TgM (wl mi ml) 0 0 (QI (fun r mi9 ml9 => mi = mi9 ∧ ml = ml9 ∧ ((∃ j : Nat, j < n ∧ r.toInt = (j : Int) ∧ mi (h + 1) j = c) ∨ (r = -1 ∧ ∀ j, j < n → mi (h + 1) j ≠ c)))) noX) 0 0 0 [(0, .ref h), (1, .int c)] [] (wl mi ml)
  refine E_iconst 0 (by decide) dX1_carrierOn_0 ?_
  refine E_istore_n [(2, .int 0), (0, .ref h), (1, .int c)] dX1_carrierOn_1 rfl (by decide) rfl ?_
  have J2 : ∀ (N : Nat) (xi : Int32) (i : Nat), n - i < N → xi.toInt = (i : Int) → i ≤ n → (∀ j, j < i → mi (h + 1) j ≠ c) → E l RX1 cX1_carrierOn 3 (some .int) false [] (rmE 2 0 0) (wl mi ml) (TgM (wl mi ml) 0 0 (QI (fun r mi9 ml9 => mi = mi9 ∧ ml = ml9 ∧ ((∃ j : Nat, j < n ∧ r.toInt = (j : Int) ∧ mi (h + 1) j = c) ∨ (r = -1 ∧ ∀ j, j < n → mi (h + 1) j ≠ c)))) noX) 0 0 2 [(0, .ref h), (1, .int c), (2, .int xi)] [] (wl mi ml) := by
    intro N
    induction N with
    | zero => intros; omega
    | succ N ih2 =>
      intro xi i hN2 hxi hi hj
      refine E_iload_n 2 dX1_carrierOn_2 rfl rfl ?_
      refine E_aload_n 0 dX1_carrierOn_3 rfl rfl ?_
      refine gf_X1_49 (mi h 5) hd.t rfl rfl dX1_carrierOn_4 ?_
      refine Z_ge (i : Int) (n : Int) hxi hn 27 dX1_carrierOn_7 (by decide) (fun c_7 => ?_) (fun c_7 => ?_)
      · skip
        refine E_iconst (-1) (by decide) dX1_carrierOn_27 ?_
        refine E_iret rfl (Nat.le_of_ble_eq_true rfl) (Nat.le_of_ble_eq_true rfl) dX1_carrierOn_28 ?_
        exact okQI ⟨rfl, rfl, Or.inr ⟨rfl, fun j h => hj j (by omega)⟩⟩
      · skip
        refine E_aload_n 0 dX1_carrierOn_10 rfl rfl ?_
        refine E_iload_n 2 dX1_carrierOn_11 rfl rfl ?_
        refine E_callV (c_X1_channelOf l hfl h hd mi ml xi i n (hxi.trans (by omega)) hn (by omega) (by omega)) cw_X1_68 (As := [.int xi]) (st := []) wi_yX1_channelOf we_yX1_channelOf (ci := 1) (q := (RX1, TX1, 15)) rfl rfl (wl_atO hd.t) rfl ⟨Nat.le_of_ble_eq_true rfl, Nat.le_of_ble_eq_true rfl, Nat.le_of_ble_eq_true rfl, Nat.le_of_ble_eq_true rfl⟩ (Nat.le_of_ble_eq_true rfl) dX1_carrierOn_12 (fun _ _ h => h) rfl (kE ?_)
        refine E_iload_n 1 dX1_carrierOn_15 rfl rfl ?_
        refine Z_ne ((mi (h + 1) i).toInt) c.toInt rfl rfl 21 dX1_carrierOn_16 (by decide) (fun c_16 => ?_) (fun c_16 => ?_)
        · skip
          refine E_iinc 2 (xi + 1) [(2, .int (xi + 1)), (0, .ref h), (1, .int c)] dX1_carrierOn_21 rfl rfl (by decide) rfl ?_
          refine E_goto 2 dX1_carrierOn_24 (by decide) ?_
          refine E_sub [1, 2, 0] rfl ?_
          exact ih2 (xi + 1) (i + 1) (by omega) ((tI_add hxi (show (1 : Int32).toInt = 1 from rfl) (by omega)).trans (by omega)) (by omega) (lt_s hj (fun q => c_16 (by rw [q])))
        · skip
          refine E_iload_n 2 dX1_carrierOn_19 rfl rfl ?_
          refine E_iret rfl (Nat.le_of_ble_eq_true rfl) (Nat.le_of_ble_eq_true rfl) dX1_carrierOn_20 ?_
          exact okQI ⟨rfl, rfl, Or.inl ⟨i, by omega, hxi, Int32.toInt_inj.mp c_16⟩⟩
  refine E_sub [1, 2, 0] rfl ?_
  exact J2 _ 0 0 (Nat.lt_succ_self _) (show (0 : Int32).toInt = 0 from rfl) (Nat.zero_le _) (fun j h => absurd h (Nat.not_lt_zero j))
end DSK
