section FA5
set_option maxHeartbeats 1600000 in
set_option maxRecDepth 100000 in
theorem c_X4_put (l : Launch) (hfl : l.stackTraces = false) (mi : MI) (ml : MJ) (N : Nat) (hN : (mi 58 1).toInt = (N : Int)) (hN2 : N ≤ 120) (v : Int32) (hlt : N < 120) : Ct l yX4_put (.code yX4_put cX4_put 2 none) 0 0 0 [.ref 58, .int v] (wl mi ml) (QP none (wl (u2 (u2 mi 59 N v) 58 1 (mi 58 1 + 1)) ml)) noX := by
  refine Ct_of (ini := false) pn_X4 hfl (fun h => nomatch h) (Nat.le_of_ble_eq_true rfl) ?_
  show E l RX4 cX4_put 2 none false [] (rmE 0 0 0) (wl mi ml) (TgM (wl mi ml) 0 0 (QP none (wl (u2 (u2 mi 59 N v) 58 1 (mi 58 1 + 1)) ml)) noX) 0 0 0 [(0, .ref 58), (1, .int v)] [] (wl mi ml)
  refine E_aload_n 0 dX4_put_0 rfl rfl ?_
  refine gf_X4_15 (mi 58 1) tw_58 rfl rfl dX4_put_1 ?_
  refine Y_lt (N : Int) hN 36 dX4_put_4 (by decide) (fun c_4 => ?_) (fun c_4 => ?_)
  · exact absurd c_4 (by omega)
  · skip
    refine E_aload_n 0 dX4_put_7 rfl rfl ?_
    refine gf_X4_15 (mi 58 1) tw_58 rfl rfl dX4_put_8 ?_
    refine E_bipush 120 (by decide) dX4_put_11 ?_
    refine Z_ge (N : Int) 120 hN (show (120 : Int32).toInt = 120 from rfl) 36 dX4_put_13 (by decide) (fun c_13 => ?_) (fun c_13 => ?_)
    · exact absurd c_13 (by omega)
    · skip
      refine E_aload_n 0 dX4_put_16 rfl rfl ?_
      refine gf_X4_9 tw_58 rfl dX4_put_17 ?_
      refine E_aload_n 0 dX4_put_20 rfl rfl ?_
      refine gf_X4_15 (mi 58 1) tw_58 rfl rfl dX4_put_21 ?_
      refine E_iload_n 1 dX4_put_24 rfl rfl ?_
      refine S_iast N tw_59 (hN.trans (by omega)) (by omega) dX4_put_25 ?_
      refine E_aload_n 0 dX4_put_26 rfl rfl ?_
      refine E_dup rfl dX4_put_27 ?_
      refine gf_X4_15 (mi 58 1) tw_58 rfl ((u2_n (by omega)).trans rfl) dX4_put_28 ?_
      refine E_iconst 1 (by decide) dX4_put_31 ?_
      refine E_iadd dX4_put_32 ?_
      refine pf_X4_15 tw_58 rfl dX4_put_33 ?_
      refine E_vret rfl (Nat.le_of_ble_eq_true rfl) (Nat.le_of_ble_eq_true rfl) dX4_put_36 ?_
      exact ⟨rfl, rfl⟩
set_option maxHeartbeats 1600000 in
set_option maxRecDepth 100000 in
theorem c_X5_append (l : Launch) (hfl : l.stackTraces = false) (mi : MI) (ml : MJ) (N : Nat) (hN : (mi 58 1).toInt = (N : Int)) (hN2 : N ≤ 120) (a : Int32) (A : Int) (hA : a.toInt = A) : Ct l yX5_append (.code yX5_append cX5_append 2 (some .int)) 2 1 6 [.ref 0, .int a] (wl mi ml) (QI (fun r mi9 ml9 => ml = ml9 ∧ (0 ≤ A ∧ A ≤ 127) ∧ N < 120 ∧ r.toInt = (N : Int) + 1 ∧ u2 (u2 mi 59 N a) 58 1 r = mi9)) (XW (fun En mi9 ml9 => mi = mi9 ∧ ml = ml9 ∧ ((En = xIA ∧ ¬ (0 ≤ A ∧ A ≤ 127)) ∨ (En = xIS ∧ (0 ≤ A ∧ A ≤ 127) ∧ ¬ N < 120)))) := by
  refine Ct_of (ini := false) pn_X5 hfl (fun h => nomatch h) (Nat.le_of_ble_eq_true rfl) ?_
  show E l RX5 cX5_append 2 (some .int) false [] (rmE 2 1 6) (wl mi ml) (TgM (wl mi ml) 1 6 (QI (fun r mi9 ml9 => ml = ml9 ∧ (0 ≤ A ∧ A ≤ 127) ∧ N < 120 ∧ r.toInt = (N : Int) + 1 ∧ u2 (u2 mi 59 N a) 58 1 r = mi9)) (XW (fun En mi9 ml9 => mi = mi9 ∧ ml = ml9 ∧ ((En = xIA ∧ ¬ (0 ≤ A ∧ A ≤ 127)) ∨ (En = xIS ∧ (0 ≤ A ∧ A ≤ 127) ∧ ¬ N < 120))))) 0 0 0 [(0, .ref 0), (1, .int a)] [] (wl mi ml)
  refine E_iload_n 1 dX5_append_0 rfl rfl ?_
  refine E_iconst 0 (by decide) dX5_append_1 ?_
  refine E_bipush 127 (by decide) dX5_append_2 ?_
  refine E_callS (c_X5_isWithin l hfl mi ml a A hA 0 0 (show (0 : Int32).toInt = 0 from rfl) 127 127 (show (127 : Int32).toInt = 127 from rfl)) cw_X5_112 (As := [.int a, .int 0, .int 127]) (st := []) ws_yX5_isWithin rfl ⟨Nat.le_of_ble_eq_true rfl, Nat.le_of_ble_eq_true rfl, Nat.le_of_ble_eq_true rfl, Nat.le_of_ble_eq_true rfl⟩ (Nat.le_of_ble_eq_true rfl) dX5_append_4 (fun _ _ h => h) rfl (kE ?_)
  refine B_ne 21 dX5_append_7 (by decide) (fun c_7 => ?_) (fun c_7 => ?_)
  · skip
    refine E_aload_n 0 dX5_append_21 rfl rfl ?_
    refine gf_X5_43 tw_0 rfl dX5_append_22 ?_
    refine gf_X5_266 (mi 58 1) tw_58 rfl rfl dX5_append_25 ?_
    refine E_bipush 120 (by decide) dX5_append_28 ?_
    refine Z_lt (N : Int) 120 hN (show (120 : Int32).toInt = 120 from rfl) 44 dX5_append_30 (by decide) (fun c_30 => ?_) (fun c_30 => ?_)
    · skip
      refine E_aload_n 0 dX5_append_44 rfl rfl ?_
      refine gf_X5_43 tw_0 rfl dX5_append_45 ?_
      refine E_iload_n 1 dX5_append_48 rfl rfl ?_
      refine E_callV (c_X4_put l hfl mi ml N hN hN2 a (by omega)) cw_X5_271 (As := [.int a]) (st := []) wi_yX4_put we_yX4_put (ci := 4) (q := (RX4, TX4, 5)) rfl rfl (wl_atO tw_58) rfl ⟨Nat.le_of_ble_eq_true rfl, Nat.le_of_ble_eq_true rfl, Nat.le_of_ble_eq_true rfl, Nat.le_of_ble_eq_true rfl⟩ (Nat.le_of_ble_eq_true rfl) dX5_append_49 (fun _ _ h => h) rfl (kE0 ?_)
      refine E_aload_n 0 dX5_append_52 rfl rfl ?_
      refine gf_X5_43 tw_0 rfl dX5_append_53 ?_
      refine gf_X5_266 (mi 58 1 + 1) tw_58 rfl (u2_s _ _ _ _) dX5_append_56 ?_
      refine E_iret rfl (Nat.le_of_ble_eq_true rfl) (Nat.le_of_ble_eq_true rfl) dX5_append_59 ?_
      exact okQI ⟨rfl, c_7, by omega, tI_add hN (show (1 : Int32).toInt = 1 from rfl) (by omega), rfl⟩
    · skip
      refine E_throwW (cls := "java/lang/IllegalStateException") (names := ["java/lang/RuntimeException", "java/lang/Exception"]) (by decide) fitX wcl_X5_104 wz_IllegalStateException str_269 atIS otIS rfl ⟨Nat.le_of_ble_eq_true rfl, Nat.le_of_ble_eq_true rfl, Nat.le_of_ble_eq_true rfl, Nat.le_of_ble_eq_true rfl⟩ (Nat.le_of_ble_eq_true rfl) (Nat.le_of_ble_eq_true rfl) dX5_append_33 dX5_append_36 dX5_append_37 dX5_append_40 dX5_append_43 ?_
      exact okXW ⟨rfl, rfl, Or.inr ⟨rfl, c_7, by omega⟩⟩
  · skip
    refine E_throwW (cls := "java/lang/IllegalArgumentException") (names := ["java/lang/RuntimeException", "java/lang/Exception"]) (by decide) fitX wcl_X5_62 wz_IllegalArgumentException str_264 atIA otIA rfl ⟨Nat.le_of_ble_eq_true rfl, Nat.le_of_ble_eq_true rfl, Nat.le_of_ble_eq_true rfl, Nat.le_of_ble_eq_true rfl⟩ (Nat.le_of_ble_eq_true rfl) (Nat.le_of_ble_eq_true rfl) dX5_append_10 dX5_append_13 dX5_append_14 dX5_append_17 dX5_append_20 ?_
    exact okXW ⟨rfl, rfl, Or.inl ⟨rfl, c_7⟩⟩
set_option maxHeartbeats 1600000 in
set_option maxRecDepth 100000 in
theorem c_X5_undo (l : Launch) (hfl : l.stackTraces = false) (mi : MI) (ml : MJ) (p sz : Nat) (hp : (mi 17 1).toInt = (p : Int)) (hp4 : p < 4) (hsz : (mi 17 2).toInt = (sz : Int)) (hs4 : sz ≤ 4) : Ct l yX5_undo (.code yX5_undo cX5_undo 1 (some .int)) 2 1 6 [.ref 0] (wl mi ml) (QI (fun r mi9 ml9 => ml = ml9 ∧ 0 < sz ∧ r = mi9 17 2 ∧ POS p sz mi mi9)) (XW (fun En mi9 ml9 => mi = mi9 ∧ ml = ml9 ∧ En = xIS ∧ ¬ 0 < sz)) := by
  refine Ct_of (ini := false) pn_X5 hfl (fun h => nomatch h) (Nat.le_of_ble_eq_true rfl) ?_
  show E l RX5 cX5_undo 1 (some .int) false [] (rmE 2 1 6) (wl mi ml) (TgM (wl mi ml) 1 6 (QI (fun r mi9 ml9 => ml = ml9 ∧ 0 < sz ∧ r = mi9 17 2 ∧ POS p sz mi mi9)) (XW (fun En mi9 ml9 => mi = mi9 ∧ ml = ml9 ∧ En = xIS ∧ ¬ 0 < sz))) 0 0 0 [(0, .ref 0)] [] (wl mi ml)
  refine E_aload_n 0 dX5_undo_0 rfl rfl ?_
  refine gf_X5_22 tw_0 rfl dX5_undo_1 ?_
  refine gf_X5_284 (mi 17 2) tw_17 rfl rfl dX5_undo_4 ?_
  refine Y_gt (sz : Int) hsz 21 dX5_undo_7 (by decide) (fun c_7 => ?_) (fun c_7 => ?_)
  · skip
    refine E_aload_n 0 dX5_undo_21 rfl rfl ?_
    refine gf_X5_22 tw_0 rfl dX5_undo_22 ?_
    refine E_aload_n 0 dX5_undo_25 rfl rfl ?_
    refine gf_X5_10 tw_0 rfl dX5_undo_26 ?_
    refine E_callV (c_X2_popInto l hfl mi ml p sz hp hp4 hsz hs4 _ rfl) cw_X5_287 (As := [.ref 1]) (st := []) wi_yX2_popInto we_yX2_popInto (ci := 2) (q := (RX2, TX2, 3)) rfl rfl (wl_atO tw_17) rfl ⟨Nat.le_of_ble_eq_true rfl, Nat.le_of_ble_eq_true rfl, Nat.le_of_ble_eq_true rfl, Nat.le_of_ble_eq_true rfl⟩ (Nat.le_of_ble_eq_true rfl) dX5_undo_29 (fun _ _ h => h) rfl (kV (fun mi_29 ml_29 h_29 => ?_))
    obtain ⟨rfl, h_29⟩ := h_29
    refine E_aload_n 0 dX5_undo_32 rfl rfl ?_
    refine gf_X5_22 tw_0 rfl dX5_undo_33 ?_
    refine gf_X5_284 (mi_29 17 2) tw_17 rfl rfl dX5_undo_36 ?_
    refine E_iret rfl (Nat.le_of_ble_eq_true rfl) (Nat.le_of_ble_eq_true rfl) dX5_undo_39 ?_
    exact okQI ⟨rfl, by omega, rfl, h_29⟩
  · skip
    refine E_throwW (cls := "java/lang/IllegalStateException") (names := ["java/lang/RuntimeException", "java/lang/Exception"]) (by decide) fitX wcl_X5_104 wz_IllegalStateException str_285 atIS otIS rfl ⟨Nat.le_of_ble_eq_true rfl, Nat.le_of_ble_eq_true rfl, Nat.le_of_ble_eq_true rfl, Nat.le_of_ble_eq_true rfl⟩ (Nat.le_of_ble_eq_true rfl) (Nat.le_of_ble_eq_true rfl) dX5_undo_10 dX5_undo_13 dX5_undo_14 dX5_undo_17 dX5_undo_20 ?_
    exact okXW ⟨rfl, rfl, rfl, by omega⟩
set_option maxHeartbeats 1600000 in
set_option maxRecDepth 100000 in
theorem c_X5_addMixer (l : Launch) (hfl : l.stackTraces = false) (mi : MI) (ml : MJ) (V : Nat → Int32) (hV : WFV V) (hD : DR 1 mi V) (n : Nat) (hn : (V 5).toInt = (n : Int)) (h10 : n ≤ 10) (m : Nat) (hm : (V 26).toInt = (m : Int)) (h5 : m ≤ 5) (p sz : Nat) (hp : (mi 17 1).toInt = (p : Int)) (hp4 : p < 4) (hsz : (mi 17 2).toInt = (sz : Int)) (hs4 : sz ≤ 4) (a : Int32) (A : Int) (hA : a.toInt = A) : Ct l yX5_addMixer (.code yX5_addMixer cX5_addMixer 2 (some .int)) 3 2 12 [.ref 0, .int a] (wl mi ml) (QI (fun r mi9 ml9 => ml = ml9 ∧ (0 ≤ A ∧ A ≤ ((2 ^ n - 1 : Nat) : Int)) ∧ m < 5 ∧ r.toInt = (m : Int) ∧ ∃ mk, PUS p sz mi mk ∧ u2 (u2 (u2 mk 1 8 (V 26 + 1)) 4 m a) 1 10 0 = mi9)) (XW (fun En mi9 ml9 => mi = mi9 ∧ ml = ml9 ∧ ((En = xIA ∧ ¬ (0 ≤ A ∧ A ≤ ((2 ^ n - 1 : Nat) : Int))) ∨ (En = xIS ∧ (0 ≤ A ∧ A ≤ ((2 ^ n - 1 : Nat) : Int)) ∧ ¬ m < 5)))) := by
  refine Ct_of (ini := false) pn_X5 hfl (fun h => nomatch h) (Nat.le_of_ble_eq_true rfl) ?_
  show E l RX5 cX5_addMixer 2 (some .int) false [] (rmE 3 2 12) (wl mi ml) (TgM (wl mi ml) 2 12 (QI (fun r mi9 ml9 => ml = ml9 ∧ (0 ≤ A ∧ A ≤ ((2 ^ n - 1 : Nat) : Int)) ∧ m < 5 ∧ r.toInt = (m : Int) ∧ ∃ mk, PUS p sz mi mk ∧ u2 (u2 (u2 mk 1 8 (V 26 + 1)) 4 m a) 1 10 0 = mi9)) (XW (fun En mi9 ml9 => mi = mi9 ∧ ml = ml9 ∧ ((En = xIA ∧ ¬ (0 ≤ A ∧ A ≤ ((2 ^ n - 1 : Nat) : Int))) ∨ (En = xIS ∧ (0 ≤ A ∧ A ≤ ((2 ^ n - 1 : Nat) : Int)) ∧ ¬ m < 5))))) 0 0 0 [(0, .ref 0), (1, .int a)] [] (wl mi ml)
  refine E_aload_n 0 dX5_addMixer_0 rfl rfl ?_
  refine E_iload_n 1 dX5_addMixer_1 rfl rfl ?_
  refine E_callVx (c_X5_needSetOfCarriers l hfl mi ml  n ((congrArg Int32.toInt hD.2.1.1).trans hn) (by omega) a A hA) cw_X5_166 (As := [.int a]) (st := []) wi_yX5_needSetOfCarriers we_yX5_needSetOfCarriers (ci := 5) (q := (RX5, TX5, 7)) rfl rfl (wl_atO tw_0) rfl ⟨Nat.le_of_ble_eq_true rfl, Nat.le_of_ble_eq_true rfl, Nat.le_of_ble_eq_true rfl, Nat.le_of_ble_eq_true rfl⟩ (Nat.le_of_ble_eq_true rfl) dX5_addMixer_2 rfl (Nat.le_of_ble_eq_true rfl) (Nat.le_of_ble_eq_true rfl) (XW.w (by rintro _ _ _ ⟨rfl, rfl, rfl, q⟩; exact ⟨rfl, rfl, Or.inl ⟨rfl, q⟩⟩)) rfl (kV (fun mi_2 ml_2 h_2 => ?_))
  obtain ⟨rfl, rfl, h_2⟩ := h_2
  refine E_aload_n 0 dX5_addMixer_5 rfl rfl ?_
  refine gf_X5_10 tw_0 rfl dX5_addMixer_6 ?_
  refine gf_X5_138 (V 26) isD_1.t rfl hD.2.1.2.1 dX5_addMixer_9 ?_
  refine E_iconst 5 (by decide) dX5_addMixer_12 ?_
  refine Z_lt (m : Int) 5 hm (show (5 : Int32).toInt = 5 from rfl) 26 dX5_addMixer_13 (by decide) (fun c_13 => ?_) (fun c_13 => ?_)
  · skip
    refine E_aload_n 0 dX5_addMixer_26 rfl rfl ?_
    refine gf_X5_22 tw_0 rfl dX5_addMixer_27 ?_
    refine E_aload_n 0 dX5_addMixer_30 rfl rfl ?_
    refine gf_X5_10 tw_0 rfl dX5_addMixer_31 ?_
    refine E_callV (c_X2_push l hfl mi ml p sz hp hp4 hsz hs4) cw_X5_72 (As := [.ref 1]) (st := []) wi_yX2_push we_yX2_push (ci := 2) (q := (RX2, TX2, 3)) rfl rfl (wl_atO tw_17) rfl ⟨Nat.le_of_ble_eq_true rfl, Nat.le_of_ble_eq_true rfl, Nat.le_of_ble_eq_true rfl, Nat.le_of_ble_eq_true rfl⟩ (Nat.le_of_ble_eq_true rfl) dX5_addMixer_34 (fun _ _ h => h) rfl (kV (fun mi_34 ml_34 h_34 => ?_))
    obtain ⟨rfl, h_34⟩ := h_34
    refine E_aload_n 0 dX5_addMixer_37 rfl rfl ?_
    refine gf_X5_10 tw_0 rfl dX5_addMixer_38 ?_
    refine E_iload_n 1 dX5_addMixer_41 rfl rfl ?_
    refine E_callV (c_X1_putMixer l hfl 1 isD_1 mi_34 ml a m (((congrArg Int32.toInt ((congrFun (h_34.1 1 (by decide) (Or.inl (by omega))) 8).trans hD.2.1.2.1)).trans hm).trans (by omega)) (by omega) (by omega)) cw_X5_217 (As := [.int a]) (st := []) wi_yX1_putMixer we_yX1_putMixer (ci := 1) (q := (RX1, TX1, 15)) rfl rfl (wl_atO isD_1.t) rfl ⟨Nat.le_of_ble_eq_true rfl, Nat.le_of_ble_eq_true rfl, Nat.le_of_ble_eq_true rfl, Nat.le_of_ble_eq_true rfl⟩ (Nat.le_of_ble_eq_true rfl) dX5_addMixer_42 (fun _ _ h => h) rfl (kE0 ?_)
    rw [show (mi_34 1 8) = (V 26) from ((congrFun (h_34.1 1 (by decide) (Or.inl (by omega))) 8).trans hD.2.1.2.1)]
    refine E_aload_n 0 dX5_addMixer_45 rfl rfl ?_
    refine gf_X5_10 tw_0 rfl dX5_addMixer_46 ?_
    refine gf_X5_138 ((V 26) + 1) isD_1.t rfl ((u2_n (by omega)).trans ((u2_n (by omega)).trans (u2_s _ _ _ _))) dX5_addMixer_49 ?_
    refine E_iconst 1 (by decide) dX5_addMixer_52 ?_
    refine E_isub dX5_addMixer_53 ?_
    refine E_iret rfl (Nat.le_of_ble_eq_true rfl) (Nat.le_of_ble_eq_true rfl) dX5_addMixer_54 ?_
    exact okQI ⟨rfl, h_2, by omega, (tI_sub (tI_add hm (show (1 : Int32).toInt = 1 from rfl) (by omega)) (show (1 : Int32).toInt = 1 from rfl) (by omega)).trans (by omega), mi_34, h_34, rfl⟩
  · skip
    refine E_throw (cls := "java/lang/IllegalStateException") (names := ["java/lang/RuntimeException", "java/lang/Exception"]) (by decide) fitX wcl_X5_104 wz_IllegalStateException str_215 atIS otIS rfl ⟨Nat.le_of_ble_eq_true rfl, Nat.le_of_ble_eq_true rfl, Nat.le_of_ble_eq_true rfl, Nat.le_of_ble_eq_true rfl⟩ (Nat.le_of_ble_eq_true rfl) (Nat.le_of_ble_eq_true rfl) dX5_addMixer_16 dX5_addMixer_19 dX5_addMixer_20 dX5_addMixer_22 dX5_addMixer_25 ?_
    exact okXW ⟨rfl, rfl, Or.inr ⟨rfl, h_2, by omega⟩⟩
set_option maxHeartbeats 1600000 in
set_option maxRecDepth 100000 in
theorem c_X5_mixer (l : Launch) (hfl : l.stackTraces = false) (mi : MI) (ml : MJ) (V : Nat → Int32) (hD : DR 1 mi V) (m : Nat) (hm : (V 26).toInt = (m : Int)) (h5 : m ≤ 5) (a : Int32) (A : Int) (hA : a.toInt = A) : Ct l yX5_mixer (.code yX5_mixer cX5_mixer 2 (some .int)) 2 1 6 [.ref 0, .int a] (wl mi ml) (QI (fun r mi9 ml9 => mi = mi9 ∧ ml = ml9 ∧ ∃ b : Nat, b < m ∧ A = (b : Int) ∧ r = V (27 + b))) (XW (fun En mi9 ml9 => mi = mi9 ∧ ml = ml9 ∧ En = xIO ∧ ¬ (0 ≤ A ∧ A < (m : Int)))) := by
  refine Ct_of (ini := false) pn_X5 hfl (fun h => nomatch h) (Nat.le_of_ble_eq_true rfl) ?_
  show E l RX5 cX5_mixer 2 (some .int) false [] (rmE 2 1 6) (wl mi ml) (TgM (wl mi ml) 1 6 (QI (fun r mi9 ml9 => mi = mi9 ∧ ml = ml9 ∧ ∃ b : Nat, b < m ∧ A = (b : Int) ∧ r = V (27 + b))) (XW (fun En mi9 ml9 => mi = mi9 ∧ ml = ml9 ∧ En = xIO ∧ ¬ (0 ≤ A ∧ A < (m : Int))))) 0 0 0 [(0, .ref 0), (1, .int a)] [] (wl mi ml)
  refine E_aload_n 0 dX5_mixer_0 rfl rfl ?_
  refine E_iload_n 1 dX5_mixer_1 rfl rfl ?_
  refine E_callVx (c_X5_needMixer l hfl mi ml  m ((congrArg Int32.toInt hD.2.1.2.1).trans hm) (by omega) a A hA) cw_X5_220 (As := [.int a]) (st := []) wi_yX5_needMixer we_yX5_needMixer (ci := 5) (q := (RX5, TX5, 7)) rfl rfl (wl_atO tw_0) rfl ⟨Nat.le_of_ble_eq_true rfl, Nat.le_of_ble_eq_true rfl, Nat.le_of_ble_eq_true rfl, Nat.le_of_ble_eq_true rfl⟩ (Nat.le_of_ble_eq_true rfl) dX5_mixer_2 rfl (Nat.le_of_ble_eq_true rfl) (Nat.le_of_ble_eq_true rfl) (XW.w (by rintro _ _ _ ⟨rfl, rfl, rfl, q⟩; exact ⟨rfl, rfl, rfl, q⟩)) rfl (kV (fun mi_2 ml_2 h_2 => ?_))
  obtain ⟨rfl, rfl, h_2⟩ := h_2
  obtain ⟨b, hb⟩ : ∃ q : Nat, A = (q : Int) := ⟨A.toNat, by omega⟩
  refine E_aload_n 0 dX5_mixer_5 rfl rfl ?_
  refine gf_X5_10 tw_0 rfl dX5_mixer_6 ?_
  refine E_iload_n 1 dX5_mixer_9 rfl rfl ?_
  refine E_callV (c_X1_membersOfS l hfl 1 isD_1 mi ml a b (hA.trans hb) m (((congrArg Int32.toInt hD.2.1.2.1).trans hm).trans (by omega)) (by omega) (by omega)) cw_X5_223 (As := [.int a]) (st := []) wi_yX1_membersOf we_yX1_membersOf (ci := 1) (q := (RX1, TX1, 15)) rfl rfl (wl_atO isD_1.t) rfl ⟨Nat.le_of_ble_eq_true rfl, Nat.le_of_ble_eq_true rfl, Nat.le_of_ble_eq_true rfl, Nat.le_of_ble_eq_true rfl⟩ (Nat.le_of_ble_eq_true rfl) dX5_mixer_10 (fun _ _ h => h) rfl (kE ?_)
  rw [show mi 4 b = (V (27 + b)) from (hD.2.2.2.1 b (by omega))]
  refine E_iret rfl (Nat.le_of_ble_eq_true rfl) (Nat.le_of_ble_eq_true rfl) dX5_mixer_13 ?_
  exact okQI ⟨rfl, rfl, b, by omega, hb, rfl⟩
set_option maxHeartbeats 1600000 in
set_option maxRecDepth 100000 in
theorem c_X5_setMember (l : Launch) (hfl : l.stackTraces = false) (mi : MI) (ml : MJ) (V : Nat → Int32) (hV : WFV V) (hD : DR 1 mi V) (n : Nat) (hn : (V 5).toInt = (n : Int)) (h10 : n ≤ 10) (m : Nat) (hm : (V 26).toInt = (m : Int)) (h5 : m ≤ 5) (p sz : Nat) (hp : (mi 17 1).toInt = (p : Int)) (hp4 : p < 4) (hsz : (mi 17 2).toInt = (sz : Int)) (hs4 : sz ≤ 4) (a : Int32) (A : Int) (hA : a.toInt = A) (c : Int32) (C : Int) (hC : c.toInt = C) (xb : Int32) (P : Prop) (hxb : xb = bI P) : Ct l yX5_setMember (.code yX5_setMember cX5_setMember 6 (some .int)) 3 2 12 [.ref 0, .int a, .int c, .int (bI (P))] (wl mi ml) (QI (fun r mi9 ml9 => ml = ml9 ∧ ∃ (b d : Nat) (mk : MI), b < m ∧ d < n ∧ A = (b : Int) ∧ C = (d : Int) ∧ PUS p sz mi mk ∧ u2 (u2 mk 4 b r) 1 10 0 = mi9 ∧ ((P ∧ r = V (27 + b) ||| ((1 : Int32) <<< (c &&& 31))) ∨ (¬ P ∧ r = V (27 + b) &&& (((1 : Int32) <<< (c &&& 31)) ^^^ (-1)))))) (XW (fun En mi9 ml9 => mi = mi9 ∧ ml = ml9 ∧ En = xIO ∧ ¬ ((0 ≤ A ∧ A < (m : Int)) ∧ (0 ≤ C ∧ C < (n : Int))))) := by
  subst hxb
  refine Ct_of (ini := false) pn_X5 hfl (fun h => nomatch h) (Nat.le_of_ble_eq_true rfl) ?_
  show E l RX5 cX5_setMember 6 (some .int) false [] (rmE 3 2 12) (wl mi ml) (TgM (wl mi ml) 2 12 (QI (fun r mi9 ml9 => ml = ml9 ∧ ∃ (b d : Nat) (mk : MI), b < m ∧ d < n ∧ A = (b : Int) ∧ C = (d : Int) ∧ PUS p sz mi mk ∧ u2 (u2 mk 4 b r) 1 10 0 = mi9 ∧ ((P ∧ r = V (27 + b) ||| ((1 : Int32) <<< (c &&& 31))) ∨ (¬ P ∧ r = V (27 + b) &&& (((1 : Int32) <<< (c &&& 31)) ^^^ (-1)))))) (XW (fun En mi9 ml9 => mi = mi9 ∧ ml = ml9 ∧ En = xIO ∧ ¬ ((0 ≤ A ∧ A < (m : Int)) ∧ (0 ≤ C ∧ C < (n : Int)))))) 0 0 0 [(0, .ref 0), (1, .int a), (2, .int c), (3, .int (bI (P)))] [] (wl mi ml)
  refine E_aload_n 0 dX5_setMember_0 rfl rfl ?_
  refine E_iload_n 1 dX5_setMember_1 rfl rfl ?_
  refine E_callVx (c_X5_needMixer l hfl mi ml  m ((congrArg Int32.toInt hD.2.1.2.1).trans hm) (by omega) a A hA) cw_X5_220 (As := [.int a]) (st := []) wi_yX5_needMixer we_yX5_needMixer (ci := 5) (q := (RX5, TX5, 7)) rfl rfl (wl_atO tw_0) rfl ⟨Nat.le_of_ble_eq_true rfl, Nat.le_of_ble_eq_true rfl, Nat.le_of_ble_eq_true rfl, Nat.le_of_ble_eq_true rfl⟩ (Nat.le_of_ble_eq_true rfl) dX5_setMember_2 rfl (Nat.le_of_ble_eq_true rfl) (Nat.le_of_ble_eq_true rfl) (XW.w (by rintro _ _ _ ⟨rfl, rfl, rfl, q⟩; exact ⟨rfl, rfl, rfl, fun z => q z.1⟩)) rfl (kV (fun mi_2 ml_2 h_2 => ?_))
  obtain ⟨rfl, rfl, h_2⟩ := h_2
  refine E_aload_n 0 dX5_setMember_5 rfl rfl ?_
  refine E_iload_n 2 dX5_setMember_6 rfl rfl ?_
  refine E_callVx (c_X5_needCarrier l hfl mi ml  n ((congrArg Int32.toInt hD.2.1.1).trans hn) (by omega) c C hC) cw_X5_84 (As := [.int c]) (st := []) wi_yX5_needCarrier we_yX5_needCarrier (ci := 5) (q := (RX5, TX5, 7)) rfl rfl (wl_atO tw_0) rfl ⟨Nat.le_of_ble_eq_true rfl, Nat.le_of_ble_eq_true rfl, Nat.le_of_ble_eq_true rfl, Nat.le_of_ble_eq_true rfl⟩ (Nat.le_of_ble_eq_true rfl) dX5_setMember_7 rfl (Nat.le_of_ble_eq_true rfl) (Nat.le_of_ble_eq_true rfl) (XW.w (by rintro _ _ _ ⟨rfl, rfl, rfl, q⟩; exact ⟨rfl, rfl, rfl, fun z => q z.2⟩)) rfl (kV (fun mi_7 ml_7 h_7 => ?_))
  obtain ⟨rfl, rfl, h_7⟩ := h_7
  obtain ⟨b, hb⟩ : ∃ q : Nat, A = (q : Int) := ⟨A.toNat, by omega⟩
  obtain ⟨d, hd⟩ : ∃ q : Nat, C = (q : Int) := ⟨C.toNat, by omega⟩
  refine E_aload_n 0 dX5_setMember_10 rfl rfl ?_
  refine gf_X5_22 tw_0 rfl dX5_setMember_11 ?_
  refine E_aload_n 0 dX5_setMember_14 rfl rfl ?_
  refine gf_X5_10 tw_0 rfl dX5_setMember_15 ?_
  refine E_callV (c_X2_push l hfl mi ml p sz hp hp4 hsz hs4) cw_X5_72 (As := [.ref 1]) (st := []) wi_yX2_push we_yX2_push (ci := 2) (q := (RX2, TX2, 3)) rfl rfl (wl_atO tw_17) rfl ⟨Nat.le_of_ble_eq_true rfl, Nat.le_of_ble_eq_true rfl, Nat.le_of_ble_eq_true rfl, Nat.le_of_ble_eq_true rfl⟩ (Nat.le_of_ble_eq_true rfl) dX5_setMember_18 (fun _ _ h => h) rfl (kV (fun mi_18 ml_18 h_18 => ?_))
  obtain ⟨rfl, h_18⟩ := h_18
  refine E_iconst 1 (by decide) dX5_setMember_21 ?_
  refine E_iload_n 2 dX5_setMember_22 rfl rfl ?_
  refine E_ishl dX5_setMember_23 ?_
  refine E_istore [(4, .int ((1 : Int32) <<< (c &&& 31))), (0, .ref 0), (1, .int a), (2, .int c), (3, .int (bI (P)))] dX5_setMember_24 (by decide) rfl ?_
  refine E_aload_n 1 dX5_setMember_26 rfl rfl ?_
  refine gf_X5_10 tw_0 rfl dX5_setMember_27 ?_
  refine E_iload_n 2 dX5_setMember_30 rfl rfl ?_
  refine E_callV (c_X1_membersOfS l hfl 1 isD_1 mi_18 ml a b (hA.trans hb) m (((congrArg Int32.toInt ((congrFun (h_18.1 1 (by decide) (Or.inl (by omega))) 8).trans hD.2.1.2.1)).trans hm).trans (by omega)) (by omega) (by omega)) cw_X5_223 (As := [.int a]) (st := []) wi_yX1_membersOf we_yX1_membersOf (ci := 1) (q := (RX1, TX1, 15)) rfl rfl (wl_atO isD_1.t) rfl ⟨Nat.le_of_ble_eq_true rfl, Nat.le_of_ble_eq_true rfl, Nat.le_of_ble_eq_true rfl, Nat.le_of_ble_eq_true rfl⟩ (Nat.le_of_ble_eq_true rfl) dX5_setMember_31 (fun _ _ h => h) rfl (kE ?_)
  rw [show mi_18 4 b = (V (27 + b)) from ((congrFun (h_18.1 4 (by decide) (Or.inl (by omega))) b).trans (hD.2.2.2.1 b (by omega)))]
  refine E_istore [(5, .int (V (27 + b))), (4, .int ((1 : Int32) <<< (c &&& 31))), (0, .ref 0), (1, .int a), (2, .int c), (3, .int (bI (P)))] dX5_setMember_34 (by decide) rfl ?_
  refine E_aload_n 2 dX5_setMember_36 rfl rfl ?_
  refine gf_X5_10 tw_0 rfl dX5_setMember_37 ?_
  refine E_iload_n 3 dX5_setMember_40 rfl rfl ?_
  refine E_iload_n 5 dX5_setMember_41 rfl rfl ?_
  refine B_eq 53 dX5_setMember_42 (by decide) (fun c_42 => ?_) (fun c_42 => ?_)
  · skip
    refine E_iload 0 dX5_setMember_53 rfl ?_
    refine E_iload 1 dX5_setMember_55 rfl ?_
    refine E_iconst (-1) (by decide) dX5_setMember_57 ?_
    refine E_ixor dX5_setMember_58 ?_
    refine E_iand dX5_setMember_59 ?_
    refine E_callV (c_X1_setMembers l hfl 1 isD_1 mi_18 ml a ((V (27 + b)) &&& (((1 : Int32) <<< (c &&& 31)) ^^^ ((-1) : Int32))) b (hA.trans hb) m (((congrArg Int32.toInt ((congrFun (h_18.1 1 (by decide) (Or.inl (by omega))) 8).trans hD.2.1.2.1)).trans hm).trans (by omega)) (by omega) (by omega)) cw_X5_226 (As := [.int a, .int ((V (27 + b)) &&& (((1 : Int32) <<< (c &&& 31)) ^^^ ((-1) : Int32)))]) (st := []) wi_yX1_setMembers we_yX1_setMembers (ci := 1) (q := (RX1, TX1, 15)) rfl rfl (wl_atO isD_1.t) rfl ⟨Nat.le_of_ble_eq_true rfl, Nat.le_of_ble_eq_true rfl, Nat.le_of_ble_eq_true rfl, Nat.le_of_ble_eq_true rfl⟩ (Nat.le_of_ble_eq_true rfl) dX5_setMember_60 (fun _ _ h => h) rfl (kE0 ?_)
    refine E_aload_n 2 dX5_setMember_63 rfl rfl ?_
    refine gf_X5_10 tw_0 rfl dX5_setMember_64 ?_
    refine E_iload_n 3 dX5_setMember_67 rfl rfl ?_
    refine E_callV (c_X1_membersOfS l hfl 1 isD_1 (u2 (u2 mi_18 4 b ((V (27 + b)) &&& (((1 : Int32) <<< (c &&& 31)) ^^^ ((-1) : Int32)))) 1 10 0) ml a b (hA.trans hb) m (((congrArg Int32.toInt ((u2_n (by omega)).trans ((u2_n (by omega)).trans ((congrFun (h_18.1 1 (by decide) (Or.inl (by omega))) 8).trans hD.2.1.2.1)))).trans hm).trans (by omega)) (by omega) (by omega)) cw_X5_223 (As := [.int a]) (st := []) wi_yX1_membersOf we_yX1_membersOf (ci := 1) (q := (RX1, TX1, 15)) rfl rfl (wl_atO isD_1.t) rfl ⟨Nat.le_of_ble_eq_true rfl, Nat.le_of_ble_eq_true rfl, Nat.le_of_ble_eq_true rfl, Nat.le_of_ble_eq_true rfl⟩ (Nat.le_of_ble_eq_true rfl) dX5_setMember_68 (fun _ _ h => h) rfl (kE ?_)
    rw [show (u2 (u2 mi_18 4 b ((V (27 + b)) &&& (((1 : Int32) <<< (c &&& 31)) ^^^ ((-1) : Int32)))) 1 10 0) 4 b = ((V (27 + b)) &&& (((1 : Int32) <<< (c &&& 31)) ^^^ ((-1) : Int32))) from ((u2_n (by omega)).trans (u2_s _ _ _ _))]
    refine E_iret rfl (Nat.le_of_ble_eq_true rfl) (Nat.le_of_ble_eq_true rfl) dX5_setMember_71 ?_
    exact okQI ⟨rfl, b, d, mi_18, by omega, by omega, hb, hd, h_18, rfl, Or.inr ⟨c_42, rfl⟩⟩
  · skip
    refine E_iload 0 dX5_setMember_45 rfl ?_
    refine E_iload 1 dX5_setMember_47 rfl ?_
    refine E_ior dX5_setMember_49 ?_
    refine E_goto 60 dX5_setMember_50 (by decide) ?_
    refine E_callV (c_X1_setMembers l hfl 1 isD_1 mi_18 ml a ((V (27 + b)) ||| ((1 : Int32) <<< (c &&& 31))) b (hA.trans hb) m (((congrArg Int32.toInt ((congrFun (h_18.1 1 (by decide) (Or.inl (by omega))) 8).trans hD.2.1.2.1)).trans hm).trans (by omega)) (by omega) (by omega)) cw_X5_226 (As := [.int a, .int ((V (27 + b)) ||| ((1 : Int32) <<< (c &&& 31)))]) (st := []) wi_yX1_setMembers we_yX1_setMembers (ci := 1) (q := (RX1, TX1, 15)) rfl rfl (wl_atO isD_1.t) rfl ⟨Nat.le_of_ble_eq_true rfl, Nat.le_of_ble_eq_true rfl, Nat.le_of_ble_eq_true rfl, Nat.le_of_ble_eq_true rfl⟩ (Nat.le_of_ble_eq_true rfl) dX5_setMember_60 (fun _ _ h => h) rfl (kE0 ?_)
    refine E_aload_n 2 dX5_setMember_63 rfl rfl ?_
    refine gf_X5_10 tw_0 rfl dX5_setMember_64 ?_
    refine E_iload_n 3 dX5_setMember_67 rfl rfl ?_
    refine E_callV (c_X1_membersOfS l hfl 1 isD_1 (u2 (u2 mi_18 4 b ((V (27 + b)) ||| ((1 : Int32) <<< (c &&& 31)))) 1 10 0) ml a b (hA.trans hb) m (((congrArg Int32.toInt ((u2_n (by omega)).trans ((u2_n (by omega)).trans ((congrFun (h_18.1 1 (by decide) (Or.inl (by omega))) 8).trans hD.2.1.2.1)))).trans hm).trans (by omega)) (by omega) (by omega)) cw_X5_223 (As := [.int a]) (st := []) wi_yX1_membersOf we_yX1_membersOf (ci := 1) (q := (RX1, TX1, 15)) rfl rfl (wl_atO isD_1.t) rfl ⟨Nat.le_of_ble_eq_true rfl, Nat.le_of_ble_eq_true rfl, Nat.le_of_ble_eq_true rfl, Nat.le_of_ble_eq_true rfl⟩ (Nat.le_of_ble_eq_true rfl) dX5_setMember_68 (fun _ _ h => h) rfl (kE ?_)
    rw [show (u2 (u2 mi_18 4 b ((V (27 + b)) ||| ((1 : Int32) <<< (c &&& 31)))) 1 10 0) 4 b = ((V (27 + b)) ||| ((1 : Int32) <<< (c &&& 31))) from ((u2_n (by omega)).trans (u2_s _ _ _ _))]
    refine E_iret rfl (Nat.le_of_ble_eq_true rfl) (Nat.le_of_ble_eq_true rfl) dX5_setMember_71 ?_
    exact okQI ⟨rfl, b, d, mi_18, by omega, by omega, hb, hd, h_18, rfl, Or.inl ⟨c_42, rfl⟩⟩
theorem te_r {V : Nat → Int32} {mi : MI} {j q : Nat} {B : Int} (hD : DR 1 mi V) (hj : (j : Int) < (V 32).toInt) (hq3 : q < 3) (hq : B = (q : Int)) : (if B = 0 then mi (1 + 4) j else if B = 1 then mi (1 + 5) j else mi (1 + 6) j) = V ((33 : Nat) + 3 * j + q) := by
  have h := hD.2.2.2.2 j hj
  rcases (show q = 0 ∨ q = 1 ∨ q = 2 by omega) with e | e | e
  · subst e; rw [if_pos (by omega)]; exact h.1
  · subst e; rw [if_neg (by omega), if_pos (by omega), h.2.1]; congr 1; omega
  · subst e; rw [if_neg (by omega), if_neg (by omega), h.2.2.1]; congr 1; omega
set_option maxHeartbeats 1600000 in
set_option maxRecDepth 100000 in
theorem c_X5_test (l : Launch) (hfl : l.stackTraces = false) (mi : MI) (ml : MJ) (V : Nat → Int32) (hD : DR 1 mi V) (t : Nat) (ht : (V 32).toInt = (t : Int)) (h16 : t ≤ 16) (a : Int32) (A : Int) (hA : a.toInt = A) (b : Int32) (B : Int) (hB : b.toInt = B) : Ct l yX5_test (.code yX5_test cX5_test 3 (some .int)) 2 1 6 [.ref 0, .int a, .int b] (wl mi ml) (QI (fun r mi9 ml9 => mi = mi9 ∧ ml = ml9 ∧ ∃ (j q : Nat), j < t ∧ q < 3 ∧ A = (j : Int) ∧ B = (q : Int) ∧ r = V ((33 : Nat) + 3 * j + q))) (XW (fun En mi9 ml9 => mi = mi9 ∧ ml = ml9 ∧ ((En = xIO ∧ ¬ (0 ≤ A ∧ A < (t : Int))) ∨ (En = xIA ∧ (0 ≤ A ∧ A < (t : Int)) ∧ ¬ (0 ≤ B ∧ B ≤ 2))))) := by
  refine Ct_of (ini := false) pn_X5 hfl (fun h => nomatch h) (Nat.le_of_ble_eq_true rfl) ?_
  show E l RX5 cX5_test 3 (some .int) false [] (rmE 2 1 6) (wl mi ml) (TgM (wl mi ml) 1 6 (QI (fun r mi9 ml9 => mi = mi9 ∧ ml = ml9 ∧ ∃ (j q : Nat), j < t ∧ q < 3 ∧ A = (j : Int) ∧ B = (q : Int) ∧ r = V ((33 : Nat) + 3 * j + q))) (XW (fun En mi9 ml9 => mi = mi9 ∧ ml = ml9 ∧ ((En = xIO ∧ ¬ (0 ≤ A ∧ A < (t : Int))) ∨ (En = xIA ∧ (0 ≤ A ∧ A < (t : Int)) ∧ ¬ (0 ≤ B ∧ B ≤ 2)))))) 0 0 0 [(0, .ref 0), (1, .int a), (2, .int b)] [] (wl mi ml)
  refine E_iload_n 1 dX5_test_0 rfl rfl ?_
  refine Y_lt A hA 15 dX5_test_1 (by decide) (fun c_1 => ?_) (fun c_1 => ?_)
  · skip
    refine E_throw (cls := "java/lang/IndexOutOfBoundsException") (names := ["java/lang/RuntimeException", "java/lang/Exception"]) (by decide) fitX wcl_X5_157 wz_IndexOutOfBoundsException str_247 atIO otIO rfl ⟨Nat.le_of_ble_eq_true rfl, Nat.le_of_ble_eq_true rfl, Nat.le_of_ble_eq_true rfl, Nat.le_of_ble_eq_true rfl⟩ (Nat.le_of_ble_eq_true rfl) (Nat.le_of_ble_eq_true rfl) dX5_test_15 dX5_test_18 dX5_test_19 dX5_test_21 dX5_test_24 ?_
    exact okXW ⟨rfl, rfl, Or.inl ⟨rfl, by omega⟩⟩
  · skip
    refine E_iload_n 1 dX5_test_4 rfl rfl ?_
    refine E_aload_n 0 dX5_test_5 rfl rfl ?_
    refine gf_X5_10 tw_0 rfl dX5_test_6 ?_
    refine gf_X5_127 (V 32) isD_1.t rfl hD.2.1.2.2 dX5_test_9 ?_
    refine Z_lt A (t : Int) hA ht 25 dX5_test_12 (by decide) (fun c_12 => ?_) (fun c_12 => ?_)
    · skip
      refine E_iload_n 2 dX5_test_25 rfl rfl ?_
      refine E_iconst 0 (by decide) dX5_test_26 ?_
      refine E_iconst 2 (by decide) dX5_test_27 ?_
      refine E_callS (c_X5_isWithin l hfl mi ml b B hB 0 0 (show (0 : Int32).toInt = 0 from rfl) 2 2 (show (2 : Int32).toInt = 2 from rfl)) cw_X5_112 (As := [.int b, .int 0, .int 2]) (st := []) ws_yX5_isWithin rfl ⟨Nat.le_of_ble_eq_true rfl, Nat.le_of_ble_eq_true rfl, Nat.le_of_ble_eq_true rfl, Nat.le_of_ble_eq_true rfl⟩ (Nat.le_of_ble_eq_true rfl) dX5_test_28 (fun _ _ h => h) rfl (kE ?_)
      refine B_ne 44 dX5_test_31 (by decide) (fun c_31 => ?_) (fun c_31 => ?_)
      · skip
        obtain ⟨j, hj⟩ : ∃ q : Nat, A = (q : Int) := ⟨A.toNat, by omega⟩
        obtain ⟨q, hq⟩ : ∃ q : Nat, B = (q : Int) := ⟨B.toNat, by omega⟩
        refine E_aload_n 0 dX5_test_44 rfl rfl ?_
        refine gf_X5_10 tw_0 rfl dX5_test_45 ?_
        refine E_iload_n 1 dX5_test_48 rfl rfl ?_
        refine E_iload_n 2 dX5_test_49 rfl rfl ?_
        refine E_callV (c_X1_testFact l hfl 1 isD_1 mi ml a b j (hA.trans hj) B hB t ((congrArg Int32.toInt hD.2.1.2.2).trans ht) (by omega) (by omega)) cw_X5_249 (As := [.int a, .int b]) (st := []) wi_yX1_testFact we_yX1_testFact (ci := 1) (q := (RX1, TX1, 15)) rfl rfl (wl_atO isD_1.t) rfl ⟨Nat.le_of_ble_eq_true rfl, Nat.le_of_ble_eq_true rfl, Nat.le_of_ble_eq_true rfl, Nat.le_of_ble_eq_true rfl⟩ (Nat.le_of_ble_eq_true rfl) dX5_test_50 (fun _ _ h => h) rfl (kE ?_)
        refine E_iret rfl (Nat.le_of_ble_eq_true rfl) (Nat.le_of_ble_eq_true rfl) dX5_test_53 ?_
        exact okQI ⟨rfl, rfl, j, q, by omega, by omega, hj, hq, te_r hD (by omega) (by omega) hq⟩
      · skip
        refine E_throw (cls := "java/lang/IllegalArgumentException") (names := ["java/lang/RuntimeException", "java/lang/Exception"]) (by decide) fitX wcl_X5_62 wz_IllegalArgumentException str_141 atIA otIA rfl ⟨Nat.le_of_ble_eq_true rfl, Nat.le_of_ble_eq_true rfl, Nat.le_of_ble_eq_true rfl, Nat.le_of_ble_eq_true rfl⟩ (Nat.le_of_ble_eq_true rfl) (Nat.le_of_ble_eq_true rfl) dX5_test_34 dX5_test_37 dX5_test_38 dX5_test_40 dX5_test_43 ?_
        exact okXW ⟨rfl, rfl, Or.inr ⟨rfl, by omega, c_31⟩⟩
    · skip
      refine E_throw (cls := "java/lang/IndexOutOfBoundsException") (names := ["java/lang/RuntimeException", "java/lang/Exception"]) (by decide) fitX wcl_X5_157 wz_IndexOutOfBoundsException str_247 atIO otIO rfl ⟨Nat.le_of_ble_eq_true rfl, Nat.le_of_ble_eq_true rfl, Nat.le_of_ble_eq_true rfl, Nat.le_of_ble_eq_true rfl⟩ (Nat.le_of_ble_eq_true rfl) (Nat.le_of_ble_eq_true rfl) dX5_test_15 dX5_test_18 dX5_test_19 dX5_test_21 dX5_test_24 ?_
      exact okXW ⟨rfl, rfl, Or.inl ⟨rfl, by omega⟩⟩
end FA5
