section FA3
/-- is the channel taken by another than e -/
def tkV (V : Nat → Int32) (n : Nat) (e : Int) (c : Int32) : Prop := ∃ j : Nat, j < n ∧ (j : Int) ≠ e ∧ V (6 + 2 * j) = c
theorem tk_n {V : Nat → Int32} {mi : MI} {n : Nat} {c r : Int32} {e : Int} (hD : DR 1 mi V) (hn : (V 5).toInt = (n : Int)) (h : (∃ j : Nat, j < n ∧ r.toInt = (j : Int) ∧ mi (1 + 1) j = c) ∨ (r = -1 ∧ ∀ j, j < n → mi (1 + 1) j ≠ c)) (hr : r.toInt = -1) : ¬ tkV V n e c := by
  rintro ⟨j, h1, h2, h3⟩
  rcases h with ⟨k, h4, h5, h6⟩ | ⟨h4, h5⟩
  · omega
  · exact h5 j h1 ((hD.2.2.1 j (by omega)).1.trans h3)
theorem tk_y {V : Nat → Int32} {mi : MI} {n : Nat} {c r : Int32} {e : Int} (hD : DR 1 mi V) (hn : (V 5).toInt = (n : Int)) (h : (∃ j : Nat, j < n ∧ r.toInt = (j : Int) ∧ mi (1 + 1) j = c) ∨ (r = -1 ∧ ∀ j, j < n → mi (1 + 1) j ≠ c)) (hr : r.toInt ≠ -1) (he : r.toInt ≠ e) : tkV V n e c := by
  rcases h with ⟨k, h4, h5, h6⟩ | ⟨h4, h5⟩
  · exact ⟨k, h4, by omega, (hD.2.2.1 k (by omega)).1.symm.trans h6⟩
  · exact absurd (by rw [h4]; rfl) hr
theorem tk_e {V : Nat → Int32} {mi : MI} {n : Nat} {c r : Int32} {e : Int} (hw : WFV V) (hD : DR 1 mi V) (hn : (V 5).toInt = (n : Int)) (h : (∃ j : Nat, j < n ∧ r.toInt = (j : Int) ∧ mi (1 + 1) j = c) ∨ (r = -1 ∧ ∀ j, j < n → mi (1 + 1) j ≠ c)) (he : r.toInt = e) : ¬ tkV V n e c := by
  rintro ⟨j, h1, h2, h3⟩
  rcases h with ⟨k, h4, h5, h6⟩ | ⟨h4, h5⟩
  · have := hw.2.2.2.1 j k (by omega) (by omega) (h3.trans (((hD.2.2.1 k (by omega)).1).symm.trans h6).symm)
    omega
  · exact h5 j h1 ((hD.2.2.1 j (by omega)).1.trans h3)
set_option maxHeartbeats 1600000 in
set_option maxRecDepth 100000 in
theorem c_X5_addCarrier (l : Launch) (hfl : l.stackTraces = false) (mi : MI) (ml : MJ) (V : Nat → Int32) (hV : WFV V) (hD : DR 1 mi V) (n : Nat) (hn : (V 5).toInt = (n : Int)) (h10 : n ≤ 10) (p sz : Nat) (hp : (mi 17 1).toInt = (p : Int)) (hp4 : p < 4) (hsz : (mi 17 2).toInt = (sz : Int)) (hs4 : sz ≤ 4) (c v : Int32) (C L : Int) (hC : c.toInt = C) (hL : v.toInt = L) : Ct l yX5_addCarrier (.code yX5_addCarrier cX5_addCarrier 3 (some .int)) 3 2 12 [.ref 0, .int c, .int v] (wl mi ml) (QI (fun r mi9 ml9 => ml = ml9 ∧ ((0 ≤ C ∧ C < 64) ∧ (0 ≤ L ∧ L ≤ 60) ∧ ¬ tkV V n (-1) c) ∧ n < 10 ∧ r.toInt = (n : Int) ∧ ∃ mk, PUS p sz mi mk ∧ u2 (u2 (u2 (u2 mk 1 5 (V 5 + 1)) 2 n c) 3 n v) 1 10 0 = mi9)) (XW (fun En mi9 ml9 => mi = mi9 ∧ ml = ml9 ∧ ((En = xIA ∧ ¬ ((0 ≤ C ∧ C < 64) ∧ (0 ≤ L ∧ L ≤ 60) ∧ ¬ tkV V n (-1) c)) ∨ (En = xIS ∧ ((0 ≤ C ∧ C < 64) ∧ (0 ≤ L ∧ L ≤ 60) ∧ ¬ tkV V n (-1) c) ∧ ¬ n < 10)))) := by
  refine Ct_of (ini := false) pn_X5 hfl (fun h => nomatch h) (Nat.le_of_ble_eq_true rfl) ?_
  show E l RX5 cX5_addCarrier 3 (some .int) false [] (rmE 3 2 12) (wl mi ml) (TgM (wl mi ml) 2 12 (QI (fun r mi9 ml9 => ml = ml9 ∧ ((0 ≤ C ∧ C < 64) ∧ (0 ≤ L ∧ L ≤ 60) ∧ ¬ tkV V n (-1) c) ∧ n < 10 ∧ r.toInt = (n : Int) ∧ ∃ mk, PUS p sz mi mk ∧ u2 (u2 (u2 (u2 mk 1 5 (V 5 + 1)) 2 n c) 3 n v) 1 10 0 = mi9)) (XW (fun En mi9 ml9 => mi = mi9 ∧ ml = ml9 ∧ ((En = xIA ∧ ¬ ((0 ≤ C ∧ C < 64) ∧ (0 ≤ L ∧ L ≤ 60) ∧ ¬ tkV V n (-1) c)) ∨ (En = xIS ∧ ((0 ≤ C ∧ C < 64) ∧ (0 ≤ L ∧ L ≤ 60) ∧ ¬ tkV V n (-1) c) ∧ ¬ n < 10))))) 0 0 0 [(0, .ref 0), (1, .int c), (2, .int v)] [] (wl mi ml)
  refine E_iload_n 1 dX5_addCarrier_0 rfl rfl ?_
  refine E_callS (c_X5_isChannel l hfl mi ml c C hC) cw_X5_51 (As := [.int c]) (st := []) ws_yX5_isChannel rfl ⟨Nat.le_of_ble_eq_true rfl, Nat.le_of_ble_eq_true rfl, Nat.le_of_ble_eq_true rfl, Nat.le_of_ble_eq_true rfl⟩ (Nat.le_of_ble_eq_true rfl) dX5_addCarrier_1 (fun _ _ h => h) rfl (kE ?_)
  refine B_eq 26 dX5_addCarrier_4 (by decide) (fun c_4 => ?_) (fun c_4 => ?_)
  · skip
    refine E_throw (cls := "java/lang/IllegalArgumentException") (names := ["java/lang/RuntimeException", "java/lang/Exception"]) (by decide) fitX wcl_X5_62 wz_IllegalArgumentException str_64 atIA otIA rfl ⟨Nat.le_of_ble_eq_true rfl, Nat.le_of_ble_eq_true rfl, Nat.le_of_ble_eq_true rfl, Nat.le_of_ble_eq_true rfl⟩ (Nat.le_of_ble_eq_true rfl) (Nat.le_of_ble_eq_true rfl) dX5_addCarrier_26 dX5_addCarrier_29 dX5_addCarrier_30 dX5_addCarrier_32 dX5_addCarrier_35 ?_
    exact okXW ⟨rfl, rfl, Or.inl ⟨rfl, fun q => c_4 q.1⟩⟩
  · skip
    refine E_iload_n 2 dX5_addCarrier_7 rfl rfl ?_
    refine E_callS (c_X5_isLevel l hfl mi ml v L hL) cw_X5_55 (As := [.int v]) (st := []) ws_yX5_isLevel rfl ⟨Nat.le_of_ble_eq_true rfl, Nat.le_of_ble_eq_true rfl, Nat.le_of_ble_eq_true rfl, Nat.le_of_ble_eq_true rfl⟩ (Nat.le_of_ble_eq_true rfl) dX5_addCarrier_8 (fun _ _ h => h) rfl (kE ?_)
    refine B_eq 26 dX5_addCarrier_11 (by decide) (fun c_11 => ?_) (fun c_11 => ?_)
    · skip
      refine E_throw (cls := "java/lang/IllegalArgumentException") (names := ["java/lang/RuntimeException", "java/lang/Exception"]) (by decide) fitX wcl_X5_62 wz_IllegalArgumentException str_64 atIA otIA rfl ⟨Nat.le_of_ble_eq_true rfl, Nat.le_of_ble_eq_true rfl, Nat.le_of_ble_eq_true rfl, Nat.le_of_ble_eq_true rfl⟩ (Nat.le_of_ble_eq_true rfl) (Nat.le_of_ble_eq_true rfl) dX5_addCarrier_26 dX5_addCarrier_29 dX5_addCarrier_30 dX5_addCarrier_32 dX5_addCarrier_35 ?_
      exact okXW ⟨rfl, rfl, Or.inl ⟨rfl, fun q => c_11 q.2.1⟩⟩
    · skip
      refine E_aload_n 0 dX5_addCarrier_14 rfl rfl ?_
      refine gf_X5_10 tw_0 rfl dX5_addCarrier_15 ?_
      refine E_iload_n 1 dX5_addCarrier_18 rfl rfl ?_
      refine E_callV (c_X1_carrierOn l hfl 1 isD_1 mi ml c n (((congrArg Int32.toInt hD.2.1.1).trans hn).trans (by omega)) (by omega)) cw_X5_58 (As := [.int c]) (st := []) wi_yX1_carrierOn we_yX1_carrierOn (ci := 1) (q := (RX1, TX1, 15)) rfl rfl (wl_atO isD_1.t) rfl ⟨Nat.le_of_ble_eq_true rfl, Nat.le_of_ble_eq_true rfl, Nat.le_of_ble_eq_true rfl, Nat.le_of_ble_eq_true rfl⟩ (Nat.le_of_ble_eq_true rfl) dX5_addCarrier_19 (fun _ _ h => h) rfl (kI (fun r_19 mi_19 ml_19 h_19 => ?_))
      obtain ⟨rfl, rfl, h_19⟩ := h_19
      refine E_iconst (-1) (by decide) dX5_addCarrier_22 ?_
      refine Z_eq r_19.toInt (-1) rfl (show ((-1) : Int32).toInt = (-1) from rfl) 36 dX5_addCarrier_23 (by decide) (fun c_23 => ?_) (fun c_23 => ?_)
      · skip
        have hok : ((0 ≤ C ∧ C < 64) ∧ (0 ≤ L ∧ L ≤ 60) ∧ ¬ tkV V n (-1) c) := ⟨c_4, c_11, tk_n hD hn h_19 c_23⟩
        refine E_aload_n 0 dX5_addCarrier_36 rfl rfl ?_
        refine E_callVx (c_X5_needRoomForCarrier l hfl mi ml  n ((congrArg Int32.toInt hD.2.1.1).trans hn) (by omega)) cw_X5_69 (As := []) (st := []) wi_yX5_needRoomForCarrier we_yX5_needRoomForCarrier (ci := 5) (q := (RX5, TX5, 7)) rfl rfl (wl_atO tw_0) rfl ⟨Nat.le_of_ble_eq_true rfl, Nat.le_of_ble_eq_true rfl, Nat.le_of_ble_eq_true rfl, Nat.le_of_ble_eq_true rfl⟩ (Nat.le_of_ble_eq_true rfl) dX5_addCarrier_37 rfl (Nat.le_of_ble_eq_true rfl) (Nat.le_of_ble_eq_true rfl) (XW.w (by rintro _ _ _ ⟨rfl, rfl, rfl, q⟩; exact ⟨rfl, rfl, Or.inr ⟨rfl, hok, q⟩⟩)) rfl (kV (fun mi_37 ml_37 h_37 => ?_))
        obtain ⟨rfl, rfl, h_37⟩ := h_37
        refine E_aload_n 0 dX5_addCarrier_40 rfl rfl ?_
        refine gf_X5_22 tw_0 rfl dX5_addCarrier_41 ?_
        refine E_aload_n 0 dX5_addCarrier_44 rfl rfl ?_
        refine gf_X5_10 tw_0 rfl dX5_addCarrier_45 ?_
        refine E_callV (c_X2_push l hfl mi ml p sz hp hp4 hsz hs4) cw_X5_72 (As := [.ref 1]) (st := []) wi_yX2_push we_yX2_push (ci := 2) (q := (RX2, TX2, 3)) rfl rfl (wl_atO tw_17) rfl ⟨Nat.le_of_ble_eq_true rfl, Nat.le_of_ble_eq_true rfl, Nat.le_of_ble_eq_true rfl, Nat.le_of_ble_eq_true rfl⟩ (Nat.le_of_ble_eq_true rfl) dX5_addCarrier_48 (fun _ _ h => h) rfl (kV (fun mi_48 ml_48 h_48 => ?_))
        obtain ⟨rfl, h_48⟩ := h_48
        refine E_aload_n 0 dX5_addCarrier_51 rfl rfl ?_
        refine gf_X5_10 tw_0 rfl dX5_addCarrier_52 ?_
        refine E_iload_n 1 dX5_addCarrier_55 rfl rfl ?_
        refine E_iload_n 2 dX5_addCarrier_56 rfl rfl ?_
        refine E_callV (c_X1_putCarrier l hfl 1 isD_1 mi_48 ml c v n (((congrArg Int32.toInt ((congrFun (h_48.1 1 (by decide) (Or.inl (by omega))) 5).trans hD.2.1.1)).trans hn).trans (by omega)) (by omega) (by omega)) cw_X5_76 (As := [.int c, .int v]) (st := []) wi_yX1_putCarrier we_yX1_putCarrier (ci := 1) (q := (RX1, TX1, 15)) rfl rfl (wl_atO isD_1.t) rfl ⟨Nat.le_of_ble_eq_true rfl, Nat.le_of_ble_eq_true rfl, Nat.le_of_ble_eq_true rfl, Nat.le_of_ble_eq_true rfl⟩ (Nat.le_of_ble_eq_true rfl) dX5_addCarrier_57 (fun _ _ h => h) rfl (kE0 ?_)
        rw [show (mi_48 1 5) = (V 5) from ((congrFun (h_48.1 1 (by decide) (Or.inl (by omega))) 5).trans hD.2.1.1)]
        refine E_aload_n 0 dX5_addCarrier_60 rfl rfl ?_
        refine gf_X5_10 tw_0 rfl dX5_addCarrier_61 ?_
        refine gf_X5_80 ((V 5) + 1) isD_1.t rfl ((u2_n (by omega)).trans ((u2_n (by omega)).trans ((u2_n (by omega)).trans (u2_s _ _ _ _)))) dX5_addCarrier_64 ?_
        refine E_iconst 1 (by decide) dX5_addCarrier_67 ?_
        refine E_isub dX5_addCarrier_68 ?_
        refine E_iret rfl (Nat.le_of_ble_eq_true rfl) (Nat.le_of_ble_eq_true rfl) dX5_addCarrier_69 ?_
        exact okQI ⟨rfl, hok, h_37, (tI_sub (tI_add hn (show (1 : Int32).toInt = 1 from rfl) (by omega)) (show (1 : Int32).toInt = 1 from rfl) (by omega)).trans (by omega), mi_48, h_48, rfl⟩
      · skip
        refine E_throw (cls := "java/lang/IllegalArgumentException") (names := ["java/lang/RuntimeException", "java/lang/Exception"]) (by decide) fitX wcl_X5_62 wz_IllegalArgumentException str_64 atIA otIA rfl ⟨Nat.le_of_ble_eq_true rfl, Nat.le_of_ble_eq_true rfl, Nat.le_of_ble_eq_true rfl, Nat.le_of_ble_eq_true rfl⟩ (Nat.le_of_ble_eq_true rfl) (Nat.le_of_ble_eq_true rfl) dX5_addCarrier_26 dX5_addCarrier_29 dX5_addCarrier_30 dX5_addCarrier_32 dX5_addCarrier_35 ?_
        exact okXW ⟨rfl, rfl, Or.inl ⟨rfl, fun q => q.2.2 (tk_y hD hn h_19 c_23 (by omega))⟩⟩
set_option maxHeartbeats 1600000 in
set_option maxRecDepth 100000 in
theorem c_X5_moveCarrier (l : Launch) (hfl : l.stackTraces = false) (mi : MI) (ml : MJ) (V : Nat → Int32) (hV : WFV V) (hD : DR 1 mi V) (n : Nat) (hn : (V 5).toInt = (n : Int)) (h10 : n ≤ 10) (p sz : Nat) (hp : (mi 17 1).toInt = (p : Int)) (hp4 : p < 4) (hsz : (mi 17 2).toInt = (sz : Int)) (hs4 : sz ≤ 4) (q : Int32) (B : Int) (hB : q.toInt = B) (c v : Int32) (C L : Int) (hC : c.toInt = C) (hL : v.toInt = L) : Ct l yX5_moveCarrier (.code yX5_moveCarrier cX5_moveCarrier 6 (some .int)) 3 3 18 [.ref 0, .int q, .int c, .int v] (wl mi ml) (QI (fun r mi9 ml9 => ml = ml9 ∧ (0 ≤ B ∧ B < (n : Int)) ∧ ((0 ≤ C ∧ C < 64) ∧ (0 ≤ L ∧ L ≤ 60) ∧ ¬ tkV V n B c) ∧ ∃ (b : Nat) (mk : MI), b < n ∧ B = (b : Int) ∧ r = V (6 + 2 * b) ∧ PUS p sz mi mk ∧ u2 (u2 (u2 mk 2 b c) 3 b v) 1 10 0 = mi9)) (XW (fun En mi9 ml9 => mi = mi9 ∧ ml = ml9 ∧ ((En = xIO ∧ ¬ (0 ≤ B ∧ B < (n : Int))) ∨ (En = xIA ∧ (0 ≤ B ∧ B < (n : Int)) ∧ ¬ ((0 ≤ C ∧ C < 64) ∧ (0 ≤ L ∧ L ≤ 60) ∧ ¬ tkV V n B c))))) := by
  refine Ct_of (ini := false) pn_X5 hfl (fun h => nomatch h) (Nat.le_of_ble_eq_true rfl) ?_
  show E l RX5 cX5_moveCarrier 6 (some .int) false [] (rmE 3 3 18) (wl mi ml) (TgM (wl mi ml) 3 18 (QI (fun r mi9 ml9 => ml = ml9 ∧ (0 ≤ B ∧ B < (n : Int)) ∧ ((0 ≤ C ∧ C < 64) ∧ (0 ≤ L ∧ L ≤ 60) ∧ ¬ tkV V n B c) ∧ ∃ (b : Nat) (mk : MI), b < n ∧ B = (b : Int) ∧ r = V (6 + 2 * b) ∧ PUS p sz mi mk ∧ u2 (u2 (u2 mk 2 b c) 3 b v) 1 10 0 = mi9)) (XW (fun En mi9 ml9 => mi = mi9 ∧ ml = ml9 ∧ ((En = xIO ∧ ¬ (0 ≤ B ∧ B < (n : Int))) ∨ (En = xIA ∧ (0 ≤ B ∧ B < (n : Int)) ∧ ¬ ((0 ≤ C ∧ C < 64) ∧ (0 ≤ L ∧ L ≤ 60) ∧ ¬ tkV V n B c)))))) 0 0 0 [(0, .ref 0), (1, .int q), (2, .int c), (3, .int v)] [] (wl mi ml)
  refine E_aload_n 0 dX5_moveCarrier_0 rfl rfl ?_
  refine E_iload_n 1 dX5_moveCarrier_1 rfl rfl ?_
  refine E_callVx (c_X5_needCarrier l hfl mi ml  n ((congrArg Int32.toInt hD.2.1.1).trans hn) (by omega) q B hB) cw_X5_84 (As := [.int q]) (st := []) wi_yX5_needCarrier we_yX5_needCarrier (ci := 5) (q := (RX5, TX5, 7)) rfl rfl (wl_atO tw_0) rfl ⟨Nat.le_of_ble_eq_true rfl, Nat.le_of_ble_eq_true rfl, Nat.le_of_ble_eq_true rfl, Nat.le_of_ble_eq_true rfl⟩ (Nat.le_of_ble_eq_true rfl) dX5_moveCarrier_2 rfl (Nat.le_of_ble_eq_true rfl) (Nat.le_of_ble_eq_true rfl) (XW.w (by rintro _ _ _ ⟨rfl, rfl, rfl, q⟩; exact ⟨rfl, rfl, Or.inl ⟨rfl, q⟩⟩)) rfl (kV (fun mi_2 ml_2 h_2 => ?_))
  obtain ⟨rfl, rfl, h_2⟩ := h_2
  refine E_iload_n 2 dX5_moveCarrier_5 rfl rfl ?_
  refine E_callS (c_X5_isChannel l hfl mi ml c C hC) cw_X5_51 (As := [.int c]) (st := []) ws_yX5_isChannel rfl ⟨Nat.le_of_ble_eq_true rfl, Nat.le_of_ble_eq_true rfl, Nat.le_of_ble_eq_true rfl, Nat.le_of_ble_eq_true rfl⟩ (Nat.le_of_ble_eq_true rfl) dX5_moveCarrier_6 (fun _ _ h => h) rfl (kE ?_)
  refine B_eq 19 dX5_moveCarrier_9 (by decide) (fun c_9 => ?_) (fun c_9 => ?_)
  · skip
    refine E_throw (cls := "java/lang/IllegalArgumentException") (names := ["java/lang/RuntimeException", "java/lang/Exception"]) (by decide) fitX wcl_X5_62 wz_IllegalArgumentException str_88 atIA otIA rfl ⟨Nat.le_of_ble_eq_true rfl, Nat.le_of_ble_eq_true rfl, Nat.le_of_ble_eq_true rfl, Nat.le_of_ble_eq_true rfl⟩ (Nat.le_of_ble_eq_true rfl) (Nat.le_of_ble_eq_true rfl) dX5_moveCarrier_19 dX5_moveCarrier_22 dX5_moveCarrier_23 dX5_moveCarrier_25 dX5_moveCarrier_28 ?_
    exact okXW ⟨rfl, rfl, Or.inr ⟨rfl, h_2, fun q => c_9 q.1⟩⟩
  · skip
    refine E_iload_n 3 dX5_moveCarrier_12 rfl rfl ?_
    refine E_callS (c_X5_isLevel l hfl mi ml v L hL) cw_X5_55 (As := [.int v]) (st := []) ws_yX5_isLevel rfl ⟨Nat.le_of_ble_eq_true rfl, Nat.le_of_ble_eq_true rfl, Nat.le_of_ble_eq_true rfl, Nat.le_of_ble_eq_true rfl⟩ (Nat.le_of_ble_eq_true rfl) dX5_moveCarrier_13 (fun _ _ h => h) rfl (kE ?_)
    refine B_ne 29 dX5_moveCarrier_16 (by decide) (fun c_16 => ?_) (fun c_16 => ?_)
    · skip
      refine E_aload_n 0 dX5_moveCarrier_29 rfl rfl ?_
      refine gf_X5_10 tw_0 rfl dX5_moveCarrier_30 ?_
      refine E_iload_n 2 dX5_moveCarrier_33 rfl rfl ?_
      refine E_callV (c_X1_carrierOn l hfl 1 isD_1 mi ml c n (((congrArg Int32.toInt hD.2.1.1).trans hn).trans (by omega)) (by omega)) cw_X5_58 (As := [.int c]) (st := []) wi_yX1_carrierOn we_yX1_carrierOn (ci := 1) (q := (RX1, TX1, 15)) rfl rfl (wl_atO isD_1.t) rfl ⟨Nat.le_of_ble_eq_true rfl, Nat.le_of_ble_eq_true rfl, Nat.le_of_ble_eq_true rfl, Nat.le_of_ble_eq_true rfl⟩ (Nat.le_of_ble_eq_true rfl) dX5_moveCarrier_34 (fun _ _ h => h) rfl (kI (fun r_34 mi_34 ml_34 h_34 => ?_))
      obtain ⟨rfl, rfl, h_34⟩ := h_34
      refine E_istore [(4, .int r_34), (0, .ref 0), (1, .int q), (2, .int c), (3, .int v)] dX5_moveCarrier_37 (by decide) rfl ?_
      refine E_iload 0 dX5_moveCarrier_39 rfl ?_
      refine E_iconst (-1) (by decide) dX5_moveCarrier_41 ?_
      refine Z_eq r_34.toInt (-1) rfl (show ((-1) : Int32).toInt = (-1) from rfl) 61 dX5_moveCarrier_42 (by decide) (fun c_42 => ?_) (fun c_42 => ?_)
      · skip
        have hok : ((0 ≤ C ∧ C < 64) ∧ (0 ≤ L ∧ L ≤ 60) ∧ ¬ tkV V n B c) := ⟨c_9, c_16, tk_n hD hn h_34 c_42⟩
        obtain ⟨b, hb⟩ : ∃ b : Nat, B = (b : Int) := ⟨B.toNat, by omega⟩
        refine E_aload_n 1 dX5_moveCarrier_61 rfl rfl ?_
        refine gf_X5_22 tw_0 rfl dX5_moveCarrier_62 ?_
        refine E_aload_n 1 dX5_moveCarrier_65 rfl rfl ?_
        refine gf_X5_10 tw_0 rfl dX5_moveCarrier_66 ?_
        refine E_callV (c_X2_push l hfl mi ml p sz hp hp4 hsz hs4) cw_X5_72 (As := [.ref 1]) (st := []) wi_yX2_push we_yX2_push (ci := 2) (q := (RX2, TX2, 3)) rfl rfl (wl_atO tw_17) rfl ⟨Nat.le_of_ble_eq_true rfl, Nat.le_of_ble_eq_true rfl, Nat.le_of_ble_eq_true rfl, Nat.le_of_ble_eq_true rfl⟩ (Nat.le_of_ble_eq_true rfl) dX5_moveCarrier_69 (fun _ _ h => h) rfl (kV (fun mi_69 ml_69 h_69 => ?_))
        obtain ⟨rfl, h_69⟩ := h_69
        refine E_aload_n 1 dX5_moveCarrier_72 rfl rfl ?_
        refine gf_X5_10 tw_0 rfl dX5_moveCarrier_73 ?_
        refine E_iload_n 2 dX5_moveCarrier_76 rfl rfl ?_
        refine E_callV (c_X1_channelOf l hfl 1 isD_1 mi_69 ml q b n (hB.trans (by omega)) ((congrArg Int32.toInt ((congrFun (h_69.1 1 (by decide) (Or.inl (by omega))) 5).trans hD.2.1.1)).trans hn) (by omega) (by omega)) cw_X5_92 (As := [.int q]) (st := []) wi_yX1_channelOf we_yX1_channelOf (ci := 1) (q := (RX1, TX1, 15)) rfl rfl (wl_atO isD_1.t) rfl ⟨Nat.le_of_ble_eq_true rfl, Nat.le_of_ble_eq_true rfl, Nat.le_of_ble_eq_true rfl, Nat.le_of_ble_eq_true rfl⟩ (Nat.le_of_ble_eq_true rfl) dX5_moveCarrier_77 (fun _ _ h => h) rfl (kE ?_)
        rw [show mi_69 2 b = (V (6 + 2 * b)) from ((congrFun (h_69.1 2 (by decide) (Or.inl (by omega))) b).trans (hD.2.2.1 b (by omega)).1)]
        refine E_istore [(5, .int (V (6 + 2 * b))), (4, .int r_34), (0, .ref 0), (1, .int q), (2, .int c), (3, .int v)] dX5_moveCarrier_80 (by decide) rfl ?_
        refine E_aload_n 2 dX5_moveCarrier_82 rfl rfl ?_
        refine gf_X5_10 tw_0 rfl dX5_moveCarrier_83 ?_
        refine E_iload_n 3 dX5_moveCarrier_86 rfl rfl ?_
        refine E_iload_n 4 dX5_moveCarrier_87 rfl rfl ?_
        refine E_iload_n 5 dX5_moveCarrier_88 rfl rfl ?_
        refine E_callV (c_X1_setCarrier l hfl 1 isD_1 mi_69 ml q c v b (hB.trans hb) n (((congrArg Int32.toInt ((congrFun (h_69.1 1 (by decide) (Or.inl (by omega))) 5).trans hD.2.1.1)).trans hn).trans (by omega)) (by omega) (by omega)) cw_X5_95 (As := [.int q, .int c, .int v]) (st := []) wi_yX1_setCarrier we_yX1_setCarrier (ci := 1) (q := (RX1, TX1, 15)) rfl rfl (wl_atO isD_1.t) rfl ⟨Nat.le_of_ble_eq_true rfl, Nat.le_of_ble_eq_true rfl, Nat.le_of_ble_eq_true rfl, Nat.le_of_ble_eq_true rfl⟩ (Nat.le_of_ble_eq_true rfl) dX5_moveCarrier_89 (fun _ _ h => h) rfl (kE0 ?_)
        refine E_iload 0 dX5_moveCarrier_92 rfl ?_
        refine E_iret rfl (Nat.le_of_ble_eq_true rfl) (Nat.le_of_ble_eq_true rfl) dX5_moveCarrier_94 ?_
        exact okQI ⟨rfl, h_2, hok, b, mi_69, by omega, hb, rfl, h_69, rfl⟩
      · skip
        refine E_iload 0 dX5_moveCarrier_45 rfl ?_
        refine E_iload_n 2 dX5_moveCarrier_47 rfl rfl ?_
        refine Z_eq r_34.toInt B rfl hB 61 dX5_moveCarrier_48 (by decide) (fun c_48 => ?_) (fun c_48 => ?_)
        · skip
          have hok : ((0 ≤ C ∧ C < 64) ∧ (0 ≤ L ∧ L ≤ 60) ∧ ¬ tkV V n B c) := ⟨c_9, c_16, tk_e hV hD hn h_34 c_48⟩
          obtain ⟨b, hb⟩ : ∃ b : Nat, B = (b : Int) := ⟨B.toNat, by omega⟩
          refine E_aload_n 1 dX5_moveCarrier_61 rfl rfl ?_
          refine gf_X5_22 tw_0 rfl dX5_moveCarrier_62 ?_
          refine E_aload_n 1 dX5_moveCarrier_65 rfl rfl ?_
          refine gf_X5_10 tw_0 rfl dX5_moveCarrier_66 ?_
          refine E_callV (c_X2_push l hfl mi ml p sz hp hp4 hsz hs4) cw_X5_72 (As := [.ref 1]) (st := []) wi_yX2_push we_yX2_push (ci := 2) (q := (RX2, TX2, 3)) rfl rfl (wl_atO tw_17) rfl ⟨Nat.le_of_ble_eq_true rfl, Nat.le_of_ble_eq_true rfl, Nat.le_of_ble_eq_true rfl, Nat.le_of_ble_eq_true rfl⟩ (Nat.le_of_ble_eq_true rfl) dX5_moveCarrier_69 (fun _ _ h => h) rfl (kV (fun mi_69 ml_69 h_69 => ?_))
          obtain ⟨rfl, h_69⟩ := h_69
          refine E_aload_n 1 dX5_moveCarrier_72 rfl rfl ?_
          refine gf_X5_10 tw_0 rfl dX5_moveCarrier_73 ?_
          refine E_iload_n 2 dX5_moveCarrier_76 rfl rfl ?_
          refine E_callV (c_X1_channelOf l hfl 1 isD_1 mi_69 ml q b n (hB.trans (by omega)) ((congrArg Int32.toInt ((congrFun (h_69.1 1 (by decide) (Or.inl (by omega))) 5).trans hD.2.1.1)).trans hn) (by omega) (by omega)) cw_X5_92 (As := [.int q]) (st := []) wi_yX1_channelOf we_yX1_channelOf (ci := 1) (q := (RX1, TX1, 15)) rfl rfl (wl_atO isD_1.t) rfl ⟨Nat.le_of_ble_eq_true rfl, Nat.le_of_ble_eq_true rfl, Nat.le_of_ble_eq_true rfl, Nat.le_of_ble_eq_true rfl⟩ (Nat.le_of_ble_eq_true rfl) dX5_moveCarrier_77 (fun _ _ h => h) rfl (kE ?_)
          rw [show mi_69 2 b = (V (6 + 2 * b)) from ((congrFun (h_69.1 2 (by decide) (Or.inl (by omega))) b).trans (hD.2.2.1 b (by omega)).1)]
          refine E_istore [(5, .int (V (6 + 2 * b))), (4, .int r_34), (0, .ref 0), (1, .int q), (2, .int c), (3, .int v)] dX5_moveCarrier_80 (by decide) rfl ?_
          refine E_aload_n 2 dX5_moveCarrier_82 rfl rfl ?_
          refine gf_X5_10 tw_0 rfl dX5_moveCarrier_83 ?_
          refine E_iload_n 3 dX5_moveCarrier_86 rfl rfl ?_
          refine E_iload_n 4 dX5_moveCarrier_87 rfl rfl ?_
          refine E_iload_n 5 dX5_moveCarrier_88 rfl rfl ?_
          refine E_callV (c_X1_setCarrier l hfl 1 isD_1 mi_69 ml q c v b (hB.trans hb) n (((congrArg Int32.toInt ((congrFun (h_69.1 1 (by decide) (Or.inl (by omega))) 5).trans hD.2.1.1)).trans hn).trans (by omega)) (by omega) (by omega)) cw_X5_95 (As := [.int q, .int c, .int v]) (st := []) wi_yX1_setCarrier we_yX1_setCarrier (ci := 1) (q := (RX1, TX1, 15)) rfl rfl (wl_atO isD_1.t) rfl ⟨Nat.le_of_ble_eq_true rfl, Nat.le_of_ble_eq_true rfl, Nat.le_of_ble_eq_true rfl, Nat.le_of_ble_eq_true rfl⟩ (Nat.le_of_ble_eq_true rfl) dX5_moveCarrier_89 (fun _ _ h => h) rfl (kE0 ?_)
          refine E_iload 0 dX5_moveCarrier_92 rfl ?_
          refine E_iret rfl (Nat.le_of_ble_eq_true rfl) (Nat.le_of_ble_eq_true rfl) dX5_moveCarrier_94 ?_
          exact okQI ⟨rfl, h_2, hok, b, mi_69, by omega, hb, rfl, h_69, rfl⟩
        · skip
          refine E_throw (cls := "java/lang/IllegalArgumentException") (names := ["java/lang/RuntimeException", "java/lang/Exception"]) (by decide) fitX wcl_X5_62 wz_IllegalArgumentException str_90 atIA otIA rfl ⟨Nat.le_of_ble_eq_true rfl, Nat.le_of_ble_eq_true rfl, Nat.le_of_ble_eq_true rfl, Nat.le_of_ble_eq_true rfl⟩ (Nat.le_of_ble_eq_true rfl) (Nat.le_of_ble_eq_true rfl) dX5_moveCarrier_51 dX5_moveCarrier_54 dX5_moveCarrier_55 dX5_moveCarrier_57 dX5_moveCarrier_60 ?_
          exact okXW ⟨rfl, rfl, Or.inr ⟨rfl, h_2, fun q => q.2.2 (tk_y hD hn h_34 c_42 (by omega))⟩⟩
    · skip
      refine E_throw (cls := "java/lang/IllegalArgumentException") (names := ["java/lang/RuntimeException", "java/lang/Exception"]) (by decide) fitX wcl_X5_62 wz_IllegalArgumentException str_88 atIA otIA rfl ⟨Nat.le_of_ble_eq_true rfl, Nat.le_of_ble_eq_true rfl, Nat.le_of_ble_eq_true rfl, Nat.le_of_ble_eq_true rfl⟩ (Nat.le_of_ble_eq_true rfl) (Nat.le_of_ble_eq_true rfl) dX5_moveCarrier_19 dX5_moveCarrier_22 dX5_moveCarrier_23 dX5_moveCarrier_25 dX5_moveCarrier_28 ?_
      exact okXW ⟨rfl, rfl, Or.inr ⟨rfl, h_2, fun q => c_16 q.2.1⟩⟩
set_option maxHeartbeats 1600000 in
set_option maxRecDepth 100000 in
theorem c_X5_removeCarrier (l : Launch) (hfl : l.stackTraces = false) (mi : MI) (ml : MJ) (V : Nat → Int32) (hV : WFV V) (hD : DR 1 mi V) (n : Nat) (hn : (V 5).toInt = (n : Int)) (h10 : n ≤ 10) (m : Nat) (hm : (V 26).toInt = (m : Int)) (h5 : m ≤ 5) (p sz : Nat) (hp : (mi 17 1).toInt = (p : Int)) (hp4 : p < 4) (hsz : (mi 17 2).toInt = (sz : Int)) (hs4 : sz ≤ 4) (q : Int32) (B : Int) (hB : q.toInt = B) : Ct l yX5_removeCarrier (.code yX5_removeCarrier cX5_removeCarrier 2 (some .int)) 4 1 6 [.ref 0, .int q] (wl mi ml) (QI (fun r mi9 ml9 => ml = ml9 ∧ ∃ (b : Nat) (mk : MI), b < n ∧ B = (b : Int) ∧ r.toInt = (n : Int) - 1 ∧ PUS p sz mi mk ∧ TOS 1 mk mi9 b n m (((1 : Int32) <<< (q &&& 31)) - 1))) (XW (fun En mi9 ml9 => mi = mi9 ∧ ml = ml9 ∧ En = xIO ∧ ¬ (0 ≤ B ∧ B < (n : Int)))) := by
  refine Ct_of (ini := false) pn_X5 hfl (fun h => nomatch h) (Nat.le_of_ble_eq_true rfl) ?_
  show E l RX5 cX5_removeCarrier 2 (some .int) false [] (rmE 4 1 6) (wl mi ml) (TgM (wl mi ml) 1 6 (QI (fun r mi9 ml9 => ml = ml9 ∧ ∃ (b : Nat) (mk : MI), b < n ∧ B = (b : Int) ∧ r.toInt = (n : Int) - 1 ∧ PUS p sz mi mk ∧ TOS 1 mk mi9 b n m (((1 : Int32) <<< (q &&& 31)) - 1))) (XW (fun En mi9 ml9 => mi = mi9 ∧ ml = ml9 ∧ En = xIO ∧ ¬ (0 ≤ B ∧ B < (n : Int))))) 0 0 0 [(0, .ref 0), (1, .int q)] [] (wl mi ml)
  refine E_aload_n 0 dX5_removeCarrier_0 rfl rfl ?_
  refine E_iload_n 1 dX5_removeCarrier_1 rfl rfl ?_
  refine E_callVx (c_X5_needCarrier l hfl mi ml  n ((congrArg Int32.toInt hD.2.1.1).trans hn) (by omega) q B hB) cw_X5_84 (As := [.int q]) (st := []) wi_yX5_needCarrier we_yX5_needCarrier (ci := 5) (q := (RX5, TX5, 7)) rfl rfl (wl_atO tw_0) rfl ⟨Nat.le_of_ble_eq_true rfl, Nat.le_of_ble_eq_true rfl, Nat.le_of_ble_eq_true rfl, Nat.le_of_ble_eq_true rfl⟩ (Nat.le_of_ble_eq_true rfl) dX5_removeCarrier_2 rfl (Nat.le_of_ble_eq_true rfl) (Nat.le_of_ble_eq_true rfl) (XW.w (by rintro _ _ _ ⟨rfl, rfl, rfl, q⟩; exact ⟨rfl, rfl, rfl, q⟩)) rfl (kV (fun mi_2 ml_2 h_2 => ?_))
  obtain ⟨rfl, rfl, h_2⟩ := h_2
  obtain ⟨b, hb⟩ : ∃ b : Nat, B = (b : Int) := ⟨B.toNat, by omega⟩
  refine E_aload_n 0 dX5_removeCarrier_5 rfl rfl ?_
  refine gf_X5_22 tw_0 rfl dX5_removeCarrier_6 ?_
  refine E_aload_n 0 dX5_removeCarrier_9 rfl rfl ?_
  refine gf_X5_10 tw_0 rfl dX5_removeCarrier_10 ?_
  refine E_callV (c_X2_push l hfl mi ml p sz hp hp4 hsz hs4) cw_X5_72 (As := [.ref 1]) (st := []) wi_yX2_push we_yX2_push (ci := 2) (q := (RX2, TX2, 3)) rfl rfl (wl_atO tw_17) rfl ⟨Nat.le_of_ble_eq_true rfl, Nat.le_of_ble_eq_true rfl, Nat.le_of_ble_eq_true rfl, Nat.le_of_ble_eq_true rfl⟩ (Nat.le_of_ble_eq_true rfl) dX5_removeCarrier_13 (fun _ _ h => h) rfl (kV (fun mi_13 ml_13 h_13 => ?_))
  obtain ⟨rfl, h_13⟩ := h_13
  refine E_aload_n 0 dX5_removeCarrier_16 rfl rfl ?_
  refine gf_X5_10 tw_0 rfl dX5_removeCarrier_17 ?_
  refine E_iload_n 1 dX5_removeCarrier_20 rfl rfl ?_
  refine E_callV (c_X1_takeOut l hfl 1 isD_1 mi_13 ml q b (hB.trans hb) n (((congrArg Int32.toInt ((congrFun (h_13.1 1 (by decide) (Or.inl (by omega))) 5).trans hD.2.1.1)).trans hn).trans (by omega)) (by omega) m (((congrArg Int32.toInt ((congrFun (h_13.1 1 (by decide) (Or.inl (by omega))) 8).trans hD.2.1.2.1)).trans hm).trans (by omega)) (by omega) (by omega)) cw_X5_99 (As := [.int q]) (st := []) wi_yX1_takeOut we_yX1_takeOut (ci := 1) (q := (RX1, TX1, 15)) rfl rfl (wl_atO isD_1.t) rfl ⟨Nat.le_of_ble_eq_true rfl, Nat.le_of_ble_eq_true rfl, Nat.le_of_ble_eq_true rfl, Nat.le_of_ble_eq_true rfl⟩ (Nat.le_of_ble_eq_true rfl) dX5_removeCarrier_21 (fun _ _ h => h) rfl (kV (fun mi_21 ml_21 h_21 => ?_))
  obtain ⟨hl_21, h_21⟩ := h_21
  subst hl_21
  have e5 : mi_21 1 5 = V 5 - 1 := h_21.2.2.1.trans (by rw [show mi_13 1 5 = V 5 from (congrFun (h_13.1 1 (by decide) (Or.inl (by omega))) 5).trans hD.2.1.1])
  refine E_aload_n 0 dX5_removeCarrier_24 rfl rfl ?_
  refine gf_X5_10 tw_0 rfl dX5_removeCarrier_25 ?_
  refine gf_X5_80 (V 5 - 1) isD_1.t rfl e5 dX5_removeCarrier_28 ?_
  refine E_iret rfl (Nat.le_of_ble_eq_true rfl) (Nat.le_of_ble_eq_true rfl) dX5_removeCarrier_31 ?_
  exact okQI ⟨rfl, b, mi_13, by omega, hb, (tI_sub hn (show (1 : Int32).toInt = 1 from rfl) (by omega)), h_13, h_21⟩
set_option maxHeartbeats 1600000 in
set_option maxRecDepth 100000 in
theorem c_X5_shift (l : Launch) (hfl : l.stackTraces = false) (mi : MI) (ml : MJ) (V : Nat → Int32) (hV : WFV V) (hD : DR 1 mi V) (n : Nat) (hn : (V 5).toInt = (n : Int)) (h10 : n ≤ 10) (p sz : Nat) (hp : (mi 17 1).toInt = (p : Int)) (hp4 : p < 4) (hsz : (mi 17 2).toInt = (sz : Int)) (hs4 : sz ≤ 4) (a : Int32) (B : Int) (hB : a.toInt = B) : Ct l yX5_shift (.code yX5_shift cX5_shift 3 (some .int)) 3 1 6 [.ref 0, .int a] (wl mi ml) (QI (fun r mi9 ml9 => ml = ml9 ∧ (-64 < B ∧ B < 64) ∧ (∀ j, j < n → (0 ≤ (V (6 + 2 * j)).toInt + B ∧ (V (6 + 2 * j)).toInt + B < 64)) ∧ r.toInt = (n : Int) ∧ ∃ mk m1, PUS p sz mi mk ∧ SHI 1 a mk m1 n ∧ u2 m1 1 10 0 = mi9)) (XW (fun En mi9 ml9 => mi = mi9 ∧ ml = ml9 ∧ ((En = xIA ∧ ¬ (-64 < B ∧ B < 64)) ∨ (En = xIS ∧ (-64 < B ∧ B < 64) ∧ ¬ (∀ j, j < n → (0 ≤ (V (6 + 2 * j)).toInt + B ∧ (V (6 + 2 * j)).toInt + B < 64)))))) := by
  refine Ct_of (ini := false) pn_X5 hfl (fun h => nomatch h) (Nat.le_of_ble_eq_true rfl) ?_
  show E l RX5 cX5_shift 3 (some .int) false [] (rmE 3 1 6) (wl mi ml) (TgM (wl mi ml) 1 6 (QI (fun r mi9 ml9 => ml = ml9 ∧ (-64 < B ∧ B < 64) ∧ (∀ j, j < n → (0 ≤ (V (6 + 2 * j)).toInt + B ∧ (V (6 + 2 * j)).toInt + B < 64)) ∧ r.toInt = (n : Int) ∧ ∃ mk m1, PUS p sz mi mk ∧ SHI 1 a mk m1 n ∧ u2 m1 1 10 0 = mi9)) (XW (fun En mi9 ml9 => mi = mi9 ∧ ml = ml9 ∧ ((En = xIA ∧ ¬ (-64 < B ∧ B < 64)) ∨ (En = xIS ∧ (-64 < B ∧ B < 64) ∧ ¬ (∀ j, j < n → (0 ≤ (V (6 + 2 * j)).toInt + B ∧ (V (6 + 2 * j)).toInt + B < 64))))))) 0 0 0 [(0, .ref 0), (1, .int a)] [] (wl mi ml)
  refine E_iload_n 1 dX5_shift_0 rfl rfl ?_
  refine E_bipush (-64) (by decide) dX5_shift_1 ?_
  refine Z_le B (-64) hB (show ((-64) : Int32).toInt = (-64) from rfl) 12 dX5_shift_3 (by decide) (fun c_3 => ?_) (fun c_3 => ?_)
  · skip
    refine E_throw (cls := "java/lang/IllegalArgumentException") (names := ["java/lang/RuntimeException", "java/lang/Exception"]) (by decide) fitX wcl_X5_62 wz_IllegalArgumentException str_102 atIA otIA rfl ⟨Nat.le_of_ble_eq_true rfl, Nat.le_of_ble_eq_true rfl, Nat.le_of_ble_eq_true rfl, Nat.le_of_ble_eq_true rfl⟩ (Nat.le_of_ble_eq_true rfl) (Nat.le_of_ble_eq_true rfl) dX5_shift_12 dX5_shift_15 dX5_shift_16 dX5_shift_18 dX5_shift_21 ?_
    exact okXW ⟨rfl, rfl, Or.inl ⟨rfl, by omega⟩⟩
  · skip
    refine E_iload_n 1 dX5_shift_6 rfl rfl ?_
    refine E_bipush 64 (by decide) dX5_shift_7 ?_
    refine Z_lt B 64 hB (show (64 : Int32).toInt = 64 from rfl) 22 dX5_shift_9 (by decide) (fun c_9 => ?_) (fun c_9 => ?_)
    · skip
      refine E_iconst 0 (by decide) dX5_shift_22 ?_
      refine E_istore_n [(2, .int 0), (0, .ref 0), (1, .int a)] dX5_shift_23 rfl (by decide) rfl ?_
      have J24 : ∀ (Nm : Nat) (xi : Int32) (i : Nat), n - i < Nm → xi.toInt = (i : Int) → i ≤ n → (∀ j, j < i → (0 ≤ (V (6 + 2 * j)).toInt + B ∧ (V (6 + 2 * j)).toInt + B < 64)) → E l RX5 cX5_shift 3 (some .int) false [] (rmE 3 1 6) (wl mi ml) (TgM (wl mi ml) 1 6 (QI (fun r mi9 ml9 => ml = ml9 ∧ (-64 < B ∧ B < 64) ∧ (∀ j, j < n → (0 ≤ (V (6 + 2 * j)).toInt + B ∧ (V (6 + 2 * j)).toInt + B < 64)) ∧ r.toInt = (n : Int) ∧ ∃ mk m1, PUS p sz mi mk ∧ SHI 1 a mk m1 n ∧ u2 m1 1 10 0 = mi9)) (XW (fun En mi9 ml9 => mi = mi9 ∧ ml = ml9 ∧ ((En = xIA ∧ ¬ (-64 < B ∧ B < 64)) ∨ (En = xIS ∧ (-64 < B ∧ B < 64) ∧ ¬ (∀ j, j < n → (0 ≤ (V (6 + 2 * j)).toInt + B ∧ (V (6 + 2 * j)).toInt + B < 64))))))) 0 0 24 [(0, .ref 0), (1, .int a), (2, .int xi)] [] (wl mi ml) := by
        intro Nm
        induction Nm with
        | zero => intros; omega
        | succ Nm ih24 =>
          intro xi i hN24 hi hin hI
          refine E_iload_n 2 dX5_shift_24 rfl rfl ?_
          refine E_aload_n 0 dX5_shift_25 rfl rfl ?_
          refine gf_X5_10 tw_0 rfl dX5_shift_26 ?_
          refine gf_X5_80 (V 5) isD_1.t rfl hD.2.1.1 dX5_shift_29 ?_
          refine Z_ge (i : Int) (n : Int) hi hn 67 dX5_shift_32 (by decide) (fun c_32 => ?_) (fun c_32 => ?_)
          · skip
            refine E_aload_n 0 dX5_shift_67 rfl rfl ?_
            refine gf_X5_22 tw_0 rfl dX5_shift_68 ?_
            refine E_aload_n 0 dX5_shift_71 rfl rfl ?_
            refine gf_X5_10 tw_0 rfl dX5_shift_72 ?_
            refine E_callV (c_X2_push l hfl mi ml p sz hp hp4 hsz hs4) cw_X5_72 (As := [.ref 1]) (st := []) wi_yX2_push we_yX2_push (ci := 2) (q := (RX2, TX2, 3)) rfl rfl (wl_atO tw_17) rfl ⟨Nat.le_of_ble_eq_true rfl, Nat.le_of_ble_eq_true rfl, Nat.le_of_ble_eq_true rfl, Nat.le_of_ble_eq_true rfl⟩ (Nat.le_of_ble_eq_true rfl) dX5_shift_75 (fun _ _ h => h) rfl (kV (fun mi_75 ml_75 h_75 => ?_))
            obtain ⟨rfl, h_75⟩ := h_75
            refine E_aload_n 0 dX5_shift_78 rfl rfl ?_
            refine gf_X5_10 tw_0 rfl dX5_shift_79 ?_
            refine E_iload_n 1 dX5_shift_82 rfl rfl ?_
            refine E_callV (c_X1_shiftAll l hfl 1 isD_1 mi_75 ml a n (((congrArg Int32.toInt ((congrFun (h_75.1 1 (by decide) (Or.inl (by omega))) 5).trans hD.2.1.1)).trans hn).trans (by omega)) (by omega)) cw_X5_109 (As := [.int a]) (st := []) wi_yX1_shiftAll we_yX1_shiftAll (ci := 1) (q := (RX1, TX1, 15)) rfl rfl (wl_atO isD_1.t) rfl ⟨Nat.le_of_ble_eq_true rfl, Nat.le_of_ble_eq_true rfl, Nat.le_of_ble_eq_true rfl, Nat.le_of_ble_eq_true rfl⟩ (Nat.le_of_ble_eq_true rfl) dX5_shift_83 (fun _ _ h => h) rfl (kV (fun mi_83 ml_83 h_83 => ?_))
            obtain ⟨hl_83, m1_83, h_83, e_83⟩ := h_83
            subst hl_83
            have e5 : mi_83 1 5 = V 5 := by rw [← e_83, u2_n (Or.inr (by decide)), h_83.2.1 5 (by decide)]; exact (congrFun (h_75.1 1 (by decide) (Or.inl (by omega))) 5).trans hD.2.1.1
            refine E_aload_n 0 dX5_shift_86 rfl rfl ?_
            refine gf_X5_10 tw_0 rfl dX5_shift_87 ?_
            refine gf_X5_80 (V 5) isD_1.t rfl e5 dX5_shift_90 ?_
            refine E_iret rfl (Nat.le_of_ble_eq_true rfl) (Nat.le_of_ble_eq_true rfl) dX5_shift_93 ?_
            obtain rfl : i = n := by omega
            exact okQI ⟨rfl, by omega, hI, hn, mi_75, m1_83, h_75, h_83, e_83⟩
          · skip
            have bb := hV.b hn (show i < n by omega)
            refine E_aload_n 0 dX5_shift_35 rfl rfl ?_
            refine gf_X5_10 tw_0 rfl dX5_shift_36 ?_
            refine E_iload_n 2 dX5_shift_39 rfl rfl ?_
            refine E_callV (c_X1_channelOf l hfl 1 isD_1 mi ml xi i n (hi.trans (by omega)) ((congrArg Int32.toInt hD.2.1.1).trans hn) (by omega) (by omega)) cw_X5_92 (As := [.int xi]) (st := []) wi_yX1_channelOf we_yX1_channelOf (ci := 1) (q := (RX1, TX1, 15)) rfl rfl (wl_atO isD_1.t) rfl ⟨Nat.le_of_ble_eq_true rfl, Nat.le_of_ble_eq_true rfl, Nat.le_of_ble_eq_true rfl, Nat.le_of_ble_eq_true rfl⟩ (Nat.le_of_ble_eq_true rfl) dX5_shift_40 (fun _ _ h => h) rfl (kE ?_)
            rw [show mi 2 i = (V (6 + 2 * i)) from (hD.2.2.1 i (by omega)).1]
            refine E_iload_n 1 dX5_shift_43 rfl rfl ?_
            refine E_iadd dX5_shift_44 ?_
            refine E_callS (c_X5_isChannel l hfl mi ml ((V (6 + 2 * i)) + a) ((V (6 + 2 * i)).toInt + B) (tI_add rfl hB (by omega))) cw_X5_51 (As := [.int ((V (6 + 2 * i)) + a)]) (st := []) ws_yX5_isChannel rfl ⟨Nat.le_of_ble_eq_true rfl, Nat.le_of_ble_eq_true rfl, Nat.le_of_ble_eq_true rfl, Nat.le_of_ble_eq_true rfl⟩ (Nat.le_of_ble_eq_true rfl) dX5_shift_45 (fun _ _ h => h) rfl (kE ?_)
            refine B_ne 61 dX5_shift_48 (by decide) (fun c_48 => ?_) (fun c_48 => ?_)
            · skip
              refine E_iinc 2 (xi + 1) [(2, .int (xi + 1)), (0, .ref 0), (1, .int a)] dX5_shift_61 rfl rfl (by decide) rfl ?_
              refine E_goto 24 dX5_shift_64 (by decide) ?_
              refine E_sub [1, 2, 0] rfl ?_
              exact ih24 (xi + 1) (i + 1) (by omega) ((tI_add hi (show (1 : Int32).toInt = 1 from rfl) (by omega)).trans (by omega)) (by omega) (lt_s hI c_48)
            · skip
              refine E_throw (cls := "java/lang/IllegalStateException") (names := ["java/lang/RuntimeException", "java/lang/Exception"]) (by decide) fitX wcl_X5_104 wz_IllegalStateException str_106 atIS otIS rfl ⟨Nat.le_of_ble_eq_true rfl, Nat.le_of_ble_eq_true rfl, Nat.le_of_ble_eq_true rfl, Nat.le_of_ble_eq_true rfl⟩ (Nat.le_of_ble_eq_true rfl) (Nat.le_of_ble_eq_true rfl) dX5_shift_51 dX5_shift_54 dX5_shift_55 dX5_shift_57 dX5_shift_60 ?_
              exact okXW ⟨rfl, rfl, Or.inr ⟨rfl, by omega, fun q => c_48 (q i (by omega))⟩⟩
      refine E_sub [1, 2, 0] rfl ?_
      exact J24 _ 0 0 (Nat.lt_succ_self _) (show (0 : Int32).toInt = 0 from rfl) (Nat.zero_le _) (fun j h => absurd h (Nat.not_lt_zero j))
    · skip
      refine E_throw (cls := "java/lang/IllegalArgumentException") (names := ["java/lang/RuntimeException", "java/lang/Exception"]) (by decide) fitX wcl_X5_62 wz_IllegalArgumentException str_102 atIA otIA rfl ⟨Nat.le_of_ble_eq_true rfl, Nat.le_of_ble_eq_true rfl, Nat.le_of_ble_eq_true rfl, Nat.le_of_ble_eq_true rfl⟩ (Nat.le_of_ble_eq_true rfl) (Nat.le_of_ble_eq_true rfl) dX5_shift_12 dX5_shift_15 dX5_shift_16 dX5_shift_18 dX5_shift_21 ?_
      exact okXW ⟨rfl, rfl, Or.inl ⟨rfl, by omega⟩⟩
end FA3
