section CL4
set_option maxHeartbeats 1600000 in
set_option maxRecDepth 100000 in
theorem c_X5_openings (l : Launch) (hfl : l.stackTraces = false) (mi : MI) (ml : MJ) (V : Nat → Int32) (hV : WFV V) (hD : DR 1 mi V) (n : Nat) (hn : (V 5).toInt = (n : Int)) (h10 : n ≤ 10) (hz : ml 56 0 = 0 ∧ ml 57 0 = 0) (a : Int32) (A : Int) (hA : a.toInt = A) : Ct l yX5_openings (.code yX5_openings cX5_openings 2 (some .long)) 6 1 6 [.ref 0, .int a] (wl mi ml) (QJ (fun r mi9 ml9 => Fr [53, 54, 55] mi mi9 ∧ FLc ml ml9 ∧ (ml9 56 0 = 0 ∧ ml9 57 0 = 0) ∧ (0 ≤ A ∧ A ≤ 60) ∧ r = opS V n A 64)) (XW (fun En mi9 ml9 => mi = mi9 ∧ ml = ml9 ∧ En = xIA ∧ ¬ (0 ≤ A ∧ A ≤ 60))) := by
  refine Ct_of (ini := false) pn_X5 hfl (fun h => nomatch h) (Nat.le_of_ble_eq_true rfl) ?_
  show E l RX5 cX5_openings 2 (some .long) false [] (rmE 6 1 6) (wl mi ml) (TgM (wl mi ml) 1 6 (QJ (fun r mi9 ml9 => Fr [53, 54, 55] mi mi9 ∧ FLc ml ml9 ∧ (ml9 56 0 = 0 ∧ ml9 57 0 = 0) ∧ (0 ≤ A ∧ A ≤ 60) ∧ r = opS V n A 64)) (XW (fun En mi9 ml9 => mi = mi9 ∧ ml = ml9 ∧ En = xIA ∧ ¬ (0 ≤ A ∧ A ≤ 60)))) 0 0 0 [(0, .ref 0), (1, .int a)] [] (wl mi ml)
  refine E_iload_n 1 dX5_openings_0 rfl rfl ?_
  refine E_callSx (c_X5_needLevel l hfl mi ml  a A hA) cw_X5_205 (As := [.int a]) (st := []) ws_yX5_needLevel rfl ⟨Nat.le_of_ble_eq_true rfl, Nat.le_of_ble_eq_true rfl, Nat.le_of_ble_eq_true rfl, Nat.le_of_ble_eq_true rfl⟩ (Nat.le_of_ble_eq_true rfl) dX5_openings_1 rfl (Nat.le_of_ble_eq_true rfl) (Nat.le_of_ble_eq_true rfl) (XW.w (by rintro _ _ _ ⟨rfl, rfl, rfl, q⟩; exact ⟨rfl, rfl, rfl, q⟩)) rfl (kV (fun mi_1 ml_1 h_1 => ?_))
  obtain ⟨rfl, rfl, h_1⟩ := h_1
  refine E_aload_n 0 dX5_openings_4 rfl rfl ?_
  refine E_iload_n 1 dX5_openings_5 rfl rfl ?_
  refine E_callV (c_X5_openChannels l hfl mi ml V hV hD n hn h10 hz a A hA h_1) cw_X5_208 (As := [.int a]) (st := []) wi_yX5_openChannels we_yX5_openChannels (ci := 5) (q := (RX5, TX5, 7)) rfl rfl (wl_atO tw_0) rfl ⟨Nat.le_of_ble_eq_true rfl, Nat.le_of_ble_eq_true rfl, Nat.le_of_ble_eq_true rfl, Nat.le_of_ble_eq_true rfl⟩ (Nat.le_of_ble_eq_true rfl) dX5_openings_6 (fun _ _ h => h) rfl (kJ (fun r_6 mi_6 ml_6 h_6 => ?_))
  refine E_lret rfl (Nat.le_of_ble_eq_true rfl) (Nat.le_of_ble_eq_true rfl) dX5_openings_9 ?_
  exact okQJ ⟨h_6.1, h_6.2.1, h_6.2.2.1, h_1, h_6.2.2.2⟩
set_option maxHeartbeats 1600000 in
set_option maxRecDepth 100000 in
theorem c_X5_lowestOf (l : Launch) (hfl : l.stackTraces = false) (mi : MI) (ml : MJ) (w : Int64) : Ct l yX5_lowestOf (.code yX5_lowestOf cX5_lowestOf 3 (some .int)) 1 0 0 [.long w] (wl mi ml) (QI (fun r mi9 ml9 => mi = mi9 ∧ ml = ml9 ∧ ((∃ z, z < 64 ∧ lb w z = true ∧ (∀ c, c < z → ¬ lb w c = true) ∧ r.toInt = (z : Int)) ∨ ((∀ c, c < 64 → ¬ lb w c = true) ∧ r = -1)))) noX := by
  refine Ct_of (ini := false) pn_X5 hfl (fun h => nomatch h) (Nat.le_of_ble_eq_true rfl) ?_
  show E l RX5 cX5_lowestOf 3 (some .int) false [] (rmE 1 0 0) (wl mi ml) (TgM (wl mi ml) 0 0 (QI (fun r mi9 ml9 => mi = mi9 ∧ ml = ml9 ∧ ((∃ z, z < 64 ∧ lb w z = true ∧ (∀ c, c < z → ¬ lb w c = true) ∧ r.toInt = (z : Int)) ∨ ((∀ c, c < 64 → ¬ lb w c = true) ∧ r = -1)))) noX) 0 0 0 [(0, .long w)] [] (wl mi ml)
  refine E_iconst 0 (by decide) dX5_lowestOf_0 ?_
  refine E_istore_n [(2, .int 0), (0, .long w)] dX5_lowestOf_1 rfl (by decide) rfl ?_
  have J2 : ∀ (Nm : Nat) (xc : Int32) (c : Nat), 64 - c < Nm → xc.toInt = (c : Int) → c ≤ 64 → (∀ d, d < c → ¬ lb w d = true) → E l RX5 cX5_lowestOf 3 (some .int) false [] (rmE 1 0 0) (wl mi ml) (TgM (wl mi ml) 0 0 (QI (fun r mi9 ml9 => mi = mi9 ∧ ml = ml9 ∧ ((∃ z, z < 64 ∧ lb w z = true ∧ (∀ c, c < z → ¬ lb w c = true) ∧ r.toInt = (z : Int)) ∨ ((∀ c, c < 64 → ¬ lb w c = true) ∧ r = -1)))) noX) 0 0 2 [(0, .long w), (2, .int xc)] [] (wl mi ml) := by
    intro Nm
    induction Nm with
    | zero => intros; omega
    | succ Nm ih2 =>
      intro xc c hN2 hc hc6 hno
      refine E_iload_n 1 dX5_lowestOf_2 rfl rfl ?_
      refine E_bipush 64 (by decide) dX5_lowestOf_3 ?_
      refine Z_ge (c : Int) 64 hc (show (64 : Int32).toInt = 64 from rfl) 24 dX5_lowestOf_5 (by decide) (fun c_5 => ?_) (fun c_5 => ?_)
      · skip
        refine E_iconst (-1) (by decide) dX5_lowestOf_24 ?_
        refine E_iret rfl (Nat.le_of_ble_eq_true rfl) (Nat.le_of_ble_eq_true rfl) dX5_lowestOf_25 ?_
        exact okQI ⟨rfl, rfl, Or.inr ⟨fun d hd => hno d (by omega), rfl⟩⟩
      · skip
        refine E_iload_n 1 dX5_lowestOf_8 rfl rfl ?_
        refine E_lload_n 0 dX5_lowestOf_9 rfl rfl ?_
        refine E_callS (c_X5_isIn l hfl mi ml xc w c (hc.trans (by omega)) (by omega)) cw_X5_326 (As := [.int xc, .long w]) (st := []) ws_yX5_isIn rfl ⟨Nat.le_of_ble_eq_true rfl, Nat.le_of_ble_eq_true rfl, Nat.le_of_ble_eq_true rfl, Nat.le_of_ble_eq_true rfl⟩ (Nat.le_of_ble_eq_true rfl) dX5_lowestOf_10 (fun _ _ h => h) rfl (kE ?_)
        refine B_eq 18 dX5_lowestOf_13 (by decide) (fun c_13 => ?_) (fun c_13 => ?_)
        · skip
          refine E_iinc 1 (xc + 1) [(2, .int (xc + 1)), (0, .long w)] dX5_lowestOf_18 rfl rfl (by decide) rfl ?_
          refine E_goto 2 dX5_lowestOf_21 (by decide) ?_
          refine E_sub [1, 0] rfl ?_
          exact ih2 (xc + 1) (c + 1) (by omega) ((tI_add hc (show (1 : Int32).toInt = 1 from rfl) (by omega)).trans (by omega)) (by omega) (lt_s hno c_13)
        · skip
          refine E_iload_n 1 dX5_lowestOf_16 rfl rfl ?_
          refine E_iret rfl (Nat.le_of_ble_eq_true rfl) (Nat.le_of_ble_eq_true rfl) dX5_lowestOf_17 ?_
          exact okQI ⟨rfl, rfl, Or.inl ⟨c, by omega, c_13, hno, hc⟩⟩
  refine E_sub [1, 0] rfl ?_
  exact J2 _ 0 0 (Nat.lt_succ_self _) (show (0 : Int32).toInt = 0 from rfl) (Nat.zero_le _) (fun d h => absurd h (Nat.not_lt_zero d))
theorem op_lb {V : Nat → Int32} {n c : Nat} {l : Int} {w : Int64} (hw : w = opS V n l 64) (hc : c < 64) : lb w c = true ↔ opP V n l c := by
  rw [hw, opS_b hc 64 (Nat.le_refl 64)]
  exact ⟨fun h => h.2, fun h => ⟨hc, h⟩⟩
set_option maxHeartbeats 1600000 in
set_option maxRecDepth 100000 in
theorem c_X5_putIn (l : Launch) (hfl : l.stackTraces = false) (mi : MI) (ml : MJ) (V : Nat → Int32) (hV : WFV V) (hD : DR 1 mi V) (n : Nat) (hn : (V 5).toInt = (n : Int)) (h10 : n ≤ 10) (hz : ml 56 0 = 0 ∧ ml 57 0 = 0) (p sz : Nat) (hp : (mi 17 1).toInt = (p : Int)) (hp4 : p < 4) (hsz : (mi 17 2).toInt = (sz : Int)) (hs4 : sz ≤ 4) (a : Int32) (A : Int) (hA : a.toInt = A) : Ct l yX5_putIn (.code yX5_putIn cX5_putIn 3 (some .int)) 6 3 18 [.ref 0, .int a] (wl mi ml) (QI (fun r mi9 ml9 => FLc ml ml9 ∧ (ml9 56 0 = 0 ∧ ml9 57 0 = 0) ∧ (0 ≤ A ∧ A ≤ 60) ∧ n < 10 ∧ ((r = -1 ∧ (∀ c, c < 64 → ¬ opP V n A c) ∧ Fr [53, 54, 55] mi mi9) ∨ (∃ (z : Nat) (mj mk : MI), z < 64 ∧ opP V n A z ∧ (∀ c, c < z → ¬ opP V n A c) ∧ r.toInt = (z : Int) ∧ Fr [53, 54, 55] mi mj ∧ PUS p sz mj mk ∧ u2 (u2 (u2 (u2 mk 1 5 (V 5 + 1)) 2 n r) 3 n a) 1 10 0 = mi9)))) (XW (fun En mi9 ml9 => mi = mi9 ∧ ml = ml9 ∧ ((En = xIA ∧ ¬ (0 ≤ A ∧ A ≤ 60)) ∨ (En = xIS ∧ (0 ≤ A ∧ A ≤ 60) ∧ ¬ n < 10)))) := by
  refine Ct_of (ini := false) pn_X5 hfl (fun h => nomatch h) (Nat.le_of_ble_eq_true rfl) ?_
  show E l RX5 cX5_putIn 3 (some .int) false [] (rmE 6 3 18) (wl mi ml) (TgM (wl mi ml) 3 18 (QI (fun r mi9 ml9 => FLc ml ml9 ∧ (ml9 56 0 = 0 ∧ ml9 57 0 = 0) ∧ (0 ≤ A ∧ A ≤ 60) ∧ n < 10 ∧ ((r = -1 ∧ (∀ c, c < 64 → ¬ opP V n A c) ∧ Fr [53, 54, 55] mi mi9) ∨ (∃ (z : Nat) (mj mk : MI), z < 64 ∧ opP V n A z ∧ (∀ c, c < z → ¬ opP V n A c) ∧ r.toInt = (z : Int) ∧ Fr [53, 54, 55] mi mj ∧ PUS p sz mj mk ∧ u2 (u2 (u2 (u2 mk 1 5 (V 5 + 1)) 2 n r) 3 n a) 1 10 0 = mi9)))) (XW (fun En mi9 ml9 => mi = mi9 ∧ ml = ml9 ∧ ((En = xIA ∧ ¬ (0 ≤ A ∧ A ≤ 60)) ∨ (En = xIS ∧ (0 ≤ A ∧ A ≤ 60) ∧ ¬ n < 10))))) 0 0 0 [(0, .ref 0), (1, .int a)] [] (wl mi ml)
  refine E_iload_n 1 dX5_putIn_0 rfl rfl ?_
  refine E_callSx (c_X5_needLevel l hfl mi ml  a A hA) cw_X5_205 (As := [.int a]) (st := []) ws_yX5_needLevel rfl ⟨Nat.le_of_ble_eq_true rfl, Nat.le_of_ble_eq_true rfl, Nat.le_of_ble_eq_true rfl, Nat.le_of_ble_eq_true rfl⟩ (Nat.le_of_ble_eq_true rfl) dX5_putIn_1 rfl (Nat.le_of_ble_eq_true rfl) (Nat.le_of_ble_eq_true rfl) (XW.w (by rintro _ _ _ ⟨rfl, rfl, rfl, q⟩; exact ⟨rfl, rfl, Or.inl ⟨rfl, q⟩⟩)) rfl (kV (fun mi_1 ml_1 h_1 => ?_))
  obtain ⟨rfl, rfl, h_1⟩ := h_1
  refine E_aload_n 0 dX5_putIn_4 rfl rfl ?_
  refine E_callVx (c_X5_needRoomForCarrier l hfl mi ml  n ((congrArg Int32.toInt hD.2.1.1).trans hn) (by omega)) cw_X5_69 (As := []) (st := []) wi_yX5_needRoomForCarrier we_yX5_needRoomForCarrier (ci := 5) (q := (RX5, TX5, 7)) rfl rfl (wl_atO tw_0) rfl ⟨Nat.le_of_ble_eq_true rfl, Nat.le_of_ble_eq_true rfl, Nat.le_of_ble_eq_true rfl, Nat.le_of_ble_eq_true rfl⟩ (Nat.le_of_ble_eq_true rfl) dX5_putIn_5 rfl (Nat.le_of_ble_eq_true rfl) (Nat.le_of_ble_eq_true rfl) (XW.w (by rintro _ _ _ ⟨rfl, rfl, rfl, q⟩; exact ⟨rfl, rfl, Or.inr ⟨rfl, h_1, q⟩⟩)) rfl (kV (fun mi_5 ml_5 h_5 => ?_))
  obtain ⟨rfl, rfl, h_5⟩ := h_5
  refine E_aload_n 0 dX5_putIn_8 rfl rfl ?_
  refine E_iload_n 1 dX5_putIn_9 rfl rfl ?_
  refine E_callV (c_X5_openChannels l hfl mi ml V hV hD n hn h10 hz a A hA h_1) cw_X5_208 (As := [.int a]) (st := []) wi_yX5_openChannels we_yX5_openChannels (ci := 5) (q := (RX5, TX5, 7)) rfl rfl (wl_atO tw_0) rfl ⟨Nat.le_of_ble_eq_true rfl, Nat.le_of_ble_eq_true rfl, Nat.le_of_ble_eq_true rfl, Nat.le_of_ble_eq_true rfl⟩ (Nat.le_of_ble_eq_true rfl) dX5_putIn_10 (fun _ _ h => h) rfl (kJ (fun r_10 mi_10 ml_10 h_10 => ?_))
  refine E_callS (c_X5_lowestOf l hfl mi_10 ml_10 r_10) cw_X5_211 (As := [.long r_10]) (st := []) ws_yX5_lowestOf rfl ⟨Nat.le_of_ble_eq_true rfl, Nat.le_of_ble_eq_true rfl, Nat.le_of_ble_eq_true rfl, Nat.le_of_ble_eq_true rfl⟩ (Nat.le_of_ble_eq_true rfl) dX5_putIn_13 (fun _ _ h => h) rfl (kI (fun r_13 mi_13 ml_13 h_13 => ?_))
  obtain ⟨rfl, rfl, h_13⟩ := h_13
  refine E_istore_n [(2, .int r_13), (0, .ref 0), (1, .int a)] dX5_putIn_16 rfl (by decide) rfl ?_
  refine E_iload_n 0 dX5_putIn_17 rfl rfl ?_
  refine E_iconst (-1) (by decide) dX5_putIn_18 ?_
  refine Z_eq r_13.toInt (-1) rfl (show ((-1) : Int32).toInt = (-1) from rfl) 42 dX5_putIn_19 (by decide) (fun c_19 => ?_) (fun c_19 => ?_)
  · skip
    refine E_iload_n 0 dX5_putIn_42 rfl rfl ?_
    refine E_iret rfl (Nat.le_of_ble_eq_true rfl) (Nat.le_of_ble_eq_true rfl) dX5_putIn_43 ?_
    have h9 := h_13.resolve_left (fun z => by obtain ⟨z, _, _, _, hz9⟩ := z; omega)
    exact okQI ⟨h_10.2.1, h_10.2.2.1, h_1, h_5, Or.inl ⟨h9.2, fun c hc q => h9.1 c hc ((op_lb h_10.2.2.2 hc).mpr q), h_10.1⟩⟩
  · skip
    refine E_aload_n 1 dX5_putIn_22 rfl rfl ?_
    refine gf_X5_22 tw_0 rfl dX5_putIn_23 ?_
    refine E_aload_n 1 dX5_putIn_26 rfl rfl ?_
    refine gf_X5_10 tw_0 rfl dX5_putIn_27 ?_
    refine E_callV (c_X2_push l hfl mi_10 ml_10 p sz ((congrArg Int32.toInt (congrFun (h_10.1 17 (by decide)) 1)).trans hp) hp4 ((congrArg Int32.toInt (congrFun (h_10.1 17 (by decide)) 2)).trans hsz) hs4) cw_X5_72 (As := [.ref 1]) (st := []) wi_yX2_push we_yX2_push (ci := 2) (q := (RX2, TX2, 3)) rfl rfl (wl_atO tw_17) rfl ⟨Nat.le_of_ble_eq_true rfl, Nat.le_of_ble_eq_true rfl, Nat.le_of_ble_eq_true rfl, Nat.le_of_ble_eq_true rfl⟩ (Nat.le_of_ble_eq_true rfl) dX5_putIn_30 (fun _ _ h => h) rfl (kV (fun mi_30 ml_30 h_30 => ?_))
    obtain ⟨rfl, h_30⟩ := h_30
    refine E_aload_n 1 dX5_putIn_33 rfl rfl ?_
    refine gf_X5_10 tw_0 rfl dX5_putIn_34 ?_
    refine E_iload_n 0 dX5_putIn_37 rfl rfl ?_
    refine E_iload_n 2 dX5_putIn_38 rfl rfl ?_
    refine E_callV (c_X1_putCarrier l hfl 1 isD_1 mi_30 ml_10 r_13 a n (((congrArg Int32.toInt ((congrFun (h_30.1 1 (by decide) (Or.inl (by omega))) 5).trans ((congrFun (h_10.1 1 (by decide)) 5).trans hD.2.1.1))).trans hn).trans (by omega)) (by omega) (by omega)) cw_X5_76 (As := [.int r_13, .int a]) (st := []) wi_yX1_putCarrier we_yX1_putCarrier (ci := 1) (q := (RX1, TX1, 15)) rfl rfl (wl_atO isD_1.t) rfl ⟨Nat.le_of_ble_eq_true rfl, Nat.le_of_ble_eq_true rfl, Nat.le_of_ble_eq_true rfl, Nat.le_of_ble_eq_true rfl⟩ (Nat.le_of_ble_eq_true rfl) dX5_putIn_39 (fun _ _ h => h) rfl (kE0 ?_)
    rw [show (mi_30 1 5) = (V 5) from ((congrFun (h_30.1 1 (by decide) (Or.inl (by omega))) 5).trans ((congrFun (h_10.1 1 (by decide)) 5).trans hD.2.1.1))]
    refine E_iload_n 0 dX5_putIn_42 rfl rfl ?_
    refine E_iret rfl (Nat.le_of_ble_eq_true rfl) (Nat.le_of_ble_eq_true rfl) dX5_putIn_43 ?_
    obtain ⟨z, hz6, hz7, hz8, hz9⟩ := h_13.resolve_right (fun z => c_19 (by rw [z.2]; rfl))
    exact okQI ⟨h_10.2.1, h_10.2.2.1, h_1, h_5, Or.inr ⟨z, mi_10, mi_30, hz6, (op_lb h_10.2.2.2 hz6).mp hz7, fun c hc q => hz8 c hc ((op_lb h_10.2.2.2 (by omega)).mpr q), hz9, h_10.1, h_30, rfl⟩⟩
theorem smF_add (f : Nat → Nat) : ∀ (k x j : Nat), smF f x (k + j) = smF f x k + smF f (x + k) j
  | 0, x, j => by rw [Nat.zero_add, smF, Nat.zero_add, Nat.add_zero]
  | k + 1, x, j => by rw [show k + 1 + j = (k + j) + 1 by omega, smF, smF, smF_add f k (x + 1) j, show x + 1 + k = x + (k + 1) by omega]; omega
theorem smF_0 {f : Nat → Nat} : ∀ {k x : Nat}, (∀ y, x ≤ y → y < x + k → f y = 0) → smF f x k = 0
  | 0, x, _ => rfl
  | k + 1, x, h => by rw [smF, h x (Nat.le_refl x) (by omega), smF_0 (fun y h1 h2 => h y (by omega) (by omega))]
theorem smF_z {f : Nat → Nat} : ∀ {k x : Nat}, smF f x k = 0 → ∀ y, x ≤ y → y < x + k → f y = 0
  | 0, x, _, y, h1, h2 => by omega
  | k + 1, x, h, y, h1, h2 => by
    rw [smF] at h
    rcases Nat.lt_or_ge x y with q | q
    · exact smF_z (k := k) (x := x + 1) (by omega) y (by omega) (by omega)
    · rw [show y = x by omega]; omega
theorem frF_0 {f : Nat → Option (List Nat)} : ∀ {k x : Nat}, (∀ y, x ≤ y → y < x + k → f y = none) → frF f x k = none
  | 0, x, _ => rfl
  | k + 1, x, h => by rw [frF, h x (Nat.le_refl x) (by omega), frF_0 (fun y h1 h2 => h y (by omega) (by omega))]; rfl
theorem frF_add {f : Nat → Option (List Nat)} : ∀ {k x j : Nat}, (∀ y, x ≤ y → y < x + k → f y = none) → frF f x (k + j) = frF f (x + k) j
  | 0, x, j, _ => by rw [Nat.zero_add, Nat.add_zero]
  | k + 1, x, j, h => by rw [show k + 1 + j = (k + j) + 1 by omega, frF, h x (Nat.le_refl x) (by omega), Option.none_or, frF_add (fun y h1 h2 => h y (by omega) (by omega)), show x + 1 + k = x + (k + 1) by omega]
theorem skF_none {V : Nat → Int32} {sp : Nat} : ∀ {l : Nat} {R : List Nat} {x : Nat}, skC V sp l R x = 0 → skF V sp l R x = none
  | 0, R, x, h => by rw [skC] at h; exact absurd h (by decide)
  | l + 1, R, x, h => by
    rw [skC] at h
    rw [skF]
    refine frF_0 (fun y h1 h2 => ?_)
    have h3 := smF_z h y h1 h2
    rcases Classical.em (ClN V (R ++ [y])) with q | q
    · rw [ifp_t q] at h3 ⊢
      exact skF_none h3
    · rw [ifp_f q]
theorem DS_c {V : Nat → Int32} {R : List Nat} {k c : Nat} (h : R[k]? = some c) : (DS V R).2.2.2.1 k = (c : Int) := by
  show ((R.getD k 0 : Nat) : Int) = c
  rw [List.getD_eq_getElem?_getD, h]; rfl
theorem DS_l {V : Nat → Int32} {R : List Nat} {y : Nat} : (DS V (R ++ [y])).2.2.2.1 R.length = (y : Int) := DS_c (by rw [List.getElem?_append_right (Nat.le_refl _), Nat.sub_self]; rfl)
theorem eqD_S {V : Nat → Int32} {R : List Nat} {y : Nat} : eqD R.length (DS V R) (DS V (R ++ [y])) := by
  refine ⟨by simp only [DS], by simp only [DS], by simp only [DS], fun k hk => ⟨?_, by simp only [DS]⟩⟩
  have hc : R[k]? = some (R[k]) := List.getElem?_eq_getElem hk
  rw [DS_c hc, DS_c (V := V) (R := R ++ [y]) (c := R[k]) (by rw [List.getElem?_append_left hk]; exact hc)]
theorem ClN_iff {V : Nat → Int32} {R : List Nat} {y : Nat} : ClN V (R ++ [y]) ↔ ClR (DS V (R ++ [y])) (V 3).toInt (V 4).toInt (R.length + 1) := by
  unfold ClN
  rw [List.length_append]; exact Iff.rfl
/-- marks of a clean set are apart -/
theorem ClN_far {V : Nat → Int32} {R : List Nat} {y z sp : Nat} (hsp : (V 4).toInt = (sp : Int)) (h1 : 1 ≤ sp) (h : ClN V (R ++ [y])) (hz : z ∈ R) : y + sp ≤ z ∨ z + sp ≤ y := by
  obtain ⟨k, hk, e⟩ := List.getElem_of_mem hz
  have hc : (R ++ [y])[k]? = some z := by rw [List.getElem?_append_left hk, List.getElem?_eq_getElem hk, e]
  have h2 := (ClR_iff.mp (ClN_iff.mp h)).1 k R.length (by omega) (by omega) (by omega)
  unfold cwP at h2
  rw [DS_c hc, DS_l, hsp] at h2
  omega
theorem sk_far {V : Nat → Int32} {S sp : Nat} (hsp : (V 4).toInt = (sp : Int)) (h1 : 1 ≤ sp) : ∀ {l : Nat} {R : List Nat} {y : Nat}, S ∈ R → ClN V (R ++ [y]) → y < S → skC V S l (R ++ [y]) (y + 1) ≠ 0 → y + (l + 1) * sp ≤ S
  | 0, R, y, hS, hc, hy, _ => by
    have := ClN_far hsp h1 hc hS
    omega
  | l + 1, R, y, hS, hc, hy, h => by
    rw [skC] at h
    rcases Classical.em (∃ z, y + 1 ≤ z ∧ z < y + 1 + (S - (y + 1)) ∧ ifp (ClN V (R ++ [y] ++ [z])) (skC V S l (R ++ [y] ++ [z]) (z + 1)) 0 ≠ 0) with q | q
    · obtain ⟨z, hz1, hz2, hz3⟩ := q
      rcases Classical.em (ClN V (R ++ [y] ++ [z])) with q2 | q2
      · rw [ifp_t q2] at hz3
        have h3 := sk_far hsp h1 (l := l) (R := R ++ [y]) (y := z) (List.mem_append_left _ hS) q2 (by omega) hz3
        have h4 := ClN_far hsp h1 q2 (z := y) (List.mem_append_right _ (List.mem_singleton.mpr rfl))
        have h5 : (l + 1 + 1) * sp = (l + 1) * sp + sp := by rw [Nat.add_mul (l + 1) 1 sp]; omega
        omega
      · rw [ifp_f q2] at hz3; exact absurd rfl hz3
    · exact absurd (smF_0 (fun z hz1 hz2 => Classical.byContradiction (fun w => q ⟨z, hz1, hz2, w⟩))) h
/-- the value of one mark -/
noncomputable def gSk (V : Nat → Int32) (S l : Nat) (R : List Nat) (y : Nat) : Nat := ifp (ClN V (R ++ [y])) (skC V S l (R ++ [y]) (y + 1)) 0
noncomputable def hSk (V : Nat → Int32) (S l : Nat) (R : List Nat) (y : Nat) : Option (List Nat) := ifp (ClN V (R ++ [y])) (skF V S l (R ++ [y]) (y + 1)) none
theorem hSk_0 {V : Nat → Int32} {S l y : Nat} {R : List Nat} (h : gSk V S l R y = 0) : hSk V S l R y = none := by
  unfold gSk at h
  unfold hSk
  rcases Classical.em (ClN V (R ++ [y])) with q | q
  · rw [ifp_t q] at h ⊢; exact skF_none h
  · rw [ifp_f q]
theorem gSk_0 {V : Nat → Int32} {S sp l y y0 : Nat} {R : List Nat} (hsp : (V 4).toInt = (sp : Int)) (h1 : 1 ≤ sp) (hS : S ∈ R) (h0 : y0 ∈ R) (hy : y0 < y) (hyS : y < S) (h : y < y0 + sp ∨ S < y + (l + 1) * sp) : gSk V S l R y = 0 := by
  unfold gSk
  rcases Classical.em (ClN V (R ++ [y])) with q | q
  · rw [ifp_t q]
    have h2 := ClN_far hsp h1 q h0
    refine Classical.byContradiction (fun w => ?_)
    have h3 := sk_far hsp h1 hS q hyS w
    omega
  · rw [ifp_f q]
/-- the loop's state: F are found, the next mark is y -/
def CnI (V : Nat → Int32) (S l : Nat) (R : List Nat) (y0 E : Nat) (y : Nat) (x : Int) (mi : MI) (ml : MJ) : Prop :=
  (∃ F : Nat, x = (F : Int) ∧ F < E ∧ F + smF (gSk V S l R) y (S - y) = skC V S (l + 1) R (y0 + 1) ∧ (E = 1 → frF (hSk V S l R) y (S - y) = skF V S (l + 1) R (y0 + 1)) ∧ CSI mi ml (DS V R) (V 3).toInt (V 4).toInt R.length) ∨
  (x = (E : Int) ∧ E ≤ skC V S (l + 1) R (y0 + 1) ∧ ∃ R' : List Nat, CSI mi ml (DS V R') (V 3).toInt (V 4).toInt R'.length ∧ (∀ x, x ∈ R' → x ≤ 40) ∧ (E = 1 → skF V S (l + 1) R (y0 + 1) = some R'))
/-- how a count ends -/
def CnE (V : Nat → Int32) (S l : Nat) (R : List Nat) (y0 E : Nat) (x : Int) (mi : MI) (ml : MJ) : Prop :=
  (x = (skC V S l R (y0 + 1) : Int) ∧ skC V S l R (y0 + 1) < E ∧ CSI mi ml (DS V R) (V 3).toInt (V 4).toInt R.length) ∨
  (x = (E : Int) ∧ E ≤ skC V S l R (y0 + 1) ∧ ∃ R' : List Nat, CSI mi ml (DS V R') (V 3).toInt (V 4).toInt R'.length ∧ (∀ x, x ∈ R' → x ≤ 40) ∧ (E = 1 → skF V S l R (y0 + 1) = some R'))
theorem CnI_0 {V : Nat → Int32} {S sp l y0 E : Nat} {R : List Nat} {mi : MI} {ml : MJ} (hsp : (V 4).toInt = (sp : Int)) (h1 : 1 ≤ sp) (hS : S ∈ R) (h0 : y0 ∈ R) (hE : 1 ≤ E) (hC : CSI mi ml (DS V R) (V 3).toInt (V 4).toInt R.length) : CnI V S l R y0 E (y0 + sp) 0 mi ml := by
  have hg : ∀ y, y0 + 1 ≤ y → y < S → y < y0 + sp → gSk V S l R y = 0 := fun y a b c => gSk_0 hsp h1 hS h0 (by omega) b (Or.inl c)
  refine Or.inl ⟨0, rfl, hE, ?_, fun _ => ?_, hC⟩
  · show 0 + smF (gSk V S l R) (y0 + sp) (S - (y0 + sp)) = smF (gSk V S l R) (y0 + 1) (S - (y0 + 1))
    rcases Nat.lt_or_ge (y0 + sp) S with q | q
    · rw [show S - (y0 + 1) = (sp - 1) + (S - (y0 + sp)) by omega, smF_add, smF_0 (k := sp - 1) (fun y a b => hg y a (by omega) (by omega)), show y0 + 1 + (sp - 1) = y0 + sp by omega]
    · rw [show S - (y0 + sp) = 0 by omega, smF_0 (k := S - (y0 + 1)) (fun y a b => hg y a (by omega) (by omega))]; rfl
  · show frF (hSk V S l R) (y0 + sp) (S - (y0 + sp)) = frF (hSk V S l R) (y0 + 1) (S - (y0 + 1))
    rcases Nat.lt_or_ge (y0 + sp) S with q | q
    · rw [show S - (y0 + 1) = (sp - 1) + (S - (y0 + sp)) by omega, frF_add (k := sp - 1) (fun y a b => hSk_0 (hg y a (by omega) (by omega))), show y0 + 1 + (sp - 1) = y0 + sp by omega]
    · rw [show S - (y0 + sp) = 0 by omega, frF_0 (k := S - (y0 + 1)) (fun y a b => hSk_0 (hg y a (by omega) (by omega)))]; rfl
theorem CnI_n {V : Nat → Int32} {S l y0 E y : Nat} {R : List Nat} {x : Int} {mi mj : MI} {ml mk : MJ} (h : CnI V S l R y0 E y x mi ml) (hx : x < E) (hy : y < S) (hn : ¬ ClN V (R ++ [y])) (hC : CSI mi ml (DS V R) (V 3).toInt (V 4).toInt R.length → CSI mj mk (DS V R) (V 3).toInt (V 4).toInt R.length) : CnI V S l R y0 E (y + 1) x mj mk := by
  rcases h with ⟨F, e1, e2, e3, e4, e5⟩ | ⟨e1, _⟩
  · rw [show S - y = (S - (y + 1)) + 1 by omega, smF, show gSk V S l R y = 0 from by unfold gSk; rw [ifp_f hn], Nat.zero_add] at e3
    rw [show S - y = (S - (y + 1)) + 1 by omega, frF, show hSk V S l R y = none from by unfold hSk; rw [ifp_f hn], Option.none_or] at e4
    exact Or.inl ⟨F, e1, e2, e3, e4, hC e5⟩
  · omega
theorem CnI_C {V : Nat → Int32} {S l y0 E y : Nat} {R : List Nat} {x : Int} {mi : MI} {ml : MJ} (h : CnI V S l R y0 E y x mi ml) (hx : x < E) : ∃ F : Nat, x = (F : Int) ∧ F < E ∧ F + smF (gSk V S l R) y (S - y) = skC V S (l + 1) R (y0 + 1) ∧ (E = 1 → frF (hSk V S l R) y (S - y) = skF V S (l + 1) R (y0 + 1)) ∧ CSI mi ml (DS V R) (V 3).toInt (V 4).toInt R.length := by
  rcases h with h | ⟨e1, _⟩
  · exact h
  · omega
/-- behind a count of the marks behind y -/
theorem CnI_y {V : Nat → Int32} {S l y0 E y F : Nat} {R : List Nat} {x x2 : Int} {mj mk : MI} {ll lk : MJ} (hF : x = (F : Int)) (hFE : F < E) (e3 : F + smF (gSk V S l R) y (S - y) = skC V S (l + 1) R (y0 + 1)) (e4 : E = 1 → frF (hSk V S l R) y (S - y) = skF V S (l + 1) R (y0 + 1)) (hy : y < S) (hc : ClN V (R ++ [y])) (hE2 : CnE V S l (R ++ [y]) y (E - F) x2 mj ll)
    (hlt : x + x2 < E → CSI mj ll (DS V (R ++ [y])) (V 3).toInt (V 4).toInt (R ++ [y]).length → CSI mk lk (DS V R) (V 3).toInt (V 4).toInt R.length) (hge : (E : Int) ≤ x + x2 → mk = mj ∧ lk = ll) : CnI V S l R y0 E (y + 1) (x + x2) mk lk := by
  have g1 : gSk V S l R y = skC V S l (R ++ [y]) (y + 1) := by unfold gSk; rw [ifp_t hc]
  have g2 : hSk V S l R y = skF V S l (R ++ [y]) (y + 1) := by unfold hSk; rw [ifp_t hc]
  rw [show S - y = (S - (y + 1)) + 1 by omega, smF, g1] at e3
  rw [show S - y = (S - (y + 1)) + 1 by omega, frF, g2] at e4
  rcases hE2 with ⟨a1, a2, a3⟩ | ⟨a1, a2, R', a3, a4, a5⟩
  · refine Or.inl ⟨F + skC V S l (R ++ [y]) (y + 1), by omega, by omega, by omega, fun h1 => ?_, hlt (by omega) a3⟩
    have h2 := e4 h1
    rw [skF_none (show skC V S l (R ++ [y]) (y + 1) = 0 by omega), Option.none_or] at h2
    exact h2
  · obtain ⟨rfl, rfl⟩ := hge (by omega)
    refine Or.inr ⟨by omega, by omega, R', a3, a4, fun h1 => ?_⟩
    have h2 := e4 h1
    rw [a5 (by omega), Option.some_or] at h2
    exact h2.symm
theorem CnI_e {V : Nat → Int32} {S sp l y0 E y : Nat} {R : List Nat} {x : Int} {mi : MI} {ml : MJ} (hsp : (V 4).toInt = (sp : Int)) (h1 : 1 ≤ sp) (hS : S ∈ R) (h0 : y0 ∈ R) (hy : y0 < y) (h : CnI V S l R y0 E y x mi ml) (he : S < y + (l + 1) * sp ∨ (E : Int) ≤ x) : CnE V S (l + 1) R y0 E x mi ml := by
  rcases h with ⟨F, e1, e2, e3, e4, e5⟩ | ⟨e1, e2, e3⟩
  · rw [smF_0 (fun z a b => gSk_0 hsp h1 hS h0 (by omega) (by omega) (Or.inr (by omega)))] at e3
    exact Or.inl ⟨by omega, by omega, e5⟩
  · exact Or.inr ⟨e1, e2, e3⟩
theorem RgD_S {V : Nat → Int32} {R : List Nat} {N : Nat} (hw : WFV V) (hR : ∀ x, x ∈ R → x ≤ 40) : RgD (DS V R) (V 3).toInt (V 4).toInt N := by
  refine RgD_w hw ⟨rfl, rfl, rfl⟩ (fun k hk => ?_)
  show (0 ≤ ((R.getD k 0 : Nat) : Int) ∧ ((R.getD k 0 : Nat) : Int) ≤ 63) ∧ (0 ≤ (60 : Int) ∧ (60 : Int) ≤ 60)
  have h2 : R.getD k 0 ≤ 40 := by
    rw [List.getD_eq_getElem?_getD]
    cases e : R[k]? with
    | none => exact Nat.zero_le _
    | some c => exact hR c (List.mem_of_getElem? e)
  omega
theorem mem_a {R : List Nat} {y : Nat} (hR : ∀ x, x ∈ R → x ≤ 40) (hy : y ≤ 40) : ∀ x, x ∈ R ++ [y] → x ≤ 40 := fun x hx => (List.mem_append.mp hx).elim (hR x) (fun h => by rw [List.mem_singleton.mp h]; exact hy)
end CL4
