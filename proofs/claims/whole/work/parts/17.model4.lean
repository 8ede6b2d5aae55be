section MO4

set_option maxHeartbeats 1600000 in
set_option maxRecDepth 100000 in
theorem c_X6_change (l : Launch) (hfl : l.stackTraces = false) (mi : MI) (ml : MJ) (sc : Nat) (hsc : (mi 61 2).toInt = (sc : Int)) (h4 : sc ≤ 4) : Ct l yX6_change (.code yX6_change cX6_change 1 none) 1 0 0 [.ref 61] (wl mi ml) (QV (fun mi9 ml9 => ∃ mk, Kept mi mk ∧ u2 mk 62 32 0 = mi9 ∧ ml = ml9)) noX := by
  refine Ct_of (ini := false) pn_X6 hfl (fun h => nomatch h) (Nat.le_of_ble_eq_true rfl) ?_
  show E l RX6 cX6_change 1 none false [] (rmE 1 0 0) (wl mi ml) (TgM (wl mi ml) 0 0 (QV (fun mi9 ml9 => ∃ mk, Kept mi mk ∧ u2 mk 62 32 0 = mi9 ∧ ml = ml9)) noX) 0 0 0 [(0, .ref 61)] [] (wl mi ml)
  refine E_aload_n 0 dX6_change_0 rfl rfl ?_
  refine E_callV (c_X6_keep l hfl mi ml sc hsc (by omega)) cw_X6_50 (As := []) (st := []) wi_yX6_keep we_yX6_keep (ci := 6) (q := (RX6, TX6, 23)) rfl rfl (wl_atO tw_61) rfl ⟨Nat.le_of_ble_eq_true rfl, Nat.le_of_ble_eq_true rfl, Nat.le_of_ble_eq_true rfl, Nat.le_of_ble_eq_true rfl⟩ (Nat.le_of_ble_eq_true rfl) dX6_change_1 (fun _ _ h => h) rfl (kV (fun mi_1 ml_1 h_1 => ?_))
  refine E_aload_n 0 dX6_change_4 rfl rfl ?_
  refine gf_X6_7 tw_61 rfl dX6_change_5 ?_
  refine E_bipush 32 (by decide) dX6_change_8 ?_
  refine E_iconst 0 (by decide) dX6_change_10 ?_
  refine S_iast 32 tw_62 rfl (by decide) dX6_change_11 ?_
  refine E_vret rfl (Nat.le_of_ble_eq_true rfl) (Nat.le_of_ble_eq_true rfl) dX6_change_12 ?_
  exact okQV ⟨_, h_1.1, rfl, h_1.2⟩
set_option maxHeartbeats 1600000 in
set_option maxRecDepth 100000 in
theorem c_X6_addCarrier (l : Launch) (hfl : l.stackTraces = false) (mi : MI) (ml : MJ) (n sc : Nat) (hn : (mi 62 5).toInt = (n : Int)) (h10 : n ≤ 10) (hsc : (mi 61 2).toInt = (sc : Int)) (h4 : sc ≤ 4) (c v : Int32) (C L : Int) (hC : c.toInt = C) (hL : v.toInt = L) : Ct l yX6_addCarrier (.code yX6_addCarrier cX6_addCarrier 3 (some .int)) 3 0 0 [.ref 61, .int c, .int v] (wl mi ml) (QI (fun r mi9 ml9 => ml = ml9 ∧ ((¬ ((0 ≤ C ∧ C ≤ 63) ∧ (0 ≤ L ∧ L ≤ 60) ∧ ¬ ∃ j : Nat, j < n ∧ (j : Int) ≠ (-1) ∧ mi 62 (6 + 2 * j) = c) ∧ u2 mi 61 5 1 = mi9) ∨ (((0 ≤ C ∧ C ≤ 63) ∧ (0 ≤ L ∧ L ≤ 60) ∧ ¬ ∃ j : Nat, j < n ∧ (j : Int) ≠ (-1) ∧ mi 62 (6 + 2 * j) = c) ∧ n = 10 ∧ u2 mi 61 5 2 = mi9) ∨ (((0 ≤ C ∧ C ≤ 63) ∧ (0 ≤ L ∧ L ≤ 60) ∧ ¬ ∃ j : Nat, j < n ∧ (j : Int) ≠ (-1) ∧ mi 62 (6 + 2 * j) = c) ∧ n < 10 ∧ r.toInt = (n : Int) ∧ ∃ mk x, Kept (u2 mi 61 5 0) mk ∧ x.toInt = (n : Int) + 1 ∧ u2 (u2 (u2 (u2 mk 62 32 0) 62 (6 + 2 * n) c) 62 (7 + 2 * n) v) 62 5 x = mi9)))) noX := by
  refine Ct_of (ini := false) pn_X6 hfl (fun h => nomatch h) (Nat.le_of_ble_eq_true rfl) ?_
  show E l RX6 cX6_addCarrier 3 (some .int) false [] (rmE 3 0 0) (wl mi ml) (TgM (wl mi ml) 0 0 (QI (fun r mi9 ml9 => ml = ml9 ∧ ((¬ ((0 ≤ C ∧ C ≤ 63) ∧ (0 ≤ L ∧ L ≤ 60) ∧ ¬ ∃ j : Nat, j < n ∧ (j : Int) ≠ (-1) ∧ mi 62 (6 + 2 * j) = c) ∧ u2 mi 61 5 1 = mi9) ∨ (((0 ≤ C ∧ C ≤ 63) ∧ (0 ≤ L ∧ L ≤ 60) ∧ ¬ ∃ j : Nat, j < n ∧ (j : Int) ≠ (-1) ∧ mi 62 (6 + 2 * j) = c) ∧ n = 10 ∧ u2 mi 61 5 2 = mi9) ∨ (((0 ≤ C ∧ C ≤ 63) ∧ (0 ≤ L ∧ L ≤ 60) ∧ ¬ ∃ j : Nat, j < n ∧ (j : Int) ≠ (-1) ∧ mi 62 (6 + 2 * j) = c) ∧ n < 10 ∧ r.toInt = (n : Int) ∧ ∃ mk x, Kept (u2 mi 61 5 0) mk ∧ x.toInt = (n : Int) + 1 ∧ u2 (u2 (u2 (u2 mk 62 32 0) 62 (6 + 2 * n) c) 62 (7 + 2 * n) v) 62 5 x = mi9)))) noX) 0 0 0 [(0, .ref 61), (1, .int c), (2, .int v)] [] (wl mi ml)
  refine E_aload_n 0 dX6_addCarrier_0 rfl rfl ?_
  refine E_aload_n 0 dX6_addCarrier_1 rfl rfl ?_
  refine E_iload_n 1 dX6_addCarrier_2 rfl rfl ?_
  refine E_iload_n 2 dX6_addCarrier_3 rfl rfl ?_
  refine E_iconst (-1) (by decide) dX6_addCarrier_4 ?_
  refine E_callV (c_X6_isFit l hfl mi ml n hn (by omega) c v (-1) C L (-1) hC hL (show ((-1) : Int32).toInt = (-1) from rfl)) cw_X6_69 (As := [.int c, .int v, .int (-1)]) (st := [.ref 61]) wi_yX6_isFit we_yX6_isFit (ci := 6) (q := (RX6, TX6, 23)) rfl rfl (wl_atO tw_61) rfl ⟨Nat.le_of_ble_eq_true rfl, Nat.le_of_ble_eq_true rfl, Nat.le_of_ble_eq_true rfl, Nat.le_of_ble_eq_true rfl⟩ (Nat.le_of_ble_eq_true rfl) dX6_addCarrier_5 (fun _ _ h => h) rfl (kE ?_)
  refine B_ne 15 dX6_addCarrier_8 (by decide) (fun c_8 => ?_) (fun c_8 => ?_)
  · skip
    refine E_aload_n 0 dX6_addCarrier_15 rfl rfl ?_
    refine gf_X6_7 tw_61 rfl dX6_addCarrier_16 ?_
    refine E_iconst 5 (by decide) dX6_addCarrier_19 ?_
    refine S_iald 5 (mi 62 5) tw_62 rfl (by decide) rfl dX6_addCarrier_20 ?_
    refine E_bipush 10 (by decide) dX6_addCarrier_21 ?_
    refine Z_ne (n : Int) 10 hn (show (10 : Int32).toInt = 10 from rfl) 30 dX6_addCarrier_23 (by decide) (fun c_23 => ?_) (fun c_23 => ?_)
    · skip
      refine E_iconst 0 (by decide) dX6_addCarrier_30 ?_
      refine pf_X6_43 tw_61 rfl dX6_addCarrier_31 ?_
      refine E_aload_n 0 dX6_addCarrier_34 rfl rfl ?_
      refine gf_X6_43 0 tw_61 rfl (u2_s _ _ _ _) dX6_addCarrier_35 ?_
      refine Y_eq 0 (show (0 : Int32).toInt = 0 from rfl) 43 dX6_addCarrier_38 (by decide) (fun c_38 => ?_) (fun c_38 => ?_)
      · skip
        refine E_aload_n 0 dX6_addCarrier_43 rfl rfl ?_
        refine E_callV (c_X6_change l hfl (u2 mi 61 5 0) ml sc ((congrArg Int32.toInt ((u2_n (by omega)).trans rfl)).trans hsc) (by omega)) cw_X6_72 (As := []) (st := []) wi_yX6_change we_yX6_change (ci := 6) (q := (RX6, TX6, 23)) rfl rfl (wl_atO tw_61) rfl ⟨Nat.le_of_ble_eq_true rfl, Nat.le_of_ble_eq_true rfl, Nat.le_of_ble_eq_true rfl, Nat.le_of_ble_eq_true rfl⟩ (Nat.le_of_ble_eq_true rfl) dX6_addCarrier_44 (fun _ _ h => h) rfl (kV (fun mi_44 ml_44 h_44 => ?_))
        obtain ⟨mk_44, hK_44, rfl, rfl⟩ := h_44
        refine E_aload_n 0 dX6_addCarrier_47 rfl rfl ?_
        refine E_aload_n 0 dX6_addCarrier_48 rfl rfl ?_
        refine gf_X6_7 tw_61 rfl dX6_addCarrier_49 ?_
        refine E_iconst 5 (by decide) dX6_addCarrier_52 ?_
        refine S_iald 5 (mi 62 5) tw_62 rfl (by decide) ((u2_n (by omega)).trans ((congrFun (hK_44.1 62 (by decide)) 5).trans ((u2_n (by omega)).trans rfl))) dX6_addCarrier_53 ?_
        refine E_iload_n 1 dX6_addCarrier_54 rfl rfl ?_
        refine E_iload_n 2 dX6_addCarrier_55 rfl rfl ?_
        refine E_callV (c_X6_lay l hfl (u2 mk_44 62 32 0) ml (mi 62 5) c v n (hn.trans (by omega)) (by omega)) cw_X6_75 (As := [.int (mi 62 5), .int c, .int v]) (st := []) wi_yX6_lay we_yX6_lay (ci := 6) (q := (RX6, TX6, 23)) rfl rfl (wl_atO tw_61) rfl ⟨Nat.le_of_ble_eq_true rfl, Nat.le_of_ble_eq_true rfl, Nat.le_of_ble_eq_true rfl, Nat.le_of_ble_eq_true rfl⟩ (Nat.le_of_ble_eq_true rfl) dX6_addCarrier_56 (fun _ _ h => h) rfl (kE0 ?_)
        refine E_aload_n 0 dX6_addCarrier_59 rfl rfl ?_
        refine gf_X6_7 tw_61 rfl dX6_addCarrier_60 ?_
        refine E_iconst 5 (by decide) dX6_addCarrier_63 ?_
        refine E_dup2 rfl rfl dX6_addCarrier_64 ?_
        refine S_iald 5 (mi 62 5) tw_62 rfl (by decide) ((u2_n (by omega)).trans ((u2_n (by omega)).trans ((u2_n (by omega)).trans ((congrFun (hK_44.1 62 (by decide)) 5).trans ((u2_n (by omega)).trans rfl))))) dX6_addCarrier_65 ?_
        refine E_iconst 1 (by decide) dX6_addCarrier_66 ?_
        refine E_iadd dX6_addCarrier_67 ?_
        refine S_iast 5 tw_62 rfl (by decide) dX6_addCarrier_68 ?_
        refine E_aload_n 0 dX6_addCarrier_69 rfl rfl ?_
        refine gf_X6_7 tw_61 rfl dX6_addCarrier_70 ?_
        refine E_iconst 5 (by decide) dX6_addCarrier_73 ?_
        refine S_iald 5 ((mi 62 5) + 1) tw_62 rfl (by decide) (u2_s _ _ _ _) dX6_addCarrier_74 ?_
        refine E_iconst 1 (by decide) dX6_addCarrier_75 ?_
        refine E_isub dX6_addCarrier_76 ?_
        refine E_iret rfl (Nat.le_of_ble_eq_true rfl) (Nat.le_of_ble_eq_true rfl) dX6_addCarrier_77 ?_
        exact okQI ⟨rfl, Or.inr (Or.inr ⟨c_8, by omega, (tI_sub (tI_add hn (show (1 : Int32).toInt = 1 from rfl) (by omega)) (show (1 : Int32).toInt = 1 from rfl) (by omega)).trans (by omega), _, _, hK_44, (tI_add hn (show (1 : Int32).toInt = 1 from rfl) (by omega)).trans (by omega), rfl⟩)⟩
      · exact absurd c_38 (by decide)
    · skip
      refine E_iconst 2 (by decide) dX6_addCarrier_26 ?_
      refine E_goto 31 dX6_addCarrier_27 (by decide) ?_
      refine pf_X6_43 tw_61 rfl dX6_addCarrier_31 ?_
      refine E_aload_n 0 dX6_addCarrier_34 rfl rfl ?_
      refine gf_X6_43 2 tw_61 rfl (u2_s _ _ _ _) dX6_addCarrier_35 ?_
      refine Y_eq 2 (show (2 : Int32).toInt = 2 from rfl) 43 dX6_addCarrier_38 (by decide) (fun c_38 => ?_) (fun c_38 => ?_)
      · exact absurd c_38 (by decide)
      · skip
        refine E_iconst 0 (by decide) dX6_addCarrier_41 ?_
        refine E_iret rfl (Nat.le_of_ble_eq_true rfl) (Nat.le_of_ble_eq_true rfl) dX6_addCarrier_42 ?_
        exact okQI ⟨rfl, Or.inr (Or.inl ⟨c_8, by omega, rfl⟩)⟩
  · skip
    refine E_iconst 1 (by decide) dX6_addCarrier_11 ?_
    refine E_goto 31 dX6_addCarrier_12 (by decide) ?_
    refine pf_X6_43 tw_61 rfl dX6_addCarrier_31 ?_
    refine E_aload_n 0 dX6_addCarrier_34 rfl rfl ?_
    refine gf_X6_43 1 tw_61 rfl (u2_s _ _ _ _) dX6_addCarrier_35 ?_
    refine Y_eq 1 (show (1 : Int32).toInt = 1 from rfl) 43 dX6_addCarrier_38 (by decide) (fun c_38 => ?_) (fun c_38 => ?_)
    · exact absurd c_38 (by decide)
    · skip
      refine E_iconst 0 (by decide) dX6_addCarrier_41 ?_
      refine E_iret rfl (Nat.le_of_ble_eq_true rfl) (Nat.le_of_ble_eq_true rfl) dX6_addCarrier_42 ?_
      exact okQI ⟨rfl, Or.inl ⟨c_8, rfl⟩⟩
set_option maxHeartbeats 1600000 in
set_option maxRecDepth 100000 in
theorem c_X6_moveCarrier (l : Launch) (hfl : l.stackTraces = false) (mi : MI) (ml : MJ) (n sc : Nat) (hn : (mi 62 5).toInt = (n : Int)) (h10 : n ≤ 10) (hsc : (mi 61 2).toInt = (sc : Int)) (h4 : sc ≤ 4) (q c v : Int32) (B C L : Int) (hB : q.toInt = B) (hC : c.toInt = C) (hL : v.toInt = L) : Ct l yX6_moveCarrier (.code yX6_moveCarrier cX6_moveCarrier 5 (some .int)) 3 0 0 [.ref 61, .int q, .int c, .int v] (wl mi ml) (QI (fun r mi9 ml9 => ml = ml9 ∧ ((¬ (0 ≤ B ∧ B ≤ (n : Int) - 1) ∧ u2 mi 61 5 1 = mi9) ∨ ((0 ≤ B ∧ B ≤ (n : Int) - 1) ∧ ¬ ((0 ≤ C ∧ C ≤ 63) ∧ (0 ≤ L ∧ L ≤ 60) ∧ ¬ ∃ j : Nat, j < n ∧ (j : Int) ≠ B ∧ mi 62 (6 + 2 * j) = c) ∧ u2 mi 61 5 2 = mi9) ∨ (((0 ≤ C ∧ C ≤ 63) ∧ (0 ≤ L ∧ L ≤ 60) ∧ ¬ ∃ j : Nat, j < n ∧ (j : Int) ≠ B ∧ mi 62 (6 + 2 * j) = c) ∧ ∃ (b : Nat) (mk : MI), b < n ∧ B = (b : Int) ∧ r = mi 62 (6 + 2 * b) ∧ Kept (u2 mi 61 5 0) mk ∧ u2 (u2 (u2 mk 62 32 0) 62 (6 + 2 * b) c) 62 (7 + 2 * b) v = mi9)))) noX := by
  refine Ct_of (ini := false) pn_X6 hfl (fun h => nomatch h) (Nat.le_of_ble_eq_true rfl) ?_
  show E l RX6 cX6_moveCarrier 5 (some .int) false [] (rmE 3 0 0) (wl mi ml) (TgM (wl mi ml) 0 0 (QI (fun r mi9 ml9 => ml = ml9 ∧ ((¬ (0 ≤ B ∧ B ≤ (n : Int) - 1) ∧ u2 mi 61 5 1 = mi9) ∨ ((0 ≤ B ∧ B ≤ (n : Int) - 1) ∧ ¬ ((0 ≤ C ∧ C ≤ 63) ∧ (0 ≤ L ∧ L ≤ 60) ∧ ¬ ∃ j : Nat, j < n ∧ (j : Int) ≠ B ∧ mi 62 (6 + 2 * j) = c) ∧ u2 mi 61 5 2 = mi9) ∨ (((0 ≤ C ∧ C ≤ 63) ∧ (0 ≤ L ∧ L ≤ 60) ∧ ¬ ∃ j : Nat, j < n ∧ (j : Int) ≠ B ∧ mi 62 (6 + 2 * j) = c) ∧ ∃ (b : Nat) (mk : MI), b < n ∧ B = (b : Int) ∧ r = mi 62 (6 + 2 * b) ∧ Kept (u2 mi 61 5 0) mk ∧ u2 (u2 (u2 mk 62 32 0) 62 (6 + 2 * b) c) 62 (7 + 2 * b) v = mi9)))) noX) 0 0 0 [(0, .ref 61), (1, .int q), (2, .int c), (3, .int v)] [] (wl mi ml)
  refine E_aload_n 0 dX6_moveCarrier_0 rfl rfl ?_
  refine E_aload_n 0 dX6_moveCarrier_1 rfl rfl ?_
  refine E_iload_n 1 dX6_moveCarrier_2 rfl rfl ?_
  refine E_callV (c_X6_isCarrier l hfl mi ml n hn (by omega) q B hB) cw_X6_79 (As := [.int q]) (st := [.ref 61]) wi_yX6_isCarrier we_yX6_isCarrier (ci := 6) (q := (RX6, TX6, 23)) rfl rfl (wl_atO tw_61) rfl ⟨Nat.le_of_ble_eq_true rfl, Nat.le_of_ble_eq_true rfl, Nat.le_of_ble_eq_true rfl, Nat.le_of_ble_eq_true rfl⟩ (Nat.le_of_ble_eq_true rfl) dX6_moveCarrier_3 (fun _ _ h => h) rfl (kE ?_)
  refine B_ne 13 dX6_moveCarrier_6 (by decide) (fun c_6 => ?_) (fun c_6 => ?_)
  · skip
    refine E_aload_n 0 dX6_moveCarrier_13 rfl rfl ?_
    refine E_iload_n 2 dX6_moveCarrier_14 rfl rfl ?_
    refine E_iload_n 3 dX6_moveCarrier_15 rfl rfl ?_
    refine E_iload_n 1 dX6_moveCarrier_16 rfl rfl ?_
    refine E_callV (c_X6_isFit l hfl mi ml n hn (by omega) c v q C L B hC hL hB) cw_X6_69 (As := [.int c, .int v, .int q]) (st := [.ref 61]) wi_yX6_isFit we_yX6_isFit (ci := 6) (q := (RX6, TX6, 23)) rfl rfl (wl_atO tw_61) rfl ⟨Nat.le_of_ble_eq_true rfl, Nat.le_of_ble_eq_true rfl, Nat.le_of_ble_eq_true rfl, Nat.le_of_ble_eq_true rfl⟩ (Nat.le_of_ble_eq_true rfl) dX6_moveCarrier_17 (fun _ _ h => h) rfl (kE ?_)
    refine B_eq 27 dX6_moveCarrier_20 (by decide) (fun c_20 => ?_) (fun c_20 => ?_)
    · skip
      refine E_iconst 2 (by decide) dX6_moveCarrier_27 ?_
      refine pf_X6_43 tw_61 rfl dX6_moveCarrier_28 ?_
      refine E_aload_n 0 dX6_moveCarrier_31 rfl rfl ?_
      refine gf_X6_43 2 tw_61 rfl (u2_s _ _ _ _) dX6_moveCarrier_32 ?_
      refine Y_eq 2 (show (2 : Int32).toInt = 2 from rfl) 40 dX6_moveCarrier_35 (by decide) (fun c_35 => ?_) (fun c_35 => ?_)
      · exact absurd c_35 (by decide)
      · skip
        refine E_iconst 0 (by decide) dX6_moveCarrier_38 ?_
        refine E_iret rfl (Nat.le_of_ble_eq_true rfl) (Nat.le_of_ble_eq_true rfl) dX6_moveCarrier_39 ?_
        exact okQI ⟨rfl, Or.inr (Or.inl ⟨c_6, c_20, rfl⟩)⟩
    · skip
      refine E_iconst 0 (by decide) dX6_moveCarrier_23 ?_
      refine E_goto 28 dX6_moveCarrier_24 (by decide) ?_
      refine pf_X6_43 tw_61 rfl dX6_moveCarrier_28 ?_
      refine E_aload_n 0 dX6_moveCarrier_31 rfl rfl ?_
      refine gf_X6_43 0 tw_61 rfl (u2_s _ _ _ _) dX6_moveCarrier_32 ?_
      refine Y_eq 0 (show (0 : Int32).toInt = 0 from rfl) 40 dX6_moveCarrier_35 (by decide) (fun c_35 => ?_) (fun c_35 => ?_)
      · skip
        obtain ⟨b, rfl⟩ : ∃ b : Nat, B = (b : Int) := ⟨B.toNat, by omega⟩
        refine E_aload_n 0 dX6_moveCarrier_40 rfl rfl ?_
        refine E_callV (c_X6_change l hfl (u2 mi 61 5 0) ml sc ((congrArg Int32.toInt ((u2_n (by omega)).trans rfl)).trans hsc) (by omega)) cw_X6_72 (As := []) (st := []) wi_yX6_change we_yX6_change (ci := 6) (q := (RX6, TX6, 23)) rfl rfl (wl_atO tw_61) rfl ⟨Nat.le_of_ble_eq_true rfl, Nat.le_of_ble_eq_true rfl, Nat.le_of_ble_eq_true rfl, Nat.le_of_ble_eq_true rfl⟩ (Nat.le_of_ble_eq_true rfl) dX6_moveCarrier_41 (fun _ _ h => h) rfl (kV (fun mi_41 ml_41 h_41 => ?_))
        obtain ⟨mk_41, hK_41, rfl, rfl⟩ := h_41
        refine E_aload_n 0 dX6_moveCarrier_44 rfl rfl ?_
        refine E_iload_n 1 dX6_moveCarrier_45 rfl rfl ?_
        refine E_callV (c_X6_channelOf l hfl (u2 mk_41 62 32 0) ml q b (hB.trans (by omega)) (by omega)) cw_X6_57 (As := [.int q]) (st := []) wi_yX6_channelOf we_yX6_channelOf (ci := 6) (q := (RX6, TX6, 23)) rfl rfl (wl_atO tw_61) rfl ⟨Nat.le_of_ble_eq_true rfl, Nat.le_of_ble_eq_true rfl, Nat.le_of_ble_eq_true rfl, Nat.le_of_ble_eq_true rfl⟩ (Nat.le_of_ble_eq_true rfl) dX6_moveCarrier_46 (fun _ _ h => h) rfl (kE ?_)
        refine E_istore [(4, .int ((u2 mk_41 62 32 0) 62 (6 + 2 * b))), (0, .ref 61), (1, .int q), (2, .int c), (3, .int v)] dX6_moveCarrier_49 (by decide) rfl ?_
        refine E_aload_n 1 dX6_moveCarrier_51 rfl rfl ?_
        refine E_iload_n 2 dX6_moveCarrier_52 rfl rfl ?_
        refine E_iload_n 3 dX6_moveCarrier_53 rfl rfl ?_
        refine E_iload_n 4 dX6_moveCarrier_54 rfl rfl ?_
        refine E_callV (c_X6_lay l hfl (u2 mk_41 62 32 0) ml q c v b (hB.trans (by omega)) (by omega)) cw_X6_75 (As := [.int q, .int c, .int v]) (st := []) wi_yX6_lay we_yX6_lay (ci := 6) (q := (RX6, TX6, 23)) rfl rfl (wl_atO tw_61) rfl ⟨Nat.le_of_ble_eq_true rfl, Nat.le_of_ble_eq_true rfl, Nat.le_of_ble_eq_true rfl, Nat.le_of_ble_eq_true rfl⟩ (Nat.le_of_ble_eq_true rfl) dX6_moveCarrier_55 (fun _ _ h => h) rfl (kE0 ?_)
        refine E_iload 0 dX6_moveCarrier_58 rfl ?_
        refine E_iret rfl (Nat.le_of_ble_eq_true rfl) (Nat.le_of_ble_eq_true rfl) dX6_moveCarrier_60 ?_
        exact okQI ⟨rfl, Or.inr (Or.inr ⟨c_20, b, _, by omega, rfl, (u2_n (by omega)).trans (by rw [hK_41.1 62 (by decide)]; exact u2_n (by omega)), hK_41, rfl⟩)⟩
      · exact absurd c_35 (by decide)
  · skip
    refine E_iconst 1 (by decide) dX6_moveCarrier_9 ?_
    refine E_goto 28 dX6_moveCarrier_10 (by decide) ?_
    refine pf_X6_43 tw_61 rfl dX6_moveCarrier_28 ?_
    refine E_aload_n 0 dX6_moveCarrier_31 rfl rfl ?_
    refine gf_X6_43 1 tw_61 rfl (u2_s _ _ _ _) dX6_moveCarrier_32 ?_
    refine Y_eq 1 (show (1 : Int32).toInt = 1 from rfl) 40 dX6_moveCarrier_35 (by decide) (fun c_35 => ?_) (fun c_35 => ?_)
    · exact absurd c_35 (by decide)
    · skip
      refine E_iconst 0 (by decide) dX6_moveCarrier_38 ?_
      refine E_iret rfl (Nat.le_of_ble_eq_true rfl) (Nat.le_of_ble_eq_true rfl) dX6_moveCarrier_39 ?_
      exact okQI ⟨rfl, Or.inl ⟨c_6, rfl⟩⟩
set_option maxHeartbeats 1600000 in
set_option maxRecDepth 100000 in
theorem c_X6_setProducts (l : Launch) (hfl : l.stackTraces = false) (mi : MI) (ml : MJ) (sc : Nat) (hsc : (mi 61 2).toInt = (sc : Int)) (h4 : sc ≤ 4) (a b c : Int32) (A B C : Int) (hA : a.toInt = A) (hB : b.toInt = B) (hC : c.toInt = C) : Ct l yX6_setProducts (.code yX6_setProducts cX6_setProducts 5 (some .int)) 2 0 0 [.ref 61, .int a, .int b, .int c] (wl mi ml) (QI (fun r mi9 ml9 => ml = ml9 ∧ ((¬ ((0 ≤ A ∧ A ≤ 7) ∧ (0 ≤ B ∧ B ≤ 300) ∧ (0 ≤ C ∧ C ≤ 300)) ∧ u2 mi 61 5 1 = mi9) ∨ (((0 ≤ A ∧ A ≤ 7) ∧ (0 ≤ B ∧ B ≤ 300) ∧ (0 ≤ C ∧ C ≤ 300)) ∧ r = mi 62 0 ∧ ∃ mk, Kept (u2 mi 61 5 0) mk ∧ u2 (u2 (u2 (u2 mk 62 32 0) 62 0 a) 62 1 b) 62 2 c = mi9)))) noX := by
  refine Ct_of (ini := false) pn_X6 hfl (fun h => nomatch h) (Nat.le_of_ble_eq_true rfl) ?_
  show E l RX6 cX6_setProducts 5 (some .int) false [] (rmE 2 0 0) (wl mi ml) (TgM (wl mi ml) 0 0 (QI (fun r mi9 ml9 => ml = ml9 ∧ ((¬ ((0 ≤ A ∧ A ≤ 7) ∧ (0 ≤ B ∧ B ≤ 300) ∧ (0 ≤ C ∧ C ≤ 300)) ∧ u2 mi 61 5 1 = mi9) ∨ (((0 ≤ A ∧ A ≤ 7) ∧ (0 ≤ B ∧ B ≤ 300) ∧ (0 ≤ C ∧ C ≤ 300)) ∧ r = mi 62 0 ∧ ∃ mk, Kept (u2 mi 61 5 0) mk ∧ u2 (u2 (u2 (u2 mk 62 32 0) 62 0 a) 62 1 b) 62 2 c = mi9)))) noX) 0 0 0 [(0, .ref 61), (1, .int a), (2, .int b), (3, .int c)] [] (wl mi ml)
  refine E_aload_n 0 dX6_setProducts_0 rfl rfl ?_
  refine E_iload_n 1 dX6_setProducts_1 rfl rfl ?_
  refine E_iconst 0 (by decide) dX6_setProducts_2 ?_
  refine E_bipush 7 (by decide) dX6_setProducts_3 ?_
  refine E_callS (c_X6_in l hfl mi ml a 0 7 A 0 7 hA (show (0 : Int32).toInt = 0 from rfl) (show (7 : Int32).toInt = 7 from rfl)) cw_X6_53 (As := [.int a, .int 0, .int 7]) (st := [.ref 61]) ws_yX6_in rfl ⟨Nat.le_of_ble_eq_true rfl, Nat.le_of_ble_eq_true rfl, Nat.le_of_ble_eq_true rfl, Nat.le_of_ble_eq_true rfl⟩ (Nat.le_of_ble_eq_true rfl) dX6_setProducts_5 (fun _ _ h => h) rfl (kE ?_)
  refine B_eq 37 dX6_setProducts_8 (by decide) (fun c_8 => ?_) (fun c_8 => ?_)
  · skip
    refine E_iconst 1 (by decide) dX6_setProducts_37 ?_
    refine pf_X6_43 tw_61 rfl dX6_setProducts_38 ?_
    refine E_aload_n 0 dX6_setProducts_41 rfl rfl ?_
    refine gf_X6_43 1 tw_61 rfl (u2_s _ _ _ _) dX6_setProducts_42 ?_
    refine Y_eq 1 (show (1 : Int32).toInt = 1 from rfl) 50 dX6_setProducts_45 (by decide) (fun c_45 => ?_) (fun c_45 => ?_)
    · exact absurd c_45 (by decide)
    · skip
      refine E_iconst 0 (by decide) dX6_setProducts_48 ?_
      refine E_iret rfl (Nat.le_of_ble_eq_true rfl) (Nat.le_of_ble_eq_true rfl) dX6_setProducts_49 ?_
      exact okQI ⟨rfl, Or.inl ⟨by omega, rfl⟩⟩
  · skip
    refine E_iload_n 2 dX6_setProducts_11 rfl rfl ?_
    refine E_iconst 0 (by decide) dX6_setProducts_12 ?_
    refine E_sipush 300 (by decide) dX6_setProducts_13 ?_
    refine E_callS (c_X6_in l hfl mi ml b 0 300 B 0 300 hB (show (0 : Int32).toInt = 0 from rfl) (show (300 : Int32).toInt = 300 from rfl)) cw_X6_53 (As := [.int b, .int 0, .int 300]) (st := [.ref 61]) ws_yX6_in rfl ⟨Nat.le_of_ble_eq_true rfl, Nat.le_of_ble_eq_true rfl, Nat.le_of_ble_eq_true rfl, Nat.le_of_ble_eq_true rfl⟩ (Nat.le_of_ble_eq_true rfl) dX6_setProducts_16 (fun _ _ h => h) rfl (kE ?_)
    refine B_eq 37 dX6_setProducts_19 (by decide) (fun c_19 => ?_) (fun c_19 => ?_)
    · skip
      refine E_iconst 1 (by decide) dX6_setProducts_37 ?_
      refine pf_X6_43 tw_61 rfl dX6_setProducts_38 ?_
      refine E_aload_n 0 dX6_setProducts_41 rfl rfl ?_
      refine gf_X6_43 1 tw_61 rfl (u2_s _ _ _ _) dX6_setProducts_42 ?_
      refine Y_eq 1 (show (1 : Int32).toInt = 1 from rfl) 50 dX6_setProducts_45 (by decide) (fun c_45 => ?_) (fun c_45 => ?_)
      · exact absurd c_45 (by decide)
      · skip
        refine E_iconst 0 (by decide) dX6_setProducts_48 ?_
        refine E_iret rfl (Nat.le_of_ble_eq_true rfl) (Nat.le_of_ble_eq_true rfl) dX6_setProducts_49 ?_
        exact okQI ⟨rfl, Or.inl ⟨by omega, rfl⟩⟩
    · skip
      refine E_iload_n 3 dX6_setProducts_22 rfl rfl ?_
      refine E_iconst 0 (by decide) dX6_setProducts_23 ?_
      refine E_sipush 300 (by decide) dX6_setProducts_24 ?_
      refine E_callS (c_X6_in l hfl mi ml c 0 300 C 0 300 hC (show (0 : Int32).toInt = 0 from rfl) (show (300 : Int32).toInt = 300 from rfl)) cw_X6_53 (As := [.int c, .int 0, .int 300]) (st := [.ref 61]) ws_yX6_in rfl ⟨Nat.le_of_ble_eq_true rfl, Nat.le_of_ble_eq_true rfl, Nat.le_of_ble_eq_true rfl, Nat.le_of_ble_eq_true rfl⟩ (Nat.le_of_ble_eq_true rfl) dX6_setProducts_27 (fun _ _ h => h) rfl (kE ?_)
      refine B_eq 37 dX6_setProducts_30 (by decide) (fun c_30 => ?_) (fun c_30 => ?_)
      · skip
        refine E_iconst 1 (by decide) dX6_setProducts_37 ?_
        refine pf_X6_43 tw_61 rfl dX6_setProducts_38 ?_
        refine E_aload_n 0 dX6_setProducts_41 rfl rfl ?_
        refine gf_X6_43 1 tw_61 rfl (u2_s _ _ _ _) dX6_setProducts_42 ?_
        refine Y_eq 1 (show (1 : Int32).toInt = 1 from rfl) 50 dX6_setProducts_45 (by decide) (fun c_45 => ?_) (fun c_45 => ?_)
        · exact absurd c_45 (by decide)
        · skip
          refine E_iconst 0 (by decide) dX6_setProducts_48 ?_
          refine E_iret rfl (Nat.le_of_ble_eq_true rfl) (Nat.le_of_ble_eq_true rfl) dX6_setProducts_49 ?_
          exact okQI ⟨rfl, Or.inl ⟨by omega, rfl⟩⟩
      · skip
        refine E_iconst 0 (by decide) dX6_setProducts_33 ?_
        refine E_goto 38 dX6_setProducts_34 (by decide) ?_
        refine pf_X6_43 tw_61 rfl dX6_setProducts_38 ?_
        refine E_aload_n 0 dX6_setProducts_41 rfl rfl ?_
        refine gf_X6_43 0 tw_61 rfl (u2_s _ _ _ _) dX6_setProducts_42 ?_
        refine Y_eq 0 (show (0 : Int32).toInt = 0 from rfl) 50 dX6_setProducts_45 (by decide) (fun c_45 => ?_) (fun c_45 => ?_)
        · skip
          refine E_aload_n 0 dX6_setProducts_50 rfl rfl ?_
          refine E_callV (c_X6_change l hfl (u2 mi 61 5 0) ml sc ((congrArg Int32.toInt ((u2_n (by omega)).trans rfl)).trans hsc) (by omega)) cw_X6_72 (As := []) (st := []) wi_yX6_change we_yX6_change (ci := 6) (q := (RX6, TX6, 23)) rfl rfl (wl_atO tw_61) rfl ⟨Nat.le_of_ble_eq_true rfl, Nat.le_of_ble_eq_true rfl, Nat.le_of_ble_eq_true rfl, Nat.le_of_ble_eq_true rfl⟩ (Nat.le_of_ble_eq_true rfl) dX6_setProducts_51 (fun _ _ h => h) rfl (kV (fun mi_51 ml_51 h_51 => ?_))
          obtain ⟨mk_51, hK_51, rfl, rfl⟩ := h_51
          refine E_aload_n 0 dX6_setProducts_54 rfl rfl ?_
          refine gf_X6_7 tw_61 rfl dX6_setProducts_55 ?_
          refine E_iconst 0 (by decide) dX6_setProducts_58 ?_
          refine S_iald 0 (mk_51 62 0) tw_62 rfl (by decide) ((u2_n (by omega)).trans rfl) dX6_setProducts_59 ?_
          refine E_istore [(4, .int (mk_51 62 0)), (0, .ref 61), (1, .int a), (2, .int b), (3, .int c)] dX6_setProducts_60 (by decide) rfl ?_
          refine E_aload_n 1 dX6_setProducts_62 rfl rfl ?_
          refine gf_X6_7 tw_61 rfl dX6_setProducts_63 ?_
          refine E_iconst 0 (by decide) dX6_setProducts_66 ?_
          refine E_iload_n 2 dX6_setProducts_67 rfl rfl ?_
          refine S_iast 0 tw_62 rfl (by decide) dX6_setProducts_68 ?_
          refine E_aload_n 1 dX6_setProducts_69 rfl rfl ?_
          refine gf_X6_7 tw_61 rfl dX6_setProducts_70 ?_
          refine E_iconst 1 (by decide) dX6_setProducts_73 ?_
          refine E_iload_n 3 dX6_setProducts_74 rfl rfl ?_
          refine S_iast 1 tw_62 rfl (by decide) dX6_setProducts_75 ?_
          refine E_aload_n 1 dX6_setProducts_76 rfl rfl ?_
          refine gf_X6_7 tw_61 rfl dX6_setProducts_77 ?_
          refine E_iconst 2 (by decide) dX6_setProducts_80 ?_
          refine E_iload_n 4 dX6_setProducts_81 rfl rfl ?_
          refine S_iast 2 tw_62 rfl (by decide) dX6_setProducts_82 ?_
          refine E_iload 0 dX6_setProducts_83 rfl ?_
          refine E_iret rfl (Nat.le_of_ble_eq_true rfl) (Nat.le_of_ble_eq_true rfl) dX6_setProducts_85 ?_
          exact okQI ⟨rfl, Or.inr ⟨by omega, (by rw [hK_51.1 62 (by decide)]; exact u2_n (by decide)), _, hK_51, rfl⟩⟩
        · exact absurd c_45 (by decide)
set_option maxHeartbeats 1600000 in
set_option maxRecDepth 100000 in
theorem c_X6_setSpacing (l : Launch) (hfl : l.stackTraces = false) (mi : MI) (ml : MJ) (sc : Nat) (hsc : (mi 61 2).toInt = (sc : Int)) (h4 : sc ≤ 4) (a b : Int32) (A B : Int) (hA : a.toInt = A) (hB : b.toInt = B) : Ct l yX6_setSpacing (.code yX6_setSpacing cX6_setSpacing 4 (some .int)) 2 0 0 [.ref 61, .int a, .int b] (wl mi ml) (QI (fun r mi9 ml9 => ml = ml9 ∧ ((¬ ((0 ≤ A ∧ A ≤ 5) ∧ (1 ≤ B ∧ B ≤ 10)) ∧ u2 mi 61 5 1 = mi9) ∨ (((0 ≤ A ∧ A ≤ 5) ∧ (1 ≤ B ∧ B ≤ 10)) ∧ r = mi 62 3 ∧ ∃ mk, Kept (u2 mi 61 5 0) mk ∧ u2 (u2 (u2 mk 62 32 0) 62 3 a) 62 4 b = mi9)))) noX := by
  refine Ct_of (ini := false) pn_X6 hfl (fun h => nomatch h) (Nat.le_of_ble_eq_true rfl) ?_
  show E l RX6 cX6_setSpacing 4 (some .int) false [] (rmE 2 0 0) (wl mi ml) (TgM (wl mi ml) 0 0 (QI (fun r mi9 ml9 => ml = ml9 ∧ ((¬ ((0 ≤ A ∧ A ≤ 5) ∧ (1 ≤ B ∧ B ≤ 10)) ∧ u2 mi 61 5 1 = mi9) ∨ (((0 ≤ A ∧ A ≤ 5) ∧ (1 ≤ B ∧ B ≤ 10)) ∧ r = mi 62 3 ∧ ∃ mk, Kept (u2 mi 61 5 0) mk ∧ u2 (u2 (u2 mk 62 32 0) 62 3 a) 62 4 b = mi9)))) noX) 0 0 0 [(0, .ref 61), (1, .int a), (2, .int b)] [] (wl mi ml)
  refine E_aload_n 0 dX6_setSpacing_0 rfl rfl ?_
  refine E_iload_n 1 dX6_setSpacing_1 rfl rfl ?_
  refine E_iconst 0 (by decide) dX6_setSpacing_2 ?_
  refine E_iconst 5 (by decide) dX6_setSpacing_3 ?_
  refine E_callS (c_X6_in l hfl mi ml a 0 5 A 0 5 hA (show (0 : Int32).toInt = 0 from rfl) (show (5 : Int32).toInt = 5 from rfl)) cw_X6_53 (As := [.int a, .int 0, .int 5]) (st := [.ref 61]) ws_yX6_in rfl ⟨Nat.le_of_ble_eq_true rfl, Nat.le_of_ble_eq_true rfl, Nat.le_of_ble_eq_true rfl, Nat.le_of_ble_eq_true rfl⟩ (Nat.le_of_ble_eq_true rfl) dX6_setSpacing_4 (fun _ _ h => h) rfl (kE ?_)
  refine B_eq 24 dX6_setSpacing_7 (by decide) (fun c_7 => ?_) (fun c_7 => ?_)
  · skip
    refine E_iconst 1 (by decide) dX6_setSpacing_24 ?_
    refine pf_X6_43 tw_61 rfl dX6_setSpacing_25 ?_
    refine E_aload_n 0 dX6_setSpacing_28 rfl rfl ?_
    refine gf_X6_43 1 tw_61 rfl (u2_s _ _ _ _) dX6_setSpacing_29 ?_
    refine Y_eq 1 (show (1 : Int32).toInt = 1 from rfl) 37 dX6_setSpacing_32 (by decide) (fun c_32 => ?_) (fun c_32 => ?_)
    · exact absurd c_32 (by decide)
    · skip
      refine E_iconst 0 (by decide) dX6_setSpacing_35 ?_
      refine E_iret rfl (Nat.le_of_ble_eq_true rfl) (Nat.le_of_ble_eq_true rfl) dX6_setSpacing_36 ?_
      exact okQI ⟨rfl, Or.inl ⟨by omega, rfl⟩⟩
  · skip
    refine E_iload_n 2 dX6_setSpacing_10 rfl rfl ?_
    refine E_iconst 1 (by decide) dX6_setSpacing_11 ?_
    refine E_bipush 10 (by decide) dX6_setSpacing_12 ?_
    refine E_callS (c_X6_in l hfl mi ml b 1 10 B 1 10 hB (show (1 : Int32).toInt = 1 from rfl) (show (10 : Int32).toInt = 10 from rfl)) cw_X6_53 (As := [.int b, .int 1, .int 10]) (st := [.ref 61]) ws_yX6_in rfl ⟨Nat.le_of_ble_eq_true rfl, Nat.le_of_ble_eq_true rfl, Nat.le_of_ble_eq_true rfl, Nat.le_of_ble_eq_true rfl⟩ (Nat.le_of_ble_eq_true rfl) dX6_setSpacing_14 (fun _ _ h => h) rfl (kE ?_)
    refine B_eq 24 dX6_setSpacing_17 (by decide) (fun c_17 => ?_) (fun c_17 => ?_)
    · skip
      refine E_iconst 1 (by decide) dX6_setSpacing_24 ?_
      refine pf_X6_43 tw_61 rfl dX6_setSpacing_25 ?_
      refine E_aload_n 0 dX6_setSpacing_28 rfl rfl ?_
      refine gf_X6_43 1 tw_61 rfl (u2_s _ _ _ _) dX6_setSpacing_29 ?_
      refine Y_eq 1 (show (1 : Int32).toInt = 1 from rfl) 37 dX6_setSpacing_32 (by decide) (fun c_32 => ?_) (fun c_32 => ?_)
      · exact absurd c_32 (by decide)
      · skip
        refine E_iconst 0 (by decide) dX6_setSpacing_35 ?_
        refine E_iret rfl (Nat.le_of_ble_eq_true rfl) (Nat.le_of_ble_eq_true rfl) dX6_setSpacing_36 ?_
        exact okQI ⟨rfl, Or.inl ⟨by omega, rfl⟩⟩
    · skip
      refine E_iconst 0 (by decide) dX6_setSpacing_20 ?_
      refine E_goto 25 dX6_setSpacing_21 (by decide) ?_
      refine pf_X6_43 tw_61 rfl dX6_setSpacing_25 ?_
      refine E_aload_n 0 dX6_setSpacing_28 rfl rfl ?_
      refine gf_X6_43 0 tw_61 rfl (u2_s _ _ _ _) dX6_setSpacing_29 ?_
      refine Y_eq 0 (show (0 : Int32).toInt = 0 from rfl) 37 dX6_setSpacing_32 (by decide) (fun c_32 => ?_) (fun c_32 => ?_)
      · skip
        refine E_aload_n 0 dX6_setSpacing_37 rfl rfl ?_
        refine E_callV (c_X6_change l hfl (u2 mi 61 5 0) ml sc ((congrArg Int32.toInt ((u2_n (by omega)).trans rfl)).trans hsc) (by omega)) cw_X6_72 (As := []) (st := []) wi_yX6_change we_yX6_change (ci := 6) (q := (RX6, TX6, 23)) rfl rfl (wl_atO tw_61) rfl ⟨Nat.le_of_ble_eq_true rfl, Nat.le_of_ble_eq_true rfl, Nat.le_of_ble_eq_true rfl, Nat.le_of_ble_eq_true rfl⟩ (Nat.le_of_ble_eq_true rfl) dX6_setSpacing_38 (fun _ _ h => h) rfl (kV (fun mi_38 ml_38 h_38 => ?_))
        obtain ⟨mk_38, hK_38, rfl, rfl⟩ := h_38
        refine E_aload_n 0 dX6_setSpacing_41 rfl rfl ?_
        refine gf_X6_7 tw_61 rfl dX6_setSpacing_42 ?_
        refine E_iconst 3 (by decide) dX6_setSpacing_45 ?_
        refine S_iald 3 (mk_38 62 3) tw_62 rfl (by decide) ((u2_n (by omega)).trans rfl) dX6_setSpacing_46 ?_
        refine E_istore_n [(3, .int (mk_38 62 3)), (0, .ref 61), (1, .int a), (2, .int b)] dX6_setSpacing_47 rfl (by decide) rfl ?_
        refine E_aload_n 1 dX6_setSpacing_48 rfl rfl ?_
        refine gf_X6_7 tw_61 rfl dX6_setSpacing_49 ?_
        refine E_iconst 3 (by decide) dX6_setSpacing_52 ?_
        refine E_iload_n 2 dX6_setSpacing_53 rfl rfl ?_
        refine S_iast 3 tw_62 rfl (by decide) dX6_setSpacing_54 ?_
        refine E_aload_n 1 dX6_setSpacing_55 rfl rfl ?_
        refine gf_X6_7 tw_61 rfl dX6_setSpacing_56 ?_
        refine E_iconst 4 (by decide) dX6_setSpacing_59 ?_
        refine E_iload_n 3 dX6_setSpacing_60 rfl rfl ?_
        refine S_iast 4 tw_62 rfl (by decide) dX6_setSpacing_61 ?_
        refine E_iload_n 0 dX6_setSpacing_62 rfl rfl ?_
        refine E_iret rfl (Nat.le_of_ble_eq_true rfl) (Nat.le_of_ble_eq_true rfl) dX6_setSpacing_63 ?_
        exact okQI ⟨rfl, Or.inr ⟨by omega, (by rw [hK_38.1 62 (by decide)]; exact u2_n (by decide)), _, hK_38, rfl⟩⟩
      · exact absurd c_32 (by decide)
set_option maxHeartbeats 1600000 in
set_option maxRecDepth 100000 in
theorem c_X6_size (l : Launch) (hfl : l.stackTraces = false) (mi : MI) (ml : MJ) (a : Int32) (A : Int) (hA : a.toInt = A) : Ct l yX6_size (.code yX6_size cX6_size 2 (some .int)) 1 0 0 [.ref 61, .int a] (wl mi ml) (QI (fun r mi9 ml9 => ml = ml9 ∧ ((¬ (0 ≤ A ∧ A ≤ 2) ∧ u2 mi 61 5 1 = mi9) ∨ ((0 ≤ A ∧ A ≤ 2) ∧ u2 mi 61 5 0 = mi9 ∧ ((A = 0 ∧ r = mi 62 5) ∨ (A = 1 ∧ r = mi 62 26) ∨ (A = 2 ∧ r = mi 62 32)))))) noX := by
  refine Ct_of (ini := false) pn_X6 hfl (fun h => nomatch h) (Nat.le_of_ble_eq_true rfl) ?_
  show E l RX6 cX6_size 2 (some .int) false [] (rmE 1 0 0) (wl mi ml) (TgM (wl mi ml) 0 0 (QI (fun r mi9 ml9 => ml = ml9 ∧ ((¬ (0 ≤ A ∧ A ≤ 2) ∧ u2 mi 61 5 1 = mi9) ∨ ((0 ≤ A ∧ A ≤ 2) ∧ u2 mi 61 5 0 = mi9 ∧ ((A = 0 ∧ r = mi 62 5) ∨ (A = 1 ∧ r = mi 62 26) ∨ (A = 2 ∧ r = mi 62 32)))))) noX) 0 0 0 [(0, .ref 61), (1, .int a)] [] (wl mi ml)
  refine E_aload_n 0 dX6_size_0 rfl rfl ?_
  refine E_iload_n 1 dX6_size_1 rfl rfl ?_
  refine E_iconst 0 (by decide) dX6_size_2 ?_
  refine E_iconst 2 (by decide) dX6_size_3 ?_
  refine E_callS (c_X6_in l hfl mi ml a 0 2 A 0 2 hA (show (0 : Int32).toInt = 0 from rfl) (show (2 : Int32).toInt = 2 from rfl)) cw_X6_53 (As := [.int a, .int 0, .int 2]) (st := [.ref 61]) ws_yX6_in rfl ⟨Nat.le_of_ble_eq_true rfl, Nat.le_of_ble_eq_true rfl, Nat.le_of_ble_eq_true rfl, Nat.le_of_ble_eq_true rfl⟩ (Nat.le_of_ble_eq_true rfl) dX6_size_4 (fun _ _ h => h) rfl (kE ?_)
  refine B_eq 14 dX6_size_7 (by decide) (fun c_7 => ?_) (fun c_7 => ?_)
  · skip
    refine E_iconst 1 (by decide) dX6_size_14 ?_
    refine pf_X6_43 tw_61 rfl dX6_size_15 ?_
    refine E_aload_n 0 dX6_size_18 rfl rfl ?_
    refine gf_X6_43 1 tw_61 rfl (u2_s _ _ _ _) dX6_size_19 ?_
    refine Y_eq 1 (show (1 : Int32).toInt = 1 from rfl) 27 dX6_size_22 (by decide) (fun c_22 => ?_) (fun c_22 => ?_)
    · exact absurd c_22 (by decide)
    · skip
      refine E_iconst 0 (by decide) dX6_size_25 ?_
      refine E_iret rfl (Nat.le_of_ble_eq_true rfl) (Nat.le_of_ble_eq_true rfl) dX6_size_26 ?_
      exact okQI ⟨rfl, Or.inl ⟨c_7, rfl⟩⟩
  · skip
    refine E_iconst 0 (by decide) dX6_size_10 ?_
    refine E_goto 15 dX6_size_11 (by decide) ?_
    refine pf_X6_43 tw_61 rfl dX6_size_15 ?_
    refine E_aload_n 0 dX6_size_18 rfl rfl ?_
    refine gf_X6_43 0 tw_61 rfl (u2_s _ _ _ _) dX6_size_19 ?_
    refine Y_eq 0 (show (0 : Int32).toInt = 0 from rfl) 27 dX6_size_22 (by decide) (fun c_22 => ?_) (fun c_22 => ?_)
    · skip
      refine E_iload_n 1 dX6_size_27 rfl rfl ?_
      refine Y_ne A hA 40 dX6_size_28 (by decide) (fun c_28 => ?_) (fun c_28 => ?_)
      · skip
        refine E_iload_n 1 dX6_size_40 rfl rfl ?_
        refine E_iconst 1 (by decide) dX6_size_41 ?_
        refine Z_ne A 1 hA (show (1 : Int32).toInt = 1 from rfl) 55 dX6_size_42 (by decide) (fun c_42 => ?_) (fun c_42 => ?_)
        · skip
          refine E_aload_n 0 dX6_size_55 rfl rfl ?_
          refine gf_X6_7 tw_61 rfl dX6_size_56 ?_
          refine E_bipush 32 (by decide) dX6_size_59 ?_
          refine S_iald 32 (mi 62 32) tw_62 rfl (by decide) ((u2_n (by omega)).trans rfl) dX6_size_61 ?_
          refine E_iret rfl (Nat.le_of_ble_eq_true rfl) (Nat.le_of_ble_eq_true rfl) dX6_size_62 ?_
          exact okQI ⟨rfl, Or.inr ⟨c_7, rfl, Or.inr (Or.inr ⟨by omega, rfl⟩)⟩⟩
        · skip
          refine E_aload_n 0 dX6_size_45 rfl rfl ?_
          refine gf_X6_7 tw_61 rfl dX6_size_46 ?_
          refine E_bipush 26 (by decide) dX6_size_49 ?_
          refine S_iald 26 (mi 62 26) tw_62 rfl (by decide) ((u2_n (by omega)).trans rfl) dX6_size_51 ?_
          refine E_goto 62 dX6_size_52 (by decide) ?_
          refine E_iret rfl (Nat.le_of_ble_eq_true rfl) (Nat.le_of_ble_eq_true rfl) dX6_size_62 ?_
          exact okQI ⟨rfl, Or.inr ⟨c_7, rfl, Or.inr (Or.inl ⟨by omega, rfl⟩)⟩⟩
      · skip
        refine E_aload_n 0 dX6_size_31 rfl rfl ?_
        refine gf_X6_7 tw_61 rfl dX6_size_32 ?_
        refine E_iconst 5 (by decide) dX6_size_35 ?_
        refine S_iald 5 (mi 62 5) tw_62 rfl (by decide) ((u2_n (by omega)).trans rfl) dX6_size_36 ?_
        refine E_goto 62 dX6_size_37 (by decide) ?_
        refine E_iret rfl (Nat.le_of_ble_eq_true rfl) (Nat.le_of_ble_eq_true rfl) dX6_size_62 ?_
        exact okQI ⟨rfl, Or.inr ⟨c_7, rfl, Or.inl ⟨by omega, rfl⟩⟩⟩
    · exact absurd c_22 (by decide)
set_option maxHeartbeats 1600000 in
set_option maxRecDepth 100000 in
theorem c_X6_carrier (l : Launch) (hfl : l.stackTraces = false) (mi : MI) (ml : MJ) (n : Nat) (hn : (mi 62 5).toInt = (n : Int)) (h10 : n ≤ 10) (a : Int32) (A : Int) (hA : a.toInt = A) (P : Prop) : Ct l yX6_carrier (.code yX6_carrier cX6_carrier 3 (some .int)) 2 0 0 [.ref 61, .int a, .int (bI (P))] (wl mi ml) (QI (fun r mi9 ml9 => ml = ml9 ∧ ((¬ (0 ≤ A ∧ A ≤ (n : Int) - 1) ∧ u2 mi 61 5 1 = mi9) ∨ (u2 mi 61 5 0 = mi9 ∧ ∃ b : Nat, b < n ∧ A = (b : Int) ∧ ((P ∧ r = mi 62 (7 + 2 * b)) ∨ (¬ P ∧ r = mi 62 (6 + 2 * b))))))) noX := by
  refine Ct_of (ini := false) pn_X6 hfl (fun h => nomatch h) (Nat.le_of_ble_eq_true rfl) ?_
  show E l RX6 cX6_carrier 3 (some .int) false [] (rmE 2 0 0) (wl mi ml) (TgM (wl mi ml) 0 0 (QI (fun r mi9 ml9 => ml = ml9 ∧ ((¬ (0 ≤ A ∧ A ≤ (n : Int) - 1) ∧ u2 mi 61 5 1 = mi9) ∨ (u2 mi 61 5 0 = mi9 ∧ ∃ b : Nat, b < n ∧ A = (b : Int) ∧ ((P ∧ r = mi 62 (7 + 2 * b)) ∨ (¬ P ∧ r = mi 62 (6 + 2 * b))))))) noX) 0 0 0 [(0, .ref 61), (1, .int a), (2, .int (bI (P)))] [] (wl mi ml)
  refine E_aload_n 0 dX6_carrier_0 rfl rfl ?_
  refine E_aload_n 0 dX6_carrier_1 rfl rfl ?_
  refine E_iload_n 1 dX6_carrier_2 rfl rfl ?_
  refine E_callV (c_X6_isCarrier l hfl mi ml n hn (by omega) a A hA) cw_X6_79 (As := [.int a]) (st := [.ref 61]) wi_yX6_isCarrier we_yX6_isCarrier (ci := 6) (q := (RX6, TX6, 23)) rfl rfl (wl_atO tw_61) rfl ⟨Nat.le_of_ble_eq_true rfl, Nat.le_of_ble_eq_true rfl, Nat.le_of_ble_eq_true rfl, Nat.le_of_ble_eq_true rfl⟩ (Nat.le_of_ble_eq_true rfl) dX6_carrier_3 (fun _ _ h => h) rfl (kE ?_)
  refine B_eq 13 dX6_carrier_6 (by decide) (fun c_6 => ?_) (fun c_6 => ?_)
  · skip
    refine E_iconst 1 (by decide) dX6_carrier_13 ?_
    refine pf_X6_43 tw_61 rfl dX6_carrier_14 ?_
    refine E_aload_n 0 dX6_carrier_17 rfl rfl ?_
    refine gf_X6_43 1 tw_61 rfl (u2_s _ _ _ _) dX6_carrier_18 ?_
    refine Y_eq 1 (show (1 : Int32).toInt = 1 from rfl) 28 dX6_carrier_21 (by decide) (fun c_21 => ?_) (fun c_21 => ?_)
    · exact absurd c_21 (by decide)
    · skip
      refine E_iconst 0 (by decide) dX6_carrier_24 ?_
      refine E_goto 45 dX6_carrier_25 (by decide) ?_
      refine E_iret rfl (Nat.le_of_ble_eq_true rfl) (Nat.le_of_ble_eq_true rfl) dX6_carrier_45 ?_
      exact okQI ⟨rfl, Or.inl ⟨c_6, rfl⟩⟩
  · skip
    refine E_iconst 0 (by decide) dX6_carrier_9 ?_
    refine E_goto 14 dX6_carrier_10 (by decide) ?_
    refine pf_X6_43 tw_61 rfl dX6_carrier_14 ?_
    refine E_aload_n 0 dX6_carrier_17 rfl rfl ?_
    refine gf_X6_43 0 tw_61 rfl (u2_s _ _ _ _) dX6_carrier_18 ?_
    refine Y_eq 0 (show (0 : Int32).toInt = 0 from rfl) 28 dX6_carrier_21 (by decide) (fun c_21 => ?_) (fun c_21 => ?_)
    · skip
      obtain ⟨b, rfl⟩ : ∃ b : Nat, A = (b : Int) := ⟨A.toNat, by omega⟩
      refine E_iload_n 2 dX6_carrier_28 rfl rfl ?_
      refine B_eq 40 dX6_carrier_29 (by decide) (fun c_29 => ?_) (fun c_29 => ?_)
      · skip
        refine E_aload_n 0 dX6_carrier_40 rfl rfl ?_
        refine E_iload_n 1 dX6_carrier_41 rfl rfl ?_
        refine E_callV (c_X6_channelOf l hfl (u2 mi 61 5 0) ml a b (hA.trans (by omega)) (by omega)) cw_X6_57 (As := [.int a]) (st := []) wi_yX6_channelOf we_yX6_channelOf (ci := 6) (q := (RX6, TX6, 23)) rfl rfl (wl_atO tw_61) rfl ⟨Nat.le_of_ble_eq_true rfl, Nat.le_of_ble_eq_true rfl, Nat.le_of_ble_eq_true rfl, Nat.le_of_ble_eq_true rfl⟩ (Nat.le_of_ble_eq_true rfl) dX6_carrier_42 (fun _ _ h => h) rfl (kE ?_)
        rw [show (u2 mi 61 5 0) 62 (6 + 2 * b) = (mi 62 (6 + 2 * b)) from ((u2_n (by omega)).trans rfl)]
        refine E_iret rfl (Nat.le_of_ble_eq_true rfl) (Nat.le_of_ble_eq_true rfl) dX6_carrier_45 ?_
        exact okQI ⟨rfl, Or.inr ⟨rfl, b, by omega, rfl, Or.inr ⟨c_29, rfl⟩⟩⟩
      · skip
        refine E_aload_n 0 dX6_carrier_32 rfl rfl ?_
        refine E_iload_n 1 dX6_carrier_33 rfl rfl ?_
        refine E_callV (c_X6_levelOf l hfl (u2 mi 61 5 0) ml a b (hA.trans (by omega)) (by omega)) cw_X6_82 (As := [.int a]) (st := []) wi_yX6_levelOf we_yX6_levelOf (ci := 6) (q := (RX6, TX6, 23)) rfl rfl (wl_atO tw_61) rfl ⟨Nat.le_of_ble_eq_true rfl, Nat.le_of_ble_eq_true rfl, Nat.le_of_ble_eq_true rfl, Nat.le_of_ble_eq_true rfl⟩ (Nat.le_of_ble_eq_true rfl) dX6_carrier_34 (fun _ _ h => h) rfl (kE ?_)
        rw [show (u2 mi 61 5 0) 62 (7 + 2 * b) = (mi 62 (7 + 2 * b)) from ((u2_n (by omega)).trans rfl)]
        refine E_goto 45 dX6_carrier_37 (by decide) ?_
        refine E_iret rfl (Nat.le_of_ble_eq_true rfl) (Nat.le_of_ble_eq_true rfl) dX6_carrier_45 ?_
        exact okQI ⟨rfl, Or.inr ⟨rfl, b, by omega, rfl, Or.inl ⟨c_29, rfl⟩⟩⟩
    · exact absurd c_21 (by decide)
/-- the channels of n carriers, as bits -/
def chS (f : Nat → Int32) : Nat → Int64
  | 0 => 0
  | n + 1 => chS f n ||| ((1 : Int64) <<< ((f n).toInt64 &&& 63))
theorem chS_c {f g : Nat → Int32} : ∀ {n : Nat}, (∀ j, j < n → f j = g j) → chS f n = chS g n
  | 0, _ => rfl
  | n + 1, h => by rw [chS, chS, chS_c (fun j hj => h j (by omega)), h n (by omega)]
set_option maxHeartbeats 1600000 in
set_option maxRecDepth 100000 in
theorem c_X6_channels (l : Launch) (hfl : l.stackTraces = false) (mi : MI) (ml : MJ) (n : Nat) (hn : (mi 62 5).toInt = (n : Int)) (h10 : n ≤ 10) : Ct l yX6_channels (.code yX6_channels cX6_channels 4 (some .long)) 1 0 0 [.ref 61] (wl mi ml) (QP (some (.long (chS (fun j => mi 62 (6 + 2 * j)) n))) (wl (u2 mi 61 5 0) ml)) noX := by
  refine Ct_of (ini := false) pn_X6 hfl (fun h => nomatch h) (Nat.le_of_ble_eq_true rfl) ?_
  show E l RX6 cX6_channels 4 (some .long) false [] (rmE 1 0 0) (wl mi ml) (TgM (wl mi ml) 0 0 (QP (some (.long (chS (fun j => mi 62 (6 + 2 * j)) n))) (wl (u2 mi 61 5 0) ml)) noX) 0 0 0 [(0, .ref 61)] [] (wl mi ml)
  refine E_aload_n 0 dX6_channels_0 rfl rfl ?_
  refine E_iconst 0 (by decide) dX6_channels_1 ?_
  refine pf_X6_43 tw_61 rfl dX6_channels_2 ?_
  refine E_lconst 0 rfl dX6_channels_5 ?_
  refine E_lstore_n [(1, .long 0), (0, .ref 61)] dX6_channels_6 rfl (by decide) rfl ?_
  refine E_iconst 0 (by decide) dX6_channels_7 ?_
  refine E_istore_n [(3, .int 0), (1, .long 0), (0, .ref 61)] dX6_channels_8 rfl (by decide) rfl ?_
  have J9 : ∀ (N : Nat) (xi : Int32) (a : Int64) (i : Nat), n - i < N → xi.toInt = (i : Int) → i ≤ n → a = chS (fun j => mi 62 (6 + 2 * j)) i → E l RX6 cX6_channels 4 (some .long) false [] (rmE 1 0 0) (wl mi ml) (TgM (wl mi ml) 0 0 (QP (some (.long (chS (fun j => mi 62 (6 + 2 * j)) n))) (wl (u2 mi 61 5 0) ml)) noX) 0 0 9 [(0, .ref 61), (1, .long a), (3, .int xi)] [] (wl (u2 mi 61 5 0) ml) := by
    intro N
    induction N with
    | zero => intros; omega
    | succ N ih9 =>
      intro xi a i hN9 hxi hi ha
      refine E_iload_n 2 dX6_channels_9 rfl rfl ?_
      refine E_aload_n 0 dX6_channels_10 rfl rfl ?_
      refine gf_X6_7 tw_61 rfl dX6_channels_11 ?_
      refine E_iconst 5 (by decide) dX6_channels_14 ?_
      refine S_iald 5 (mi 62 5) tw_62 rfl (by decide) ((u2_n (by omega)).trans rfl) dX6_channels_15 ?_
      refine Z_ge (i : Int) (n : Int) hxi hn 35 dX6_channels_16 (by decide) (fun c_16 => ?_) (fun c_16 => ?_)
      · skip
        refine E_lload_n 1 dX6_channels_35 rfl rfl ?_
        refine E_lret rfl (Nat.le_of_ble_eq_true rfl) (Nat.le_of_ble_eq_true rfl) dX6_channels_36 ?_
        exact okPJ (by rw [ha, show i = n by omega])
      · skip
        refine E_lload_n 1 dX6_channels_19 rfl rfl ?_
        refine E_lconst 1 rfl dX6_channels_20 ?_
        refine E_aload_n 0 dX6_channels_21 rfl rfl ?_
        refine E_iload_n 2 dX6_channels_22 rfl rfl ?_
        refine E_callV (c_X6_channelOf l hfl (u2 mi 61 5 0) ml xi i (hxi.trans (by omega)) (by omega)) cw_X6_57 (As := [.int xi]) (st := [.long 1, .long a]) wi_yX6_channelOf we_yX6_channelOf (ci := 6) (q := (RX6, TX6, 23)) rfl rfl (wl_atO tw_61) rfl ⟨Nat.le_of_ble_eq_true rfl, Nat.le_of_ble_eq_true rfl, Nat.le_of_ble_eq_true rfl, Nat.le_of_ble_eq_true rfl⟩ (Nat.le_of_ble_eq_true rfl) dX6_channels_23 (fun _ _ h => h) rfl (kE ?_)
        rw [show (u2 mi 61 5 0) 62 (6 + 2 * i) = (mi 62 (6 + 2 * i)) from ((u2_n (by omega)).trans rfl)]
        refine E_lshl dX6_channels_26 ?_
        refine E_lor dX6_channels_27 ?_
        refine E_lstore_n [(1, .long (a ||| (1 <<< ((mi 62 (6 + 2 * i)).toInt64 &&& 63)))), (0, .ref 61), (3, .int xi)] dX6_channels_28 rfl (by decide) rfl ?_
        refine E_iinc 2 (xi + 1) [(3, .int (xi + 1)), (1, .long (a ||| (1 <<< ((mi 62 (6 + 2 * i)).toInt64 &&& 63)))), (0, .ref 61)] dX6_channels_29 rfl rfl (by decide) rfl ?_
        refine E_goto 9 dX6_channels_32 (by decide) ?_
        refine E_sub [2, 1, 0] rfl ?_
        exact ih9 (xi + 1) (a ||| (1 <<< ((mi 62 (6 + 2 * i)).toInt64 &&& 63))) (i + 1) (by omega) ((tI_add hxi (show (1 : Int32).toInt = 1 from rfl) (by omega)).trans (by omega)) (by omega) (by rw [ha]; rfl)
  refine E_sub [2, 1, 0] rfl ?_
  exact J9 _ 0 0 0 (Nat.lt_succ_self _) (show (0 : Int32).toInt = 0 from rfl) (Nat.zero_le _) rfl
set_option maxHeartbeats 1600000 in
set_option maxRecDepth 100000 in
theorem c_X6_mixer (l : Launch) (hfl : l.stackTraces = false) (mi : MI) (ml : MJ) (n : Nat) (hn : (mi 62 26).toInt = (n : Int)) (h10 : n ≤ 5) (a : Int32) (A : Int) (hA : a.toInt = A) : Ct l yX6_mixer (.code yX6_mixer cX6_mixer 2 (some .int)) 2 0 0 [.ref 61, .int a] (wl mi ml) (QI (fun r mi9 ml9 => ml = ml9 ∧ ((¬ (0 ≤ A ∧ A ≤ (n : Int) - 1) ∧ u2 mi 61 5 1 = mi9) ∨ (u2 mi 61 5 0 = mi9 ∧ ∃ b : Nat, b < n ∧ A = (b : Int) ∧ r = mi 62 (27 + b))))) noX := by
  refine Ct_of (ini := false) pn_X6 hfl (fun h => nomatch h) (Nat.le_of_ble_eq_true rfl) ?_
  show E l RX6 cX6_mixer 2 (some .int) false [] (rmE 2 0 0) (wl mi ml) (TgM (wl mi ml) 0 0 (QI (fun r mi9 ml9 => ml = ml9 ∧ ((¬ (0 ≤ A ∧ A ≤ (n : Int) - 1) ∧ u2 mi 61 5 1 = mi9) ∨ (u2 mi 61 5 0 = mi9 ∧ ∃ b : Nat, b < n ∧ A = (b : Int) ∧ r = mi 62 (27 + b))))) noX) 0 0 0 [(0, .ref 61), (1, .int a)] [] (wl mi ml)
  refine E_aload_n 0 dX6_mixer_0 rfl rfl ?_
  refine E_aload_n 0 dX6_mixer_1 rfl rfl ?_
  refine E_iload_n 1 dX6_mixer_2 rfl rfl ?_
  refine E_callV (c_X6_isMixer l hfl mi ml n hn (by omega) a A hA) cw_X6_158 (As := [.int a]) (st := [.ref 61]) wi_yX6_isMixer we_yX6_isMixer (ci := 6) (q := (RX6, TX6, 23)) rfl rfl (wl_atO tw_61) rfl ⟨Nat.le_of_ble_eq_true rfl, Nat.le_of_ble_eq_true rfl, Nat.le_of_ble_eq_true rfl, Nat.le_of_ble_eq_true rfl⟩ (Nat.le_of_ble_eq_true rfl) dX6_mixer_3 (fun _ _ h => h) rfl (kE ?_)
  refine B_eq 13 dX6_mixer_6 (by decide) (fun c_6 => ?_) (fun c_6 => ?_)
  · skip
    refine E_iconst 1 (by decide) dX6_mixer_13 ?_
    refine pf_X6_43 tw_61 rfl dX6_mixer_14 ?_
    refine E_aload_n 0 dX6_mixer_17 rfl rfl ?_
    refine gf_X6_43 1 tw_61 rfl (u2_s _ _ _ _) dX6_mixer_18 ?_
    refine Y_eq 1 (show (1 : Int32).toInt = 1 from rfl) 28 dX6_mixer_21 (by decide) (fun c_21 => ?_) (fun c_21 => ?_)
    · exact absurd c_21 (by decide)
    · skip
      refine E_iconst 0 (by decide) dX6_mixer_24 ?_
      refine E_goto 37 dX6_mixer_25 (by decide) ?_
      refine E_iret rfl (Nat.le_of_ble_eq_true rfl) (Nat.le_of_ble_eq_true rfl) dX6_mixer_37 ?_
      exact okQI ⟨rfl, Or.inl ⟨c_6, rfl⟩⟩
  · skip
    refine E_iconst 0 (by decide) dX6_mixer_9 ?_
    refine E_goto 14 dX6_mixer_10 (by decide) ?_
    refine pf_X6_43 tw_61 rfl dX6_mixer_14 ?_
    refine E_aload_n 0 dX6_mixer_17 rfl rfl ?_
    refine gf_X6_43 0 tw_61 rfl (u2_s _ _ _ _) dX6_mixer_18 ?_
    refine Y_eq 0 (show (0 : Int32).toInt = 0 from rfl) 28 dX6_mixer_21 (by decide) (fun c_21 => ?_) (fun c_21 => ?_)
    · skip
      obtain ⟨b, rfl⟩ : ∃ b : Nat, A = (b : Int) := ⟨A.toNat, by omega⟩
      refine E_aload_n 0 dX6_mixer_28 rfl rfl ?_
      refine gf_X6_7 tw_61 rfl dX6_mixer_29 ?_
      refine E_bipush 27 (by decide) dX6_mixer_32 ?_
      refine E_iload_n 1 dX6_mixer_34 rfl rfl ?_
      refine E_iadd dX6_mixer_35 ?_
      refine S_iald (27 + b) (mi 62 (27 + b)) tw_62 ((tI_add (show (27 : Int32).toInt = 27 from rfl) hA (by omega)).trans (by omega)) (by omega) ((u2_n (by omega)).trans rfl) dX6_mixer_36 ?_
      refine E_iret rfl (Nat.le_of_ble_eq_true rfl) (Nat.le_of_ble_eq_true rfl) dX6_mixer_37 ?_
      exact okQI ⟨rfl, Or.inr ⟨rfl, b, by omega, rfl, rfl⟩⟩
    · exact absurd c_21 (by decide)
set_option maxHeartbeats 1600000 in
set_option maxRecDepth 100000 in
theorem c_X6_test (l : Launch) (hfl : l.stackTraces = false) (mi : MI) (ml : MJ) (n : Nat) (hn : (mi 62 32).toInt = (n : Int)) (h10 : n ≤ 16) (a b : Int32) (A B : Int) (hA : a.toInt = A) (hB : b.toInt = B) : Ct l yX6_test (.code yX6_test cX6_test 3 (some .int)) 1 0 0 [.ref 61, .int a, .int b] (wl mi ml) (QI (fun r mi9 ml9 => ml = ml9 ∧ ((¬ (0 ≤ A ∧ A ≤ (n : Int) - 1) ∧ u2 mi 61 5 1 = mi9) ∨ ((0 ≤ A ∧ A ≤ (n : Int) - 1) ∧ ¬ (0 ≤ B ∧ B ≤ 2) ∧ u2 mi 61 5 2 = mi9) ∨ (u2 mi 61 5 0 = mi9 ∧ ∃ (t q : Nat), t < n ∧ q < 3 ∧ A = (t : Int) ∧ B = (q : Int) ∧ r = mi 62 ((33 : Nat) + 3 * t + q))))) noX := by
  refine Ct_of (ini := false) pn_X6 hfl (fun h => nomatch h) (Nat.le_of_ble_eq_true rfl) ?_
  show E l RX6 cX6_test 3 (some .int) false [] (rmE 1 0 0) (wl mi ml) (TgM (wl mi ml) 0 0 (QI (fun r mi9 ml9 => ml = ml9 ∧ ((¬ (0 ≤ A ∧ A ≤ (n : Int) - 1) ∧ u2 mi 61 5 1 = mi9) ∨ ((0 ≤ A ∧ A ≤ (n : Int) - 1) ∧ ¬ (0 ≤ B ∧ B ≤ 2) ∧ u2 mi 61 5 2 = mi9) ∨ (u2 mi 61 5 0 = mi9 ∧ ∃ (t q : Nat), t < n ∧ q < 3 ∧ A = (t : Int) ∧ B = (q : Int) ∧ r = mi 62 ((33 : Nat) + 3 * t + q))))) noX) 0 0 0 [(0, .ref 61), (1, .int a), (2, .int b)] [] (wl mi ml)
  refine E_aload_n 0 dX6_test_0 rfl rfl ?_
  refine E_iload_n 1 dX6_test_1 rfl rfl ?_
  refine E_iconst 0 (by decide) dX6_test_2 ?_
  refine E_aload_n 0 dX6_test_3 rfl rfl ?_
  refine gf_X6_7 tw_61 rfl dX6_test_4 ?_
  refine E_bipush 32 (by decide) dX6_test_7 ?_
  refine S_iald 32 (mi 62 32) tw_62 rfl (by decide) rfl dX6_test_9 ?_
  refine E_iconst 1 (by decide) dX6_test_10 ?_
  refine E_isub dX6_test_11 ?_
  refine E_callS (c_X6_in l hfl mi ml a 0 ((mi 62 32) - 1) A 0 ((n : Int) - 1) hA (show (0 : Int32).toInt = 0 from rfl) (tI_sub hn (show (1 : Int32).toInt = 1 from rfl) (by omega))) cw_X6_53 (As := [.int a, .int 0, .int ((mi 62 32) - 1)]) (st := [.ref 61]) ws_yX6_in rfl ⟨Nat.le_of_ble_eq_true rfl, Nat.le_of_ble_eq_true rfl, Nat.le_of_ble_eq_true rfl, Nat.le_of_ble_eq_true rfl⟩ (Nat.le_of_ble_eq_true rfl) dX6_test_12 (fun _ _ h => h) rfl (kE ?_)
  refine B_ne 22 dX6_test_15 (by decide) (fun c_15 => ?_) (fun c_15 => ?_)
  · skip
    refine E_iload_n 2 dX6_test_22 rfl rfl ?_
    refine E_iconst 0 (by decide) dX6_test_23 ?_
    refine E_iconst 2 (by decide) dX6_test_24 ?_
    refine E_callS (c_X6_in l hfl mi ml b 0 2 B 0 2 hB (show (0 : Int32).toInt = 0 from rfl) (show (2 : Int32).toInt = 2 from rfl)) cw_X6_53 (As := [.int b, .int 0, .int 2]) (st := [.ref 61]) ws_yX6_in rfl ⟨Nat.le_of_ble_eq_true rfl, Nat.le_of_ble_eq_true rfl, Nat.le_of_ble_eq_true rfl, Nat.le_of_ble_eq_true rfl⟩ (Nat.le_of_ble_eq_true rfl) dX6_test_25 (fun _ _ h => h) rfl (kE ?_)
    refine B_ne 35 dX6_test_28 (by decide) (fun c_28 => ?_) (fun c_28 => ?_)
    · skip
      refine E_iconst 0 (by decide) dX6_test_35 ?_
      refine pf_X6_43 tw_61 rfl dX6_test_36 ?_
      refine E_aload_n 0 dX6_test_39 rfl rfl ?_
      refine gf_X6_43 0 tw_61 rfl (u2_s _ _ _ _) dX6_test_40 ?_
      refine Y_eq 0 (show (0 : Int32).toInt = 0 from rfl) 50 dX6_test_43 (by decide) (fun c_43 => ?_) (fun c_43 => ?_)
      · skip
        obtain ⟨t, rfl⟩ : ∃ t : Nat, A = (t : Int) := ⟨A.toNat, by omega⟩
        obtain ⟨q, rfl⟩ : ∃ q : Nat, B = (q : Int) := ⟨B.toNat, by omega⟩
        refine E_aload_n 0 dX6_test_50 rfl rfl ?_
        refine gf_X6_7 tw_61 rfl dX6_test_51 ?_
        refine E_bipush 33 (by decide) dX6_test_54 ?_
        refine E_iconst 3 (by decide) dX6_test_56 ?_
        refine E_iload_n 1 dX6_test_57 rfl rfl ?_
        refine E_imul dX6_test_58 ?_
        refine E_iadd dX6_test_59 ?_
        refine E_iload_n 2 dX6_test_60 rfl rfl ?_
        refine E_iadd dX6_test_61 ?_
        refine S_iald ((33 : Nat) + 3 * t + q) (mi 62 ((33 : Nat) + 3 * t + q)) tw_62 ((tI_add (tI_add (show (33 : Int32).toInt = 33 from rfl) (tI_mul (show (3 : Int32).toInt = 3 from rfl) hA (by omega)) (by omega)) hB (by omega)).trans (by omega)) (by omega) ((u2_n (by omega)).trans rfl) dX6_test_62 ?_
        refine E_iret rfl (Nat.le_of_ble_eq_true rfl) (Nat.le_of_ble_eq_true rfl) dX6_test_63 ?_
        exact okQI ⟨rfl, Or.inr (Or.inr ⟨rfl, t, q, by omega, by omega, rfl, rfl, rfl⟩)⟩
      · exact absurd c_43 (by decide)
    · skip
      refine E_iconst 2 (by decide) dX6_test_31 ?_
      refine E_goto 36 dX6_test_32 (by decide) ?_
      refine pf_X6_43 tw_61 rfl dX6_test_36 ?_
      refine E_aload_n 0 dX6_test_39 rfl rfl ?_
      refine gf_X6_43 2 tw_61 rfl (u2_s _ _ _ _) dX6_test_40 ?_
      refine Y_eq 2 (show (2 : Int32).toInt = 2 from rfl) 50 dX6_test_43 (by decide) (fun c_43 => ?_) (fun c_43 => ?_)
      · exact absurd c_43 (by decide)
      · skip
        refine E_iconst 0 (by decide) dX6_test_46 ?_
        refine E_goto 63 dX6_test_47 (by decide) ?_
        refine E_iret rfl (Nat.le_of_ble_eq_true rfl) (Nat.le_of_ble_eq_true rfl) dX6_test_63 ?_
        exact okQI ⟨rfl, Or.inr (Or.inl ⟨c_15, c_28, rfl⟩)⟩
  · skip
    refine E_iconst 1 (by decide) dX6_test_18 ?_
    refine E_goto 36 dX6_test_19 (by decide) ?_
    refine pf_X6_43 tw_61 rfl dX6_test_36 ?_
    refine E_aload_n 0 dX6_test_39 rfl rfl ?_
    refine gf_X6_43 1 tw_61 rfl (u2_s _ _ _ _) dX6_test_40 ?_
    refine Y_eq 1 (show (1 : Int32).toInt = 1 from rfl) 50 dX6_test_43 (by decide) (fun c_43 => ?_) (fun c_43 => ?_)
    · exact absurd c_43 (by decide)
    · skip
      refine E_iconst 0 (by decide) dX6_test_46 ?_
      refine E_goto 63 dX6_test_47 (by decide) ?_
      refine E_iret rfl (Nat.le_of_ble_eq_true rfl) (Nat.le_of_ble_eq_true rfl) dX6_test_63 ?_
      exact okQI ⟨rfl, Or.inl ⟨c_15, rfl⟩⟩
set_option maxHeartbeats 1600000 in
set_option maxRecDepth 100000 in
theorem c_X6_append (l : Launch) (hfl : l.stackTraces = false) (mi : MI) (ml : MJ) (n : Nat) (hn : (mi 61 4).toInt = (n : Int)) (h10 : n ≤ 120) (a : Int32) (A : Int) (hA : a.toInt = A) : Ct l yX6_append (.code yX6_append cX6_append 2 (some .int)) 1 0 0 [.ref 61, .int a] (wl mi ml) (QI (fun r mi9 ml9 => ml = ml9 ∧ ((¬ (0 ≤ A ∧ A ≤ 127) ∧ u2 mi 61 5 1 = mi9) ∨ ((0 ≤ A ∧ A ≤ 127) ∧ n = 120 ∧ u2 mi 61 5 2 = mi9) ∨ ((0 ≤ A ∧ A ≤ 127) ∧ n < 120 ∧ r.toInt = (n : Int) + 1 ∧ u2 (u2 (u2 mi 61 5 0) 64 n a) 61 4 r = mi9)))) noX := by
  refine Ct_of (ini := false) pn_X6 hfl (fun h => nomatch h) (Nat.le_of_ble_eq_true rfl) ?_
  show E l RX6 cX6_append 2 (some .int) false [] (rmE 1 0 0) (wl mi ml) (TgM (wl mi ml) 0 0 (QI (fun r mi9 ml9 => ml = ml9 ∧ ((¬ (0 ≤ A ∧ A ≤ 127) ∧ u2 mi 61 5 1 = mi9) ∨ ((0 ≤ A ∧ A ≤ 127) ∧ n = 120 ∧ u2 mi 61 5 2 = mi9) ∨ ((0 ≤ A ∧ A ≤ 127) ∧ n < 120 ∧ r.toInt = (n : Int) + 1 ∧ u2 (u2 (u2 mi 61 5 0) 64 n a) 61 4 r = mi9)))) noX) 0 0 0 [(0, .ref 61), (1, .int a)] [] (wl mi ml)
  refine E_aload_n 0 dX6_append_0 rfl rfl ?_
  refine E_iload_n 1 dX6_append_1 rfl rfl ?_
  refine E_iconst 0 (by decide) dX6_append_2 ?_
  refine E_bipush 127 (by decide) dX6_append_3 ?_
  refine E_callS (c_X6_in l hfl mi ml a 0 127 A 0 127 hA (show (0 : Int32).toInt = 0 from rfl) (show (127 : Int32).toInt = 127 from rfl)) cw_X6_53 (As := [.int a, .int 0, .int 127]) (st := [.ref 61]) ws_yX6_in rfl ⟨Nat.le_of_ble_eq_true rfl, Nat.le_of_ble_eq_true rfl, Nat.le_of_ble_eq_true rfl, Nat.le_of_ble_eq_true rfl⟩ (Nat.le_of_ble_eq_true rfl) dX6_append_5 (fun _ _ h => h) rfl (kE ?_)
  refine B_ne 15 dX6_append_8 (by decide) (fun c_8 => ?_) (fun c_8 => ?_)
  · skip
    refine E_aload_n 0 dX6_append_15 rfl rfl ?_
    refine gf_X6_174 (mi 61 4) tw_61 rfl rfl dX6_append_16 ?_
    refine E_bipush 120 (by decide) dX6_append_19 ?_
    refine Z_ne (n : Int) 120 hn (show (120 : Int32).toInt = 120 from rfl) 28 dX6_append_21 (by decide) (fun c_21 => ?_) (fun c_21 => ?_)
    · skip
      refine E_iconst 0 (by decide) dX6_append_28 ?_
      refine pf_X6_43 tw_61 rfl dX6_append_29 ?_
      refine E_aload_n 0 dX6_append_32 rfl rfl ?_
      refine gf_X6_43 0 tw_61 rfl (u2_s _ _ _ _) dX6_append_33 ?_
      refine Y_eq 0 (show (0 : Int32).toInt = 0 from rfl) 41 dX6_append_36 (by decide) (fun c_36 => ?_) (fun c_36 => ?_)
      · skip
        refine E_aload_n 0 dX6_append_41 rfl rfl ?_
        refine gf_X6_16 tw_61 rfl dX6_append_42 ?_
        refine E_aload_n 0 dX6_append_45 rfl rfl ?_
        refine gf_X6_174 (mi 61 4) tw_61 rfl ((u2_n (by omega)).trans rfl) dX6_append_46 ?_
        refine E_iload_n 1 dX6_append_49 rfl rfl ?_
        refine S_iast n tw_64 (hn.trans (by omega)) (by omega) dX6_append_50 ?_
        refine E_aload_n 0 dX6_append_51 rfl rfl ?_
        refine E_dup rfl dX6_append_52 ?_
        refine gf_X6_174 (mi 61 4) tw_61 rfl ((u2_n (by omega)).trans ((u2_n (by omega)).trans rfl)) dX6_append_53 ?_
        refine E_iconst 1 (by decide) dX6_append_56 ?_
        refine E_iadd dX6_append_57 ?_
        refine pf_X6_174 tw_61 rfl dX6_append_58 ?_
        refine E_aload_n 0 dX6_append_61 rfl rfl ?_
        refine gf_X6_174 ((mi 61 4) + 1) tw_61 rfl (u2_s _ _ _ _) dX6_append_62 ?_
        refine E_iret rfl (Nat.le_of_ble_eq_true rfl) (Nat.le_of_ble_eq_true rfl) dX6_append_65 ?_
        exact okQI ⟨rfl, Or.inr (Or.inr ⟨c_8, by omega, (tI_add hn (show (1 : Int32).toInt = 1 from rfl) (by omega)), rfl⟩)⟩
      · exact absurd c_36 (by decide)
    · skip
      refine E_iconst 2 (by decide) dX6_append_24 ?_
      refine E_goto 29 dX6_append_25 (by decide) ?_
      refine pf_X6_43 tw_61 rfl dX6_append_29 ?_
      refine E_aload_n 0 dX6_append_32 rfl rfl ?_
      refine gf_X6_43 2 tw_61 rfl (u2_s _ _ _ _) dX6_append_33 ?_
      refine Y_eq 2 (show (2 : Int32).toInt = 2 from rfl) 41 dX6_append_36 (by decide) (fun c_36 => ?_) (fun c_36 => ?_)
      · exact absurd c_36 (by decide)
      · skip
        refine E_iconst 0 (by decide) dX6_append_39 ?_
        refine E_iret rfl (Nat.le_of_ble_eq_true rfl) (Nat.le_of_ble_eq_true rfl) dX6_append_40 ?_
        exact okQI ⟨rfl, Or.inr (Or.inl ⟨c_8, by omega, rfl⟩)⟩
  · skip
    refine E_iconst 1 (by decide) dX6_append_11 ?_
    refine E_goto 29 dX6_append_12 (by decide) ?_
    refine pf_X6_43 tw_61 rfl dX6_append_29 ?_
    refine E_aload_n 0 dX6_append_32 rfl rfl ?_
    refine gf_X6_43 1 tw_61 rfl (u2_s _ _ _ _) dX6_append_33 ?_
    refine Y_eq 1 (show (1 : Int32).toInt = 1 from rfl) 41 dX6_append_36 (by decide) (fun c_36 => ?_) (fun c_36 => ?_)
    · exact absurd c_36 (by decide)
    · skip
      refine E_iconst 0 (by decide) dX6_append_39 ?_
      refine E_iret rfl (Nat.le_of_ble_eq_true rfl) (Nat.le_of_ble_eq_true rfl) dX6_append_40 ?_
      exact okQI ⟨rfl, Or.inl ⟨c_8, rfl⟩⟩
set_option maxHeartbeats 1600000 in
set_option maxRecDepth 100000 in
theorem c_X6_clearText (l : Launch) (hfl : l.stackTraces = false) (mi : MI) (ml : MJ) : Ct l yX6_clearText (.code yX6_clearText cX6_clearText 2 (some .int)) 0 0 0 [.ref 61] (wl mi ml) (QP (some (.int (mi 61 4))) (wl (u2 (u2 mi 61 5 0) 61 4 0) ml)) noX := by
  refine Ct_of (ini := false) pn_X6 hfl (fun h => nomatch h) (Nat.le_of_ble_eq_true rfl) ?_
  show E l RX6 cX6_clearText 2 (some .int) false [] (rmE 0 0 0) (wl mi ml) (TgM (wl mi ml) 0 0 (QP (some (.int (mi 61 4))) (wl (u2 (u2 mi 61 5 0) 61 4 0) ml)) noX) 0 0 0 [(0, .ref 61)] [] (wl mi ml)
  refine E_aload_n 0 dX6_clearText_0 rfl rfl ?_
  refine E_iconst 0 (by decide) dX6_clearText_1 ?_
  refine pf_X6_43 tw_61 rfl dX6_clearText_2 ?_
  refine E_aload_n 0 dX6_clearText_5 rfl rfl ?_
  refine gf_X6_174 (mi 61 4) tw_61 rfl ((u2_n (by omega)).trans rfl) dX6_clearText_6 ?_
  refine E_istore_n [(1, .int (mi 61 4)), (0, .ref 61)] dX6_clearText_9 rfl (by decide) rfl ?_
  refine E_aload_n 1 dX6_clearText_10 rfl rfl ?_
  refine E_iconst 0 (by decide) dX6_clearText_11 ?_
  refine pf_X6_174 tw_61 rfl dX6_clearText_12 ?_
  refine E_iload_n 0 dX6_clearText_15 rfl rfl ?_
  refine E_iret rfl (Nat.le_of_ble_eq_true rfl) (Nat.le_of_ble_eq_true rfl) dX6_clearText_16 ?_
  exact okP rfl
set_option maxHeartbeats 1600000 in
set_option maxRecDepth 100000 in
theorem c_X6_undo (l : Launch) (hfl : l.stackTraces = false) (mi : MI) (ml : MJ) (sc : Nat) (hsc : (mi 61 2).toInt = (sc : Int)) (h4 : sc ≤ 4) : Ct l yX6_undo (.code yX6_undo cX6_undo 2 (some .int)) 0 0 0 [.ref 61] (wl mi ml) (QI (fun r mi9 ml9 => ml = ml9 ∧ ((sc = 0 ∧ u2 mi 61 5 1 = mi9) ∨ (0 < sc ∧ r.toInt = (sc : Int) - 1 ∧ Fr [61, 62] mi mi9 ∧ mi9 61 5 = 0 ∧ mi9 61 2 = r ∧ (∀ k, k ≠ 2 → k ≠ 5 → mi9 61 k = mi 61 k) ∧ ∀ k, k < 81 → mi9 62 k = mi 63 (81 * (sc - 1) + k))))) noX := by
  refine Ct_of (ini := false) pn_X6 hfl (fun h => nomatch h) (Nat.le_of_ble_eq_true rfl) ?_
  show E l RX6 cX6_undo 2 (some .int) false [] (rmE 0 0 0) (wl mi ml) (TgM (wl mi ml) 0 0 (QI (fun r mi9 ml9 => ml = ml9 ∧ ((sc = 0 ∧ u2 mi 61 5 1 = mi9) ∨ (0 < sc ∧ r.toInt = (sc : Int) - 1 ∧ Fr [61, 62] mi mi9 ∧ mi9 61 5 = 0 ∧ mi9 61 2 = r ∧ (∀ k, k ≠ 2 → k ≠ 5 → mi9 61 k = mi 61 k) ∧ ∀ k, k < 81 → mi9 62 k = mi 63 (81 * (sc - 1) + k))))) noX) 0 0 0 [(0, .ref 61)] [] (wl mi ml)
  refine E_aload_n 0 dX6_undo_0 rfl rfl ?_
  refine E_aload_n 0 dX6_undo_1 rfl rfl ?_
  refine gf_X6_47 (mi 61 2) tw_61 rfl rfl dX6_undo_2 ?_
  refine Y_ne (sc : Int) hsc 12 dX6_undo_5 (by decide) (fun c_5 => ?_) (fun c_5 => ?_)
  · skip
    refine E_iconst 0 (by decide) dX6_undo_12 ?_
    refine pf_X6_43 tw_61 rfl dX6_undo_13 ?_
    refine E_aload_n 0 dX6_undo_16 rfl rfl ?_
    refine gf_X6_43 0 tw_61 rfl (u2_s _ _ _ _) dX6_undo_17 ?_
    refine Y_eq 0 (show (0 : Int32).toInt = 0 from rfl) 25 dX6_undo_20 (by decide) (fun c_20 => ?_) (fun c_20 => ?_)
    · skip
      obtain ⟨s, hs1⟩ : ∃ s : Nat, sc = s + 1 := ⟨sc - 1, by omega⟩
      refine E_aload_n 0 dX6_undo_25 rfl rfl ?_
      refine E_dup rfl dX6_undo_26 ?_
      refine gf_X6_47 (mi 61 2) tw_61 rfl ((u2_n (by omega)).trans rfl) dX6_undo_27 ?_
      refine E_iconst 1 (by decide) dX6_undo_30 ?_
      refine E_isub dX6_undo_31 ?_
      refine pf_X6_47 tw_61 rfl dX6_undo_32 ?_
      refine E_iconst 0 (by decide) dX6_undo_35 ?_
      refine E_istore_n [(1, .int 0), (0, .ref 61)] dX6_undo_36 rfl (by decide) rfl ?_
      have J37 : ∀ (N : Nat) (xi x : Int32) (i : Nat) (mj : MI), 81 - i < N → xi.toInt = (i : Int) → x.toInt = (s : Int) → i ≤ 81 → Fr [62] (u2 (u2 mi 61 5 0) 61 2 x) mj → (∀ k, k < i → mj 62 k = mi 63 (81 * s + k)) → E l RX6 cX6_undo 2 (some .int) false [] (rmE 0 0 0) (wl mi ml) (TgM (wl mi ml) 0 0 (QI (fun r mi9 ml9 => ml = ml9 ∧ ((sc = 0 ∧ u2 mi 61 5 1 = mi9) ∨ (0 < sc ∧ r.toInt = (sc : Int) - 1 ∧ Fr [61, 62] mi mi9 ∧ mi9 61 5 = 0 ∧ mi9 61 2 = r ∧ (∀ k, k ≠ 2 → k ≠ 5 → mi9 61 k = mi 61 k) ∧ ∀ k, k < 81 → mi9 62 k = mi 63 (81 * (sc - 1) + k))))) noX) 0 0 37 [(0, .ref 61), (1, .int xi)] [] (wl mj ml) := by
        intro N
        induction N with
        | zero => intros; omega
        | succ N ih37 =>
          intro xi x i mj hN37 hxi hx hi hF h2
          have hs2 : mj 61 2 = x := by rw [hF 61 (by decide)]; exact u2_s _ _ _ _
          refine E_iload_n 1 dX6_undo_37 rfl rfl ?_
          refine E_bipush 81 (by decide) dX6_undo_38 ?_
          refine Z_ge (i : Int) 81 hxi (show (81 : Int32).toInt = 81 from rfl) 69 dX6_undo_40 (by decide) (fun c_40 => ?_) (fun c_40 => ?_)
          · skip
            refine E_aload_n 0 dX6_undo_69 rfl rfl ?_
            refine gf_X6_47 x tw_61 rfl hs2 dX6_undo_70 ?_
            refine E_iret rfl (Nat.le_of_ble_eq_true rfl) (Nat.le_of_ble_eq_true rfl) dX6_undo_73 ?_
            exact okQI ⟨rfl, Or.inr ⟨by omega, hx.trans (by omega), fun p hp => (hF p (fun q => hp (by simp at q; simp [q]))).trans ((u2_p (fun e => hp (by rw [e]; decide))).trans (u2_p (fun e => hp (by rw [e]; decide)))), by rw [hF 61 (by decide), u2_n (by omega), u2_s], hs2, fun k h1 h5 => by rw [hF 61 (by decide), u2_n (by omega), u2_n (by omega)], fun k hk => (h2 k (by omega)).trans (by rw [hs1, Nat.add_sub_cancel])⟩⟩
          · skip
            refine E_aload_n 0 dX6_undo_43 rfl rfl ?_
            refine gf_X6_7 tw_61 rfl dX6_undo_44 ?_
            refine E_iload_n 1 dX6_undo_47 rfl rfl ?_
            refine E_aload_n 0 dX6_undo_48 rfl rfl ?_
            refine gf_X6_13 tw_61 rfl dX6_undo_49 ?_
            refine E_bipush 81 (by decide) dX6_undo_52 ?_
            refine E_aload_n 0 dX6_undo_54 rfl rfl ?_
            refine gf_X6_47 x tw_61 rfl hs2 dX6_undo_55 ?_
            refine E_imul dX6_undo_58 ?_
            refine E_iload_n 1 dX6_undo_59 rfl rfl ?_
            refine E_iadd dX6_undo_60 ?_
            refine S_iald ((81 * s) + i) (mj 63 ((81 * s) + i)) tw_63 ((tI_add (tI_mul (show (81 : Int32).toInt = 81 from rfl) hx (by omega)) hxi (by omega)).trans (by omega)) (by omega) rfl dX6_undo_61 ?_
            refine S_iast i tw_62 (hxi.trans (by omega)) (by omega) dX6_undo_62 ?_
            refine E_iinc 1 (xi + 1) [(1, .int (xi + 1)), (0, .ref 61)] dX6_undo_63 rfl rfl (by decide) rfl ?_
            refine E_goto 37 dX6_undo_66 (by decide) ?_
            refine E_sub [1, 0] rfl ?_
            exact ih37 (xi + 1) x (i + 1) (u2 mj 62 i (mj 63 ((81 * s) + i))) (by omega) ((tI_add hxi (show (1 : Int32).toInt = 1 from rfl) (by omega)).trans (by omega)) hx (by omega) (hF.u (by decide)) (lt_s (fun k hk => (u2_n (by omega)).trans (h2 k hk)) ((u2_s _ _ _ _).trans (by rw [hF 63 (by decide), u2_n (by omega), u2_n (by omega)])))
      refine E_sub [1, 0] rfl ?_
      exact J37 _ 0 ((mi 61 2) - 1) 0 (u2 (u2 mi 61 5 0) 61 2 ((mi 61 2) - 1)) (Nat.lt_succ_self _) (show (0 : Int32).toInt = 0 from rfl) ((tI_sub hsc (show (1 : Int32).toInt = 1 from rfl) (by omega)).trans (by omega)) (by omega) Fr.rfl' (fun k h => absurd h (Nat.not_lt_zero k))
    · exact absurd c_20 (by decide)
  · skip
    refine E_iconst 1 (by decide) dX6_undo_8 ?_
    refine E_goto 13 dX6_undo_9 (by decide) ?_
    refine pf_X6_43 tw_61 rfl dX6_undo_13 ?_
    refine E_aload_n 0 dX6_undo_16 rfl rfl ?_
    refine gf_X6_43 1 tw_61 rfl (u2_s _ _ _ _) dX6_undo_17 ?_
    refine Y_eq 1 (show (1 : Int32).toInt = 1 from rfl) 25 dX6_undo_20 (by decide) (fun c_20 => ?_) (fun c_20 => ?_)
    · exact absurd c_20 (by decide)
    · skip
      refine E_iconst 0 (by decide) dX6_undo_23 ?_
      refine E_iret rfl (Nat.le_of_ble_eq_true rfl) (Nat.le_of_ble_eq_true rfl) dX6_undo_24 ?_
      exact okQI ⟨rfl, Or.inl ⟨by omega, rfl⟩⟩
end MO4
