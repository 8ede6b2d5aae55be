section CL2
set_option maxHeartbeats 1600000 in
set_option maxRecDepth 100000 in
theorem c_X0_start (l : Launch) (hfl : l.stackTraces = false) (mi : MI) (ml : MJ) (V : Nat → Int32) (hV : WFV V) (hD : DR 1 mi V) (hz : ml 56 0 = 0 ∧ ml 57 0 = 0) : Ct l yX0_start (.code yX0_start cX0_start 2 none) 0 0 0 [.ref 53, .ref 1] (wl mi ml) (QV (fun mi9 ml9 => ml = ml9 ∧ Fr [53] mi mi9 ∧ ∀ D : RD, (D.1 = (V 0).toInt.toNat ∧ D.2.1 = (V 1).toInt ∧ D.2.2.1 = (V 2).toInt) → CSI mi9 ml D (V 3).toInt (V 4).toInt 0)) noX := by
  refine Ct_of (ini := false) pn_X0 hfl (fun h => nomatch h) (Nat.le_of_ble_eq_true rfl) ?_
  show E l RX0 cX0_start 2 none false [] (rmE 0 0 0) (wl mi ml) (TgM (wl mi ml) 0 0 (QV (fun mi9 ml9 => ml = ml9 ∧ Fr [53] mi mi9 ∧ ∀ D : RD, (D.1 = (V 0).toInt.toNat ∧ D.2.1 = (V 1).toInt ∧ D.2.2.1 = (V 2).toInt) → CSI mi9 ml D (V 3).toInt (V 4).toInt 0)) noX) 0 0 0 [(0, .ref 53), (1, .ref 1)] [] (wl mi ml)
  refine E_aload_n 0 dX0_start_0 rfl rfl ?_
  refine E_iconst 0 (by decide) dX0_start_1 ?_
  refine pf_X0_25 tw_53 rfl dX0_start_2 ?_
  refine E_aload_n 0 dX0_start_5 rfl rfl ?_
  refine E_aload_n 1 dX0_start_6 rfl rfl ?_
  refine gf_X0_29 (V 0) isD_1.t rfl ((u2_n (by omega)).trans hD.1.1) dX0_start_7 ?_
  refine pf_X0_34 tw_53 rfl dX0_start_10 ?_
  refine E_aload_n 0 dX0_start_13 rfl rfl ?_
  refine E_aload_n 1 dX0_start_14 rfl rfl ?_
  refine gf_X0_35 (V 1) isD_1.t rfl ((u2_n (by omega)).trans ((u2_n (by omega)).trans hD.1.2.1)) dX0_start_15 ?_
  refine pf_X0_38 tw_53 rfl dX0_start_18 ?_
  refine E_aload_n 0 dX0_start_21 rfl rfl ?_
  refine E_aload_n 1 dX0_start_22 rfl rfl ?_
  refine gf_X0_39 (V 2) isD_1.t rfl ((u2_n (by omega)).trans ((u2_n (by omega)).trans ((u2_n (by omega)).trans hD.1.2.2.1))) dX0_start_23 ?_
  refine pf_X0_42 tw_53 rfl dX0_start_26 ?_
  refine E_aload_n 0 dX0_start_29 rfl rfl ?_
  refine E_aload_n 1 dX0_start_30 rfl rfl ?_
  refine gf_X0_43 (V 3) isD_1.t rfl ((u2_n (by omega)).trans ((u2_n (by omega)).trans ((u2_n (by omega)).trans ((u2_n (by omega)).trans hD.1.2.2.2.1)))) dX0_start_31 ?_
  refine pf_X0_46 tw_53 rfl dX0_start_34 ?_
  refine E_aload_n 0 dX0_start_37 rfl rfl ?_
  refine E_aload_n 1 dX0_start_38 rfl rfl ?_
  refine gf_X0_47 (V 4) isD_1.t rfl ((u2_n (by omega)).trans ((u2_n (by omega)).trans ((u2_n (by omega)).trans ((u2_n (by omega)).trans ((u2_n (by omega)).trans hD.1.2.2.2.2))))) dX0_start_39 ?_
  refine pf_X0_50 tw_53 rfl dX0_start_42 ?_
  refine E_vret rfl (Nat.le_of_ble_eq_true rfl) (Nat.le_of_ble_eq_true rfl) dX0_start_45 ?_
  exact okQV ⟨rfl, ((((((Fr_r.u (by decide)).u (by decide)).u (by decide)).u (by decide)).u (by decide)).u (by decide)), fun D hd => CSI_0 hV hz hd (((u2_n (by omega)).trans ((u2_n (by omega)).trans ((u2_n (by omega)).trans ((u2_n (by omega)).trans ((u2_n (by omega)).trans (u2_s _ _ _ _))))))) (((u2_n (by omega)).trans ((u2_n (by omega)).trans ((u2_n (by omega)).trans ((u2_n (by omega)).trans (u2_s _ _ _ _)))))) (((u2_n (by omega)).trans ((u2_n (by omega)).trans ((u2_n (by omega)).trans (u2_s _ _ _ _))))) (((u2_n (by omega)).trans ((u2_n (by omega)).trans (u2_s _ _ _ _)))) (((u2_n (by omega)).trans (u2_s _ _ _ _))) ((u2_s _ _ _ _))⟩
set_option maxHeartbeats 1600000 in
set_option maxRecDepth 100000 in
theorem c_X0_bitOf (l : Launch) (hfl : l.stackTraces = false) (mi : MI) (ml : MJ) (x y : Int32) (X Y : Int) (hX : x.toInt = X) (hY : y.toInt = Y) : Ct l yX0_bitOf (.code yX0_bitOf cX0_bitOf 2 (some .long)) 1 0 0 [.int x, .int y] (wl mi ml) (QJ (fun r mi9 ml9 => mi = mi9 ∧ ml = ml9 ∧ Bt r (fun c => X = (c : Int) ∧ 0 ≤ Y))) noX := by
  refine Ct_of (ini := false) pn_X0 hfl (fun h => nomatch h) (Nat.le_of_ble_eq_true rfl) ?_
  show E l RX0 cX0_bitOf 2 (some .long) false [] (rmE 1 0 0) (wl mi ml) (TgM (wl mi ml) 0 0 (QJ (fun r mi9 ml9 => mi = mi9 ∧ ml = ml9 ∧ Bt r (fun c => X = (c : Int) ∧ 0 ≤ Y))) noX) 0 0 0 [(0, .int x), (1, .int y)] [] (wl mi ml)
  refine E_iload_n 0 dX0_bitOf_0 rfl rfl ?_
  refine E_callSN (c_X5_isChannel l hfl mi ml x X hX) cw_X0_79 (As := [.int x]) (st := []) ws_yX5_isChannel rfl ⟨Nat.le_of_ble_eq_true rfl, Nat.le_of_ble_eq_true rfl, Nat.le_of_ble_eq_true rfl, Nat.le_of_ble_eq_true rfl⟩ (Nat.le_of_ble_eq_true rfl) dX0_bitOf_1 (fun _ _ h => h) rfl (kE ?_)
  refine B_eq 17 dX0_bitOf_4 (by decide) (fun c_4 => ?_) (fun c_4 => ?_)
  · skip
    refine E_lconst 0 rfl dX0_bitOf_17 ?_
    refine E_lret rfl (Nat.le_of_ble_eq_true rfl) (Nat.le_of_ble_eq_true rfl) dX0_bitOf_18 ?_
    exact okQJ ⟨rfl, rfl, Bt_0.iff (fun c hc => ⟨fun z => z.elim, fun z => c_4 (by omega)⟩)⟩
  · skip
    refine E_iload_n 1 dX0_bitOf_7 rfl rfl ?_
    refine Y_lt Y hY 17 dX0_bitOf_8 (by decide) (fun c_8 => ?_) (fun c_8 => ?_)
    · skip
      refine E_lconst 0 rfl dX0_bitOf_17 ?_
      refine E_lret rfl (Nat.le_of_ble_eq_true rfl) (Nat.le_of_ble_eq_true rfl) dX0_bitOf_18 ?_
      exact okQJ ⟨rfl, rfl, Bt_0.iff (fun c hc => ⟨fun z => z.elim, fun z => by omega⟩)⟩
    · skip
      refine E_lconst 1 rfl dX0_bitOf_11 ?_
      refine E_iload_n 0 dX0_bitOf_12 rfl rfl ?_
      refine E_lshl dX0_bitOf_13 ?_
      refine E_goto 18 dX0_bitOf_14 (by decide) ?_
      refine E_lret rfl (Nat.le_of_ble_eq_true rfl) (Nat.le_of_ble_eq_true rfl) dX0_bitOf_18 ?_
      exact okQJ ⟨rfl, rfl, (Bt_one (c := X.toNat) (hX.trans (by omega)) (by omega)).iff (fun c hc => by omega)⟩
set_option maxHeartbeats 1600000 in
set_option maxRecDepth 100000 in
theorem c_X0_guardedBy (l : Launch) (hfl : l.stackTraces = false) (mi : MI) (ml : MJ) (D : RD) (g sp : Int) (N : Nat) (hC : CSI mi ml D g sp N) (hR : RgD D g sp (N + 1)) (hN : N < 11) (x : Int32) (hx : x.toInt = D.2.2.2.1 N) : Ct l yX0_guardedBy (.code yX0_guardedBy cX0_guardedBy 5 (some .long)) 0 0 0 [.ref 53, .int x] (wl mi ml) (QJ (fun r mi9 ml9 => mi = mi9 ∧ ml = ml9 ∧ Bt r (fun c => (0 - g) ≤ ((c : Int) - D.2.2.2.1 N) ∧ ((c : Int) - D.2.2.2.1 N) ≤ g))) noX := by
  refine Ct_of (ini := false) pn_X0 hfl (fun h => nomatch h) (Nat.le_of_ble_eq_true rfl) ?_
  show E l RX0 cX0_guardedBy 5 (some .long) false [] (rmE 0 0 0) (wl mi ml) (TgM (wl mi ml) 0 0 (QJ (fun r mi9 ml9 => mi = mi9 ∧ ml = ml9 ∧ Bt r (fun c => (0 - g) ≤ ((c : Int) - D.2.2.2.1 N) ∧ ((c : Int) - D.2.2.2.1 N) ≤ g))) noX) 0 0 0 [(0, .ref 53), (1, .int x)] [] (wl mi ml)
  have hr := hR.1
  have hb := hR.2 N (by omega)
  refine E_lconst 1 rfl dX0_guardedBy_0 ?_
  refine E_iconst 2 (by decide) dX0_guardedBy_1 ?_
  refine E_aload_n 0 dX0_guardedBy_2 rfl rfl ?_
  refine gf_X0_46 (mi 53 8) tw_53 rfl rfl dX0_guardedBy_3 ?_
  refine E_imul dX0_guardedBy_6 ?_
  refine E_iconst 1 (by decide) dX0_guardedBy_7 ?_
  refine E_iadd dX0_guardedBy_8 ?_
  refine E_lshl dX0_guardedBy_9 ?_
  refine E_lconst 1 rfl dX0_guardedBy_10 ?_
  refine E_lsub dX0_guardedBy_11 ?_
  refine E_lstore_n [(2, .long ((1 <<< (((2 * (mi 53 8)) + 1).toInt64 &&& 63)) - 1)), (0, .ref 53), (1, .int x)] dX0_guardedBy_12 rfl (by decide) rfl ?_
  refine E_iload_n 2 dX0_guardedBy_13 rfl rfl ?_
  refine E_aload_n 1 dX0_guardedBy_14 rfl rfl ?_
  refine gf_X0_46 (mi 53 8) tw_53 rfl rfl dX0_guardedBy_15 ?_
  refine E_isub dX0_guardedBy_18 ?_
  refine E_istore [(4, .int (x - (mi 53 8))), (2, .long ((1 <<< (((2 * (mi 53 8)) + 1).toInt64 &&& 63)) - 1)), (0, .ref 53), (1, .int x)] dX0_guardedBy_19 (by decide) rfl ?_
  refine E_iload 0 dX0_guardedBy_21 rfl ?_
  refine Y_lt ((D.2.2.2.1 N) - g) (tI_sub hx hC.2.1.2.2.2.1 (by omega)) 33 dX0_guardedBy_23 (by decide) (fun c_23 => ?_) (fun c_23 => ?_)
  · skip
    refine E_lload_n 1 dX0_guardedBy_33 rfl rfl ?_
    refine E_iload 0 dX0_guardedBy_34 rfl ?_
    refine E_ineg dX0_guardedBy_36 ?_
    refine E_lushr dX0_guardedBy_37 ?_
    refine E_lret rfl (Nat.le_of_ble_eq_true rfl) (Nat.le_of_ble_eq_true rfl) dX0_guardedBy_38 ?_
    exact okQJ ⟨rfl, rfl, gb_n hx hC.2.1.2.2.2.1 hb.1 hr.2.2.2.1 c_23⟩
  · skip
    refine E_lload_n 1 dX0_guardedBy_26 rfl rfl ?_
    refine E_iload 0 dX0_guardedBy_27 rfl ?_
    refine E_lshl dX0_guardedBy_29 ?_
    refine E_goto 38 dX0_guardedBy_30 (by decide) ?_
    refine E_lret rfl (Nat.le_of_ble_eq_true rfl) (Nat.le_of_ble_eq_true rfl) dX0_guardedBy_38 ?_
    exact okQJ ⟨rfl, rfl, gb_p hx hC.2.1.2.2.2.1 hb.1 hr.2.2.2.1 c_23⟩
set_option maxHeartbeats 1600000 in
set_option maxRecDepth 100000 in
theorem c_X0_isCrowded (l : Launch) (hfl : l.stackTraces = false) (mi : MI) (ml : MJ) (D : RD) (g sp : Int) (N : Nat) (hC : CSI mi ml D g sp N) (hR : RgD D g sp (N + 1)) (hN : N < 11) (x : Int32) (hx : x.toInt = D.2.2.2.1 N) : Ct l yX0_isCrowded (.code yX0_isCrowded cX0_isCrowded 3 (some .boolean)) 1 0 0 [.ref 53, .int x] (wl mi ml) (QP (some (.int (bI (∃ i, i < N ∧ cwP D sp i N)))) (wl mi ml)) noX := by
  refine Ct_of (ini := false) pn_X0 hfl (fun h => nomatch h) (Nat.le_of_ble_eq_true rfl) ?_
  show E l RX0 cX0_isCrowded 3 (some .boolean) false [] (rmE 1 0 0) (wl mi ml) (TgM (wl mi ml) 0 0 (QP (some (.int (bI (∃ i, i < N ∧ cwP D sp i N)))) (wl mi ml)) noX) 0 0 0 [(0, .ref 53), (1, .int x)] [] (wl mi ml)
  have hr := hR.1
  have hb := hR.2 N (by omega)
  refine E_iconst 0 (by decide) dX0_isCrowded_0 ?_
  refine E_istore_n [(2, .int 0), (0, .ref 53), (1, .int x)] dX0_isCrowded_1 rfl (by decide) rfl ?_
  have J2 : ∀ (Nm : Nat) (xi : Int32) (i : Nat), N - i < Nm → xi.toInt = (i : Int) → i ≤ N → (∀ j, j < i → ¬ cwP D sp j N) → E l RX0 cX0_isCrowded 3 (some .boolean) false [] (rmE 1 0 0) (wl mi ml) (TgM (wl mi ml) 0 0 (QP (some (.int (bI (∃ i, i < N ∧ cwP D sp i N)))) (wl mi ml)) noX) 0 0 2 [(0, .ref 53), (1, .int x), (2, .int xi)] [] (wl mi ml) := by
    intro Nm
    induction Nm with
    | zero => intros; omega
    | succ Nm ih2 =>
      intro xi i hN2 hi hin hc
      refine E_iload_n 2 dX0_isCrowded_2 rfl rfl ?_
      refine E_aload_n 0 dX0_isCrowded_3 rfl rfl ?_
      refine gf_X0_25 (mi 53 4) tw_53 rfl rfl dX0_isCrowded_4 ?_
      refine Z_ge (i : Int) (N : Int) hi hC.1.1 42 dX0_isCrowded_7 (by decide) (fun c_7 => ?_) (fun c_7 => ?_)
      · skip
        refine E_iconst 0 (by decide) dX0_isCrowded_42 ?_
        refine E_zret rfl rfl (Nat.le_of_ble_eq_true rfl) (Nat.le_of_ble_eq_true rfl) dX0_isCrowded_43 ?_
        obtain rfl : i = N := by omega
        exact okP (b0 (fun z => z.elim (fun j q => hc j q.1 q.2)))
      · skip
        refine E_iload_n 2 dX0_isCrowded_10 rfl rfl ?_
        refine E_bipush 11 (by decide) dX0_isCrowded_11 ?_
        refine Z_ge (i : Int) 11 hi (show (11 : Int32).toInt = 11 from rfl) 42 dX0_isCrowded_13 (by decide) (fun c_13 => ?_) (fun c_13 => ?_)
        · skip
          refine E_iconst 0 (by decide) dX0_isCrowded_42 ?_
          refine E_zret rfl rfl (Nat.le_of_ble_eq_true rfl) (Nat.le_of_ble_eq_true rfl) dX0_isCrowded_43 ?_
          obtain rfl : i = N := by omega
          exact okP (b0 (fun z => z.elim (fun j q => hc j q.1 q.2)))
        · skip
          have hbi := hR.2 i (by omega)
          refine E_aload_n 0 dX0_isCrowded_16 rfl rfl ?_
          refine gf_X0_11 tw_53 rfl dX0_isCrowded_17 ?_
          refine E_iload_n 2 dX0_isCrowded_20 rfl rfl ?_
          refine S_iald i (mi 54 i) tw_54 (hi.trans (by omega)) (by omega) rfl dX0_isCrowded_21 ?_
          refine E_iload_n 1 dX0_isCrowded_22 rfl rfl ?_
          refine E_isub dX0_isCrowded_23 ?_
          refine E_abs wl_X0_72 ws_abs wz_Math wc_abs ⟨Nat.le_of_ble_eq_true rfl, Nat.le_of_ble_eq_true rfl, Nat.le_of_ble_eq_true rfl, Nat.le_of_ble_eq_true rfl⟩ dX0_isCrowded_24 ?_
          refine E_aload_n 0 dX0_isCrowded_27 rfl rfl ?_
          refine gf_X0_50 (mi 53 9) tw_53 rfl rfl dX0_isCrowded_28 ?_
          refine Z_ge (if 0 ≤ ((D.2.2.2.1 i) - (D.2.2.2.1 N)) then ((D.2.2.2.1 i) - (D.2.2.2.1 N)) else 0 - ((D.2.2.2.1 i) - (D.2.2.2.1 N))) sp (tI_abs (tI_sub (hC.2.2.1 i (by omega)).1 hx (by omega)) (by omega)) hC.2.1.2.2.2.2 36 dX0_isCrowded_31 (by decide) (fun c_31 => ?_) (fun c_31 => ?_)
          · skip
            refine E_iinc 2 (xi + 1) [(2, .int (xi + 1)), (0, .ref 53), (1, .int x)] dX0_isCrowded_36 rfl rfl (by decide) rfl ?_
            refine E_goto 2 dX0_isCrowded_39 (by decide) ?_
            refine E_sub [1, 2, 0] rfl ?_
            exact ih2 (xi + 1) (i + 1) (by omega) ((tI_add hi (show (1 : Int32).toInt = 1 from rfl) (by omega)).trans (by omega)) (by omega) (lt_s hc (by unfold cwP; omega))
          · skip
            refine E_iconst 1 (by decide) dX0_isCrowded_34 ?_
            refine E_zret rfl rfl (Nat.le_of_ble_eq_true rfl) (Nat.le_of_ble_eq_true rfl) dX0_isCrowded_35 ?_
            exact okP (b1 ⟨i, by omega, by unfold cwP; omega⟩)
  refine E_sub [1, 2, 0] rfl ?_
  exact J2 _ 0 0 (Nat.lt_succ_self _) (show (0 : Int32).toInt = 0 from rfl) (Nat.zero_le _) (fun j h => absurd h (Nat.not_lt_zero j))
theorem ex_q {i : Nat} {P : Nat → Prop} {A B : Prop} (h : (A ∨ B) ↔ P i) : (((∃ k, k < i ∧ P k) ∨ A) ∨ B) ↔ ∃ k, k < i + 1 ∧ P k := by
  rw [or_assoc]; exact ex_s h
set_option maxHeartbeats 1600000 in
set_option maxRecDepth 100000 in
theorem c_X0_pairsWith (l : Launch) (hfl : l.stackTraces = false) (mi : MI) (ml : MJ) (D : RD) (g sp : Int) (N : Nat) (hC : CSI mi ml D g sp N) (hR : RgD D g sp (N + 1)) (hN : N < 11) (x : Int32) (hx : x.toInt = D.2.2.2.1 N) (xl : Int32) (hl : xl.toInt = D.2.2.2.2 N) : Ct l yX0_pairsWith (.code yX0_pairsWith cX0_pairsWith 8 (some .long)) 2 0 0 [.ref 53, .int x, .int xl] (wl mi ml) (QJ (fun r mi9 ml9 => mi = mi9 ∧ ml = ml9 ∧ Bt r (fun c => ∃ k, k < N ∧ PX D N k c))) noX := by
  refine Ct_of (ini := false) pn_X0 hfl (fun h => nomatch h) (Nat.le_of_ble_eq_true rfl) ?_
  show E l RX0 cX0_pairsWith 8 (some .long) false [] (rmE 2 0 0) (wl mi ml) (TgM (wl mi ml) 0 0 (QJ (fun r mi9 ml9 => mi = mi9 ∧ ml = ml9 ∧ Bt r (fun c => ∃ k, k < N ∧ PX D N k c))) noX) 0 0 0 [(0, .ref 53), (1, .int x), (2, .int xl)] [] (wl mi ml)
  have hr := hR.1
  have hb := hR.2 N (by omega)
  refine E_lconst 0 rfl dX0_pairsWith_0 ?_
  refine E_lstore_n [(3, .long 0), (0, .ref 53), (1, .int x), (2, .int xl)] dX0_pairsWith_1 rfl (by decide) rfl ?_
  refine E_iconst 0 (by decide) dX0_pairsWith_2 ?_
  refine E_istore [(5, .int 0), (3, .long 0), (0, .ref 53), (1, .int x), (2, .int xl)] dX0_pairsWith_3 (by decide) rfl ?_
  have J5 : ∀ (Nm : Nat) (xi : Int32) (v : Int64) (i : Nat), N - i < Nm → xi.toInt = (i : Int) → i ≤ N → Bt v (fun c => ∃ k, k < i ∧ PX D N k c) → E l RX0 cX0_pairsWith 8 (some .long) false [] (rmE 2 0 0) (wl mi ml) (TgM (wl mi ml) 0 0 (QJ (fun r mi9 ml9 => mi = mi9 ∧ ml = ml9 ∧ Bt r (fun c => ∃ k, k < N ∧ PX D N k c))) noX) 0 0 5 [(0, .ref 53), (1, .int x), (2, .int xl), (3, .long v), (5, .int xi)] [] (wl mi ml) := by
    intro Nm
    induction Nm with
    | zero => intros; omega
    | succ Nm ih5 =>
      intro xi v i hN5 hi hin hv
      refine E_iload 4 dX0_pairsWith_5 rfl ?_
      refine E_aload_n 0 dX0_pairsWith_7 rfl rfl ?_
      refine gf_X0_25 (mi 53 4) tw_53 rfl rfl dX0_pairsWith_8 ?_
      refine Z_ge (i : Int) (N : Int) hi hC.1.1 163 dX0_pairsWith_11 (by decide) (fun c_11 => ?_) (fun c_11 => ?_)
      · skip
        refine E_lload_n 3 dX0_pairsWith_163 rfl rfl ?_
        refine E_lret rfl (Nat.le_of_ble_eq_true rfl) (Nat.le_of_ble_eq_true rfl) dX0_pairsWith_164 ?_
        obtain rfl : i = N := by omega
        exact okQJ ⟨rfl, rfl, hv⟩
      · skip
        refine E_iload 4 dX0_pairsWith_14 rfl ?_
        refine E_bipush 11 (by decide) dX0_pairsWith_16 ?_
        refine Z_ge (i : Int) 11 hi (show (11 : Int32).toInt = 11 from rfl) 163 dX0_pairsWith_18 (by decide) (fun c_18 => ?_) (fun c_18 => ?_)
        · skip
          refine E_lload_n 3 dX0_pairsWith_163 rfl rfl ?_
          refine E_lret rfl (Nat.le_of_ble_eq_true rfl) (Nat.le_of_ble_eq_true rfl) dX0_pairsWith_164 ?_
          obtain rfl : i = N := by omega
          exact okQJ ⟨rfl, rfl, hv⟩
        · skip
          have hbi := hR.2 i (by omega)
          refine E_aload_n 0 dX0_pairsWith_21 rfl rfl ?_
          refine gf_X0_11 tw_53 rfl dX0_pairsWith_22 ?_
          refine E_iload 4 dX0_pairsWith_25 rfl ?_
          refine S_iald i (mi 54 i) tw_54 (hi.trans (by omega)) (by omega) rfl dX0_pairsWith_27 ?_
          refine E_istore [(6, .int (mi 54 i)), (0, .ref 53), (1, .int x), (2, .int xl), (3, .long v), (5, .int xi)] dX0_pairsWith_28 (by decide) rfl ?_
          refine E_aload_n 1 dX0_pairsWith_30 rfl rfl ?_
          refine gf_X0_15 tw_53 rfl dX0_pairsWith_31 ?_
          refine E_iload 5 dX0_pairsWith_34 rfl ?_
          refine S_iald i (mi 55 i) tw_55 (hi.trans (by omega)) (by omega) rfl dX0_pairsWith_36 ?_
          refine E_istore [(7, .int (mi 55 i)), (6, .int (mi 54 i)), (0, .ref 53), (1, .int x), (2, .int xl), (3, .long v), (5, .int xi)] dX0_pairsWith_37 (by decide) rfl ?_
          refine E_aload_n 2 dX0_pairsWith_39 rfl rfl ?_
          refine gf_X0_34 (mi 53 5) tw_53 rfl rfl dX0_pairsWith_40 ?_
          refine E_iconst 1 (by decide) dX0_pairsWith_43 ?_
          refine E_iand dX0_pairsWith_44 ?_
          refine Y_eq (((mi 53 5) &&& (1 : Int32)).toInt) rfl 94 dX0_pairsWith_45 (by decide) (fun c_45 => ?_) (fun c_45 => ?_)
          · skip
            have J94 : ∀ (v2 : Int64), Bt v2 (fun c => (∃ k, k < i ∧ PX D N k c) ∨ (FX D 0 N i 0 c ∨ FX D 0 i N 0 c)) → E l RX0 cX0_pairsWith 8 (some .long) false [] (rmE 2 0 0) (wl mi ml) (TgM (wl mi ml) 0 0 (QJ (fun r mi9 ml9 => mi = mi9 ∧ ml = ml9 ∧ Bt r (fun c => ∃ k, k < N ∧ PX D N k c))) noX) 0 0 94 [(0, .ref 53), (1, .int x), (2, .int xl), (3, .long v2), (5, .int xi), (6, .int (mi 54 i)), (7, .int (mi 55 i))] [] (wl mi ml) := by
              intro v2 hv2
              refine E_aload_n 0 dX0_pairsWith_94 rfl rfl ?_
              refine gf_X0_34 (mi 53 5) tw_53 rfl rfl dX0_pairsWith_95 ?_
              refine E_iconst 4 (by decide) dX0_pairsWith_98 ?_
              refine E_iand dX0_pairsWith_99 ?_
              refine Y_eq (((mi 53 5) &&& (4 : Int32)).toInt) rfl 157 dX0_pairsWith_100 (by decide) (fun c_100 => ?_) (fun c_100 => ?_)
              · skip
                refine E_iinc 4 (xi + 1) [(5, .int (xi + 1)), (0, .ref 53), (1, .int x), (2, .int xl), (3, .long v2), (6, .int (mi 54 i)), (7, .int (mi 55 i))] dX0_pairsWith_157 rfl rfl (by decide) rfl ?_
                refine E_goto 5 dX0_pairsWith_160 (by decide) ?_
                refine E_sub [1, 2, 3, 4, 0] rfl ?_
                exact ih5 (xi + 1) v2 (i + 1) (by omega) ((tI_add hi (show (1 : Int32).toInt = 1 from rfl) (by omega)).trans (by omega)) (by omega) (Bt.iff (hv2.off2 (kd := 2) (a := N) (b := i) (c := 0) (a2 := i) (b2 := N) (c2 := 0) ((kb_D hC.2.1.1 hr.1).2.2.mp c_100)) (fun c _ => (ex_q (P := fun k => PX D N k c) Iff.rfl)))
              · skip
                have hbt : D.1.testBit 2 = true := tb_nf (fun q => c_100 ((kb_D hC.2.1.1 hr.1).2.2.mpr q))
                refine E_lload_n 3 dX0_pairsWith_103 rfl rfl ?_
                refine E_iconst 3 (by decide) dX0_pairsWith_104 ?_
                refine E_iload_n 1 dX0_pairsWith_105 rfl rfl ?_
                refine E_imul dX0_pairsWith_106 ?_
                refine E_iconst 2 (by decide) dX0_pairsWith_107 ?_
                refine E_iload 5 dX0_pairsWith_108 rfl ?_
                refine E_imul dX0_pairsWith_110 ?_
                refine E_isub dX0_pairsWith_111 ?_
                refine E_iconst 3 (by decide) dX0_pairsWith_112 ?_
                refine E_iload_n 2 dX0_pairsWith_113 rfl rfl ?_
                refine E_imul dX0_pairsWith_114 ?_
                refine E_iconst 2 (by decide) dX0_pairsWith_115 ?_
                refine E_iload 6 dX0_pairsWith_116 rfl ?_
                refine E_imul dX0_pairsWith_118 ?_
                refine E_iadd dX0_pairsWith_119 ?_
                refine E_aload_n 0 dX0_pairsWith_120 rfl rfl ?_
                refine gf_X0_42 (mi 53 7) tw_53 rfl rfl dX0_pairsWith_121 ?_
                refine E_isub dX0_pairsWith_124 ?_
                refine E_callS (c_X0_bitOf l hfl mi ml ((3 * x) - (2 * (mi 54 i))) (((3 * xl) + (2 * (mi 55 i))) - (mi 53 7)) ((3 * (D.2.2.2.1 N)) - (2 * (D.2.2.2.1 i))) (((3 * (D.2.2.2.2 N)) + (2 * (D.2.2.2.2 i))) - (D.2.2.1)) (tI_sub (tI_mul (show (3 : Int32).toInt = 3 from rfl) hx (by omega)) (tI_mul (show (2 : Int32).toInt = 2 from rfl) (hC.2.2.1 i (by omega)).1 (by omega)) (by omega)) (tI_sub (tI_add (tI_mul (show (3 : Int32).toInt = 3 from rfl) hl (by omega)) (tI_mul (show (2 : Int32).toInt = 2 from rfl) (hC.2.2.1 i (by omega)).2 (by omega)) (by omega)) hC.2.1.2.2.1 (by omega))) cw_X0_76 (As := [.int ((3 * x) - (2 * (mi 54 i))), .int (((3 * xl) + (2 * (mi 55 i))) - (mi 53 7))]) (st := [.long v2]) ws_yX0_bitOf rfl ⟨Nat.le_of_ble_eq_true rfl, Nat.le_of_ble_eq_true rfl, Nat.le_of_ble_eq_true rfl, Nat.le_of_ble_eq_true rfl⟩ (Nat.le_of_ble_eq_true rfl) dX0_pairsWith_125 (fun _ _ h => h) rfl (kJ (fun r_125 mi_125 ml_125 h_125 => ?_))
                obtain ⟨rfl, rfl, h_125⟩ := h_125
                refine E_lor dX0_pairsWith_128 ?_
                refine E_lstore_n [(3, .long (v2 ||| r_125)), (0, .ref 53), (1, .int x), (2, .int xl), (5, .int xi), (6, .int (mi 54 i)), (7, .int (mi 55 i))] dX0_pairsWith_129 rfl (by decide) rfl ?_
                refine E_lload_n 0 dX0_pairsWith_130 rfl rfl ?_
                refine E_iconst 3 (by decide) dX0_pairsWith_131 ?_
                refine E_iload 5 dX0_pairsWith_132 rfl ?_
                refine E_imul dX0_pairsWith_134 ?_
                refine E_iconst 2 (by decide) dX0_pairsWith_135 ?_
                refine E_iload_n 2 dX0_pairsWith_136 rfl rfl ?_
                refine E_imul dX0_pairsWith_137 ?_
                refine E_isub dX0_pairsWith_138 ?_
                refine E_iconst 3 (by decide) dX0_pairsWith_139 ?_
                refine E_iload 6 dX0_pairsWith_140 rfl ?_
                refine E_imul dX0_pairsWith_142 ?_
                refine E_iconst 2 (by decide) dX0_pairsWith_143 ?_
                refine E_iload_n 3 dX0_pairsWith_144 rfl rfl ?_
                refine E_imul dX0_pairsWith_145 ?_
                refine E_iadd dX0_pairsWith_146 ?_
                refine E_aload_n 1 dX0_pairsWith_147 rfl rfl ?_
                refine gf_X0_42 (mi 53 7) tw_53 rfl rfl dX0_pairsWith_148 ?_
                refine E_isub dX0_pairsWith_151 ?_
                refine E_callS (c_X0_bitOf l hfl mi ml ((3 * (mi 54 i)) - (2 * x)) (((3 * (mi 55 i)) + (2 * xl)) - (mi 53 7)) ((3 * (D.2.2.2.1 i)) - (2 * (D.2.2.2.1 N))) (((3 * (D.2.2.2.2 i)) + (2 * (D.2.2.2.2 N))) - (D.2.2.1)) (tI_sub (tI_mul (show (3 : Int32).toInt = 3 from rfl) (hC.2.2.1 i (by omega)).1 (by omega)) (tI_mul (show (2 : Int32).toInt = 2 from rfl) hx (by omega)) (by omega)) (tI_sub (tI_add (tI_mul (show (3 : Int32).toInt = 3 from rfl) (hC.2.2.1 i (by omega)).2 (by omega)) (tI_mul (show (2 : Int32).toInt = 2 from rfl) hl (by omega)) (by omega)) hC.2.1.2.2.1 (by omega))) cw_X0_76 (As := [.int ((3 * (mi 54 i)) - (2 * x)), .int (((3 * (mi 55 i)) + (2 * xl)) - (mi 53 7))]) (st := [.long (v2 ||| r_125)]) ws_yX0_bitOf rfl ⟨Nat.le_of_ble_eq_true rfl, Nat.le_of_ble_eq_true rfl, Nat.le_of_ble_eq_true rfl, Nat.le_of_ble_eq_true rfl⟩ (Nat.le_of_ble_eq_true rfl) dX0_pairsWith_152 (fun _ _ h => h) rfl (kJ (fun r_152 mi_152 ml_152 h_152 => ?_))
                obtain ⟨rfl, rfl, h_152⟩ := h_152
                refine E_lor dX0_pairsWith_155 ?_
                refine E_lstore_n [(3, .long ((v2 ||| r_125) ||| r_152)), (0, .ref 53), (1, .int x), (2, .int xl), (5, .int xi), (6, .int (mi 54 i)), (7, .int (mi 55 i))] dX0_pairsWith_156 rfl (by decide) rfl ?_
                refine E_iinc 4 (xi + 1) [(5, .int (xi + 1)), (3, .long ((v2 ||| r_125) ||| r_152)), (0, .ref 53), (1, .int x), (2, .int xl), (6, .int (mi 54 i)), (7, .int (mi 55 i))] dX0_pairsWith_157 rfl rfl (by decide) rfl ?_
                refine E_goto 5 dX0_pairsWith_160 (by decide) ?_
                refine E_sub [2, 3, 4, 1, 0] rfl ?_
                exact ih5 (xi + 1) ((v2 ||| r_125) ||| r_152) (i + 1) (by omega) ((tI_add hi (show (1 : Int32).toInt = 1 from rfl) (by omega)).trans (by omega)) (by omega) (Bt.iff (Bt.two hv2 h_125 h_152 hbt (by show _ = 3 * D.2.2.2.1 N - 2 * D.2.2.2.1 i; omega) (by show _ = 3 * D.2.2.2.2 N + 2 * D.2.2.2.2 i - D.2.2.1; omega) (by show _ = 3 * D.2.2.2.1 i - 2 * D.2.2.2.1 N; omega) (by show _ = 3 * D.2.2.2.2 i + 2 * D.2.2.2.2 N - D.2.2.1; omega)) (fun c _ => (ex_q (P := fun k => PX D N k c) Iff.rfl)))
            refine E_sub [2, 3, 4, 5, 6, 1, 0] rfl ?_
            exact J94 _ (hv.off2 (kd := 0) (a := N) (b := i) (c := 0) (a2 := i) (b2 := N) (c2 := 0) ((kb_D hC.2.1.1 hr.1).1.mp c_45))
          · skip
            have hbt : D.1.testBit 0 = true := tb_nf (fun q => c_45 ((kb_D hC.2.1.1 hr.1).1.mpr q))
            refine E_lload_n 5 dX0_pairsWith_48 rfl rfl ?_
            refine E_iconst 2 (by decide) dX0_pairsWith_49 ?_
            refine E_iload_n 3 dX0_pairsWith_50 rfl rfl ?_
            refine E_imul dX0_pairsWith_51 ?_
            refine E_iload 1 dX0_pairsWith_52 rfl ?_
            refine E_isub dX0_pairsWith_54 ?_
            refine E_iconst 2 (by decide) dX0_pairsWith_55 ?_
            refine E_iload_n 4 dX0_pairsWith_56 rfl rfl ?_
            refine E_imul dX0_pairsWith_57 ?_
            refine E_iload 0 dX0_pairsWith_58 rfl ?_
            refine E_iadd dX0_pairsWith_60 ?_
            refine E_aload_n 2 dX0_pairsWith_61 rfl rfl ?_
            refine gf_X0_38 (mi 53 6) tw_53 rfl rfl dX0_pairsWith_62 ?_
            refine E_isub dX0_pairsWith_65 ?_
            refine E_callS (c_X0_bitOf l hfl mi ml ((2 * x) - (mi 54 i)) (((2 * xl) + (mi 55 i)) - (mi 53 6)) ((2 * (D.2.2.2.1 N)) - (D.2.2.2.1 i)) (((2 * (D.2.2.2.2 N)) + (D.2.2.2.2 i)) - (D.2.1)) (tI_sub (tI_mul (show (2 : Int32).toInt = 2 from rfl) hx (by omega)) (hC.2.2.1 i (by omega)).1 (by omega)) (tI_sub (tI_add (tI_mul (show (2 : Int32).toInt = 2 from rfl) hl (by omega)) (hC.2.2.1 i (by omega)).2 (by omega)) hC.2.1.2.1 (by omega))) cw_X0_76 (As := [.int ((2 * x) - (mi 54 i)), .int (((2 * xl) + (mi 55 i)) - (mi 53 6))]) (st := [.long v]) ws_yX0_bitOf rfl ⟨Nat.le_of_ble_eq_true rfl, Nat.le_of_ble_eq_true rfl, Nat.le_of_ble_eq_true rfl, Nat.le_of_ble_eq_true rfl⟩ (Nat.le_of_ble_eq_true rfl) dX0_pairsWith_66 (fun _ _ h => h) rfl (kJ (fun r_66 mi_66 ml_66 h_66 => ?_))
            obtain ⟨rfl, rfl, h_66⟩ := h_66
            refine E_lor dX0_pairsWith_69 ?_
            refine E_lstore_n [(3, .long (v ||| r_66)), (7, .int (mi 55 i)), (6, .int (mi 54 i)), (0, .ref 53), (1, .int x), (2, .int xl), (5, .int xi)] dX0_pairsWith_70 rfl (by decide) rfl ?_
            refine E_lload_n 0 dX0_pairsWith_71 rfl rfl ?_
            refine E_iconst 2 (by decide) dX0_pairsWith_72 ?_
            refine E_iload 2 dX0_pairsWith_73 rfl ?_
            refine E_imul dX0_pairsWith_75 ?_
            refine E_iload_n 4 dX0_pairsWith_76 rfl rfl ?_
            refine E_isub dX0_pairsWith_77 ?_
            refine E_iconst 2 (by decide) dX0_pairsWith_78 ?_
            refine E_iload 1 dX0_pairsWith_79 rfl ?_
            refine E_imul dX0_pairsWith_81 ?_
            refine E_iload_n 5 dX0_pairsWith_82 rfl rfl ?_
            refine E_iadd dX0_pairsWith_83 ?_
            refine E_aload_n 3 dX0_pairsWith_84 rfl rfl ?_
            refine gf_X0_38 (mi 53 6) tw_53 rfl rfl dX0_pairsWith_85 ?_
            refine E_isub dX0_pairsWith_88 ?_
            refine E_callS (c_X0_bitOf l hfl mi ml ((2 * (mi 54 i)) - x) (((2 * (mi 55 i)) + xl) - (mi 53 6)) ((2 * (D.2.2.2.1 i)) - (D.2.2.2.1 N)) (((2 * (D.2.2.2.2 i)) + (D.2.2.2.2 N)) - (D.2.1)) (tI_sub (tI_mul (show (2 : Int32).toInt = 2 from rfl) (hC.2.2.1 i (by omega)).1 (by omega)) hx (by omega)) (tI_sub (tI_add (tI_mul (show (2 : Int32).toInt = 2 from rfl) (hC.2.2.1 i (by omega)).2 (by omega)) hl (by omega)) hC.2.1.2.1 (by omega))) cw_X0_76 (As := [.int ((2 * (mi 54 i)) - x), .int (((2 * (mi 55 i)) + xl) - (mi 53 6))]) (st := [.long (v ||| r_66)]) ws_yX0_bitOf rfl ⟨Nat.le_of_ble_eq_true rfl, Nat.le_of_ble_eq_true rfl, Nat.le_of_ble_eq_true rfl, Nat.le_of_ble_eq_true rfl⟩ (Nat.le_of_ble_eq_true rfl) dX0_pairsWith_89 (fun _ _ h => h) rfl (kJ (fun r_89 mi_89 ml_89 h_89 => ?_))
            obtain ⟨rfl, rfl, h_89⟩ := h_89
            refine E_lor dX0_pairsWith_92 ?_
            refine E_lstore_n [(3, .long ((v ||| r_66) ||| r_89)), (7, .int (mi 55 i)), (6, .int (mi 54 i)), (0, .ref 53), (1, .int x), (2, .int xl), (5, .int xi)] dX0_pairsWith_93 rfl (by decide) rfl ?_
            have J94 : ∀ (v2 : Int64), Bt v2 (fun c => (∃ k, k < i ∧ PX D N k c) ∨ (FX D 0 N i 0 c ∨ FX D 0 i N 0 c)) → E l RX0 cX0_pairsWith 8 (some .long) false [] (rmE 2 0 0) (wl mi ml) (TgM (wl mi ml) 0 0 (QJ (fun r mi9 ml9 => mi = mi9 ∧ ml = ml9 ∧ Bt r (fun c => ∃ k, k < N ∧ PX D N k c))) noX) 0 0 94 [(0, .ref 53), (1, .int x), (2, .int xl), (3, .long v2), (5, .int xi), (6, .int (mi 54 i)), (7, .int (mi 55 i))] [] (wl mi ml) := by
              intro v2 hv2
              refine E_aload_n 0 dX0_pairsWith_94 rfl rfl ?_
              refine gf_X0_34 (mi 53 5) tw_53 rfl rfl dX0_pairsWith_95 ?_
              refine E_iconst 4 (by decide) dX0_pairsWith_98 ?_
              refine E_iand dX0_pairsWith_99 ?_
              refine Y_eq (((mi 53 5) &&& (4 : Int32)).toInt) rfl 157 dX0_pairsWith_100 (by decide) (fun c_100 => ?_) (fun c_100 => ?_)
              · skip
                refine E_iinc 4 (xi + 1) [(5, .int (xi + 1)), (0, .ref 53), (1, .int x), (2, .int xl), (3, .long v2), (6, .int (mi 54 i)), (7, .int (mi 55 i))] dX0_pairsWith_157 rfl rfl (by decide) rfl ?_
                refine E_goto 5 dX0_pairsWith_160 (by decide) ?_
                refine E_sub [1, 2, 3, 4, 0] rfl ?_
                exact ih5 (xi + 1) v2 (i + 1) (by omega) ((tI_add hi (show (1 : Int32).toInt = 1 from rfl) (by omega)).trans (by omega)) (by omega) (Bt.iff (hv2.off2 (kd := 2) (a := N) (b := i) (c := 0) (a2 := i) (b2 := N) (c2 := 0) ((kb_D hC.2.1.1 hr.1).2.2.mp c_100)) (fun c _ => (ex_q (P := fun k => PX D N k c) Iff.rfl)))
              · skip
                have hbt : D.1.testBit 2 = true := tb_nf (fun q => c_100 ((kb_D hC.2.1.1 hr.1).2.2.mpr q))
                refine E_lload_n 3 dX0_pairsWith_103 rfl rfl ?_
                refine E_iconst 3 (by decide) dX0_pairsWith_104 ?_
                refine E_iload_n 1 dX0_pairsWith_105 rfl rfl ?_
                refine E_imul dX0_pairsWith_106 ?_
                refine E_iconst 2 (by decide) dX0_pairsWith_107 ?_
                refine E_iload 5 dX0_pairsWith_108 rfl ?_
                refine E_imul dX0_pairsWith_110 ?_
                refine E_isub dX0_pairsWith_111 ?_
                refine E_iconst 3 (by decide) dX0_pairsWith_112 ?_
                refine E_iload_n 2 dX0_pairsWith_113 rfl rfl ?_
                refine E_imul dX0_pairsWith_114 ?_
                refine E_iconst 2 (by decide) dX0_pairsWith_115 ?_
                refine E_iload 6 dX0_pairsWith_116 rfl ?_
                refine E_imul dX0_pairsWith_118 ?_
                refine E_iadd dX0_pairsWith_119 ?_
                refine E_aload_n 0 dX0_pairsWith_120 rfl rfl ?_
                refine gf_X0_42 (mi 53 7) tw_53 rfl rfl dX0_pairsWith_121 ?_
                refine E_isub dX0_pairsWith_124 ?_
                refine E_callS (c_X0_bitOf l hfl mi ml ((3 * x) - (2 * (mi 54 i))) (((3 * xl) + (2 * (mi 55 i))) - (mi 53 7)) ((3 * (D.2.2.2.1 N)) - (2 * (D.2.2.2.1 i))) (((3 * (D.2.2.2.2 N)) + (2 * (D.2.2.2.2 i))) - (D.2.2.1)) (tI_sub (tI_mul (show (3 : Int32).toInt = 3 from rfl) hx (by omega)) (tI_mul (show (2 : Int32).toInt = 2 from rfl) (hC.2.2.1 i (by omega)).1 (by omega)) (by omega)) (tI_sub (tI_add (tI_mul (show (3 : Int32).toInt = 3 from rfl) hl (by omega)) (tI_mul (show (2 : Int32).toInt = 2 from rfl) (hC.2.2.1 i (by omega)).2 (by omega)) (by omega)) hC.2.1.2.2.1 (by omega))) cw_X0_76 (As := [.int ((3 * x) - (2 * (mi 54 i))), .int (((3 * xl) + (2 * (mi 55 i))) - (mi 53 7))]) (st := [.long v2]) ws_yX0_bitOf rfl ⟨Nat.le_of_ble_eq_true rfl, Nat.le_of_ble_eq_true rfl, Nat.le_of_ble_eq_true rfl, Nat.le_of_ble_eq_true rfl⟩ (Nat.le_of_ble_eq_true rfl) dX0_pairsWith_125 (fun _ _ h => h) rfl (kJ (fun r_125 mi_125 ml_125 h_125 => ?_))
                obtain ⟨rfl, rfl, h_125⟩ := h_125
                refine E_lor dX0_pairsWith_128 ?_
                refine E_lstore_n [(3, .long (v2 ||| r_125)), (0, .ref 53), (1, .int x), (2, .int xl), (5, .int xi), (6, .int (mi 54 i)), (7, .int (mi 55 i))] dX0_pairsWith_129 rfl (by decide) rfl ?_
                refine E_lload_n 0 dX0_pairsWith_130 rfl rfl ?_
                refine E_iconst 3 (by decide) dX0_pairsWith_131 ?_
                refine E_iload 5 dX0_pairsWith_132 rfl ?_
                refine E_imul dX0_pairsWith_134 ?_
                refine E_iconst 2 (by decide) dX0_pairsWith_135 ?_
                refine E_iload_n 2 dX0_pairsWith_136 rfl rfl ?_
                refine E_imul dX0_pairsWith_137 ?_
                refine E_isub dX0_pairsWith_138 ?_
                refine E_iconst 3 (by decide) dX0_pairsWith_139 ?_
                refine E_iload 6 dX0_pairsWith_140 rfl ?_
                refine E_imul dX0_pairsWith_142 ?_
                refine E_iconst 2 (by decide) dX0_pairsWith_143 ?_
                refine E_iload_n 3 dX0_pairsWith_144 rfl rfl ?_
                refine E_imul dX0_pairsWith_145 ?_
                refine E_iadd dX0_pairsWith_146 ?_
                refine E_aload_n 1 dX0_pairsWith_147 rfl rfl ?_
                refine gf_X0_42 (mi 53 7) tw_53 rfl rfl dX0_pairsWith_148 ?_
                refine E_isub dX0_pairsWith_151 ?_
                refine E_callS (c_X0_bitOf l hfl mi ml ((3 * (mi 54 i)) - (2 * x)) (((3 * (mi 55 i)) + (2 * xl)) - (mi 53 7)) ((3 * (D.2.2.2.1 i)) - (2 * (D.2.2.2.1 N))) (((3 * (D.2.2.2.2 i)) + (2 * (D.2.2.2.2 N))) - (D.2.2.1)) (tI_sub (tI_mul (show (3 : Int32).toInt = 3 from rfl) (hC.2.2.1 i (by omega)).1 (by omega)) (tI_mul (show (2 : Int32).toInt = 2 from rfl) hx (by omega)) (by omega)) (tI_sub (tI_add (tI_mul (show (3 : Int32).toInt = 3 from rfl) (hC.2.2.1 i (by omega)).2 (by omega)) (tI_mul (show (2 : Int32).toInt = 2 from rfl) hl (by omega)) (by omega)) hC.2.1.2.2.1 (by omega))) cw_X0_76 (As := [.int ((3 * (mi 54 i)) - (2 * x)), .int (((3 * (mi 55 i)) + (2 * xl)) - (mi 53 7))]) (st := [.long (v2 ||| r_125)]) ws_yX0_bitOf rfl ⟨Nat.le_of_ble_eq_true rfl, Nat.le_of_ble_eq_true rfl, Nat.le_of_ble_eq_true rfl, Nat.le_of_ble_eq_true rfl⟩ (Nat.le_of_ble_eq_true rfl) dX0_pairsWith_152 (fun _ _ h => h) rfl (kJ (fun r_152 mi_152 ml_152 h_152 => ?_))
                obtain ⟨rfl, rfl, h_152⟩ := h_152
                refine E_lor dX0_pairsWith_155 ?_
                refine E_lstore_n [(3, .long ((v2 ||| r_125) ||| r_152)), (0, .ref 53), (1, .int x), (2, .int xl), (5, .int xi), (6, .int (mi 54 i)), (7, .int (mi 55 i))] dX0_pairsWith_156 rfl (by decide) rfl ?_
                refine E_iinc 4 (xi + 1) [(5, .int (xi + 1)), (3, .long ((v2 ||| r_125) ||| r_152)), (0, .ref 53), (1, .int x), (2, .int xl), (6, .int (mi 54 i)), (7, .int (mi 55 i))] dX0_pairsWith_157 rfl rfl (by decide) rfl ?_
                refine E_goto 5 dX0_pairsWith_160 (by decide) ?_
                refine E_sub [2, 3, 4, 1, 0] rfl ?_
                exact ih5 (xi + 1) ((v2 ||| r_125) ||| r_152) (i + 1) (by omega) ((tI_add hi (show (1 : Int32).toInt = 1 from rfl) (by omega)).trans (by omega)) (by omega) (Bt.iff (Bt.two hv2 h_125 h_152 hbt (by show _ = 3 * D.2.2.2.1 N - 2 * D.2.2.2.1 i; omega) (by show _ = 3 * D.2.2.2.2 N + 2 * D.2.2.2.2 i - D.2.2.1; omega) (by show _ = 3 * D.2.2.2.1 i - 2 * D.2.2.2.1 N; omega) (by show _ = 3 * D.2.2.2.2 i + 2 * D.2.2.2.2 N - D.2.2.1; omega)) (fun c _ => (ex_q (P := fun k => PX D N k c) Iff.rfl)))
            refine E_sub [3, 4, 5, 0, 6, 2, 1] rfl ?_
            exact J94 _ (Bt.two hv h_66 h_89 hbt (by show _ = 2 * D.2.2.2.1 N - D.2.2.2.1 i; omega) (by show _ = D.2.2.2.2 N + D.2.2.2.2 i + D.2.2.2.2 N - D.2.1; omega) (by show _ = 2 * D.2.2.2.1 i - D.2.2.2.1 N; omega) (by show _ = D.2.2.2.2 i + D.2.2.2.2 N + D.2.2.2.2 i - D.2.1; omega))
  refine E_sub [2, 3, 4, 1, 0] rfl ?_
  exact J5 _ 0 0 0 (Nat.lt_succ_self _) (show (0 : Int32).toInt = 0 from rfl) (Nat.zero_le _) (Bt_0.iff (fun c _ => ⟨fun z => z.elim, fun z => z.elim (fun k q => absurd q.1 (Nat.not_lt_zero k))⟩))
theorem TX_off {D : RD} {N i j x : Nat} (hb : D.1.testBit 1 = false) : ¬ TX D N i j x := fun h => h.elim (fun h => h.elim (FX_off hb) (FX_off hb)) (FX_off hb)
set_option maxHeartbeats 1600000 in
set_option maxRecDepth 100000 in
theorem c_X0_triplesWith (l : Launch) (hfl : l.stackTraces = false) (mi : MI) (ml : MJ) (D : RD) (g sp : Int) (N : Nat) (hC : CSI mi ml D g sp N) (hR : RgD D g sp (N + 1)) (hN : N < 11) (x : Int32) (hx : x.toInt = D.2.2.2.1 N) (xl : Int32) (hl : xl.toInt = D.2.2.2.2 N) : Ct l yX0_triplesWith (.code yX0_triplesWith cX0_triplesWith 10 (some .long)) 2 0 0 [.ref 53, .int x, .int xl] (wl mi ml) (QJ (fun r mi9 ml9 => mi = mi9 ∧ ml = ml9 ∧ Bt r (fun c => ∃ k, k < N ∧ ∃ q, q < k ∧ TX D N k q c))) noX := by
  refine Ct_of (ini := false) pn_X0 hfl (fun h => nomatch h) (Nat.le_of_ble_eq_true rfl) ?_
  show E l RX0 cX0_triplesWith 10 (some .long) false [] (rmE 2 0 0) (wl mi ml) (TgM (wl mi ml) 0 0 (QJ (fun r mi9 ml9 => mi = mi9 ∧ ml = ml9 ∧ Bt r (fun c => ∃ k, k < N ∧ ∃ q, q < k ∧ TX D N k q c))) noX) 0 0 0 [(0, .ref 53), (1, .int x), (2, .int xl)] [] (wl mi ml)
  have hr := hR.1
  have hb := hR.2 N (by omega)
  refine E_lconst 0 rfl dX0_triplesWith_0 ?_
  refine E_lstore_n [(3, .long 0), (0, .ref 53), (1, .int x), (2, .int xl)] dX0_triplesWith_1 rfl (by decide) rfl ?_
  refine E_iconst 0 (by decide) dX0_triplesWith_2 ?_
  refine E_istore [(5, .int 0), (3, .long 0), (0, .ref 53), (1, .int x), (2, .int xl)] dX0_triplesWith_3 (by decide) rfl ?_
  have J5 : ∀ (Nm : Nat) (xi : Int32) (v : Int64) (i : Nat), N - i < Nm → xi.toInt = (i : Int) → i ≤ N → Bt v (fun c => (∃ k, k < i ∧ ∃ q, q < k ∧ TX D N k q c)) → E l RX0 cX0_triplesWith 10 (some .long) false [] (rmE 2 0 0) (wl mi ml) (TgM (wl mi ml) 0 0 (QJ (fun r mi9 ml9 => mi = mi9 ∧ ml = ml9 ∧ Bt r (fun c => ∃ k, k < N ∧ ∃ q, q < k ∧ TX D N k q c))) noX) 0 0 5 [(0, .ref 53), (1, .int x), (2, .int xl), (3, .long v), (5, .int xi)] [] (wl mi ml) := by
    intro Nm
    induction Nm with
    | zero => intros; omega
    | succ Nm ih5 =>
      intro xi v i hN5 hi hin hv
      refine E_iload 4 dX0_triplesWith_5 rfl ?_
      refine E_aload_n 0 dX0_triplesWith_7 rfl rfl ?_
      refine gf_X0_25 (mi 53 4) tw_53 rfl rfl dX0_triplesWith_8 ?_
      refine Z_ge (i : Int) (N : Int) hi hC.1.1 135 dX0_triplesWith_11 (by decide) (fun c_11 => ?_) (fun c_11 => ?_)
      · skip
        refine E_lload_n 3 dX0_triplesWith_135 rfl rfl ?_
        refine E_lret rfl (Nat.le_of_ble_eq_true rfl) (Nat.le_of_ble_eq_true rfl) dX0_triplesWith_136 ?_
        obtain rfl : i = N := by omega
        exact okQJ ⟨rfl, rfl, hv⟩
      · skip
        refine E_iload 4 dX0_triplesWith_14 rfl ?_
        refine E_bipush 11 (by decide) dX0_triplesWith_16 ?_
        refine Z_ge (i : Int) 11 hi (show (11 : Int32).toInt = 11 from rfl) 135 dX0_triplesWith_18 (by decide) (fun c_18 => ?_) (fun c_18 => ?_)
        · skip
          refine E_lload_n 3 dX0_triplesWith_135 rfl rfl ?_
          refine E_lret rfl (Nat.le_of_ble_eq_true rfl) (Nat.le_of_ble_eq_true rfl) dX0_triplesWith_136 ?_
          obtain rfl : i = N := by omega
          exact okQJ ⟨rfl, rfl, hv⟩
        · skip
          refine E_aload_n 0 dX0_triplesWith_21 rfl rfl ?_
          refine gf_X0_34 (mi 53 5) tw_53 rfl rfl dX0_triplesWith_22 ?_
          refine E_iconst 2 (by decide) dX0_triplesWith_25 ?_
          refine E_iand dX0_triplesWith_26 ?_
          refine Y_eq (((mi 53 5) &&& (2 : Int32)).toInt) rfl 135 dX0_triplesWith_27 (by decide) (fun c_27 => ?_) (fun c_27 => ?_)
          · skip
            refine E_lload_n 3 dX0_triplesWith_135 rfl rfl ?_
            refine E_lret rfl (Nat.le_of_ble_eq_true rfl) (Nat.le_of_ble_eq_true rfl) dX0_triplesWith_136 ?_
            exact okQJ ⟨rfl, rfl, hv.iff (fun c _ => ⟨fun z => z.elim (fun k q => ⟨k, by omega, q.2⟩), fun z => z.elim (fun k q => q.2.elim (fun w t => absurd t.2 (TX_off ((kb_D hC.2.1.1 hr.1).2.1.mp c_27))))⟩)⟩
          · skip
            have hbi := hR.2 i (by omega)
            have hbt : D.1.testBit 1 = true := tb_nf (fun q => c_27 ((kb_D hC.2.1.1 hr.1).2.1.mpr q))
            refine E_aload_n 0 dX0_triplesWith_30 rfl rfl ?_
            refine gf_X0_11 tw_53 rfl dX0_triplesWith_31 ?_
            refine E_iload 4 dX0_triplesWith_34 rfl ?_
            refine S_iald i (mi 54 i) tw_54 (hi.trans (by omega)) (by omega) rfl dX0_triplesWith_36 ?_
            refine E_istore [(6, .int (mi 54 i)), (0, .ref 53), (1, .int x), (2, .int xl), (3, .long v), (5, .int xi)] dX0_triplesWith_37 (by decide) rfl ?_
            refine E_iconst 0 (by decide) dX0_triplesWith_39 ?_
            refine E_istore [(7, .int 0), (6, .int (mi 54 i)), (0, .ref 53), (1, .int x), (2, .int xl), (3, .long v), (5, .int xi)] dX0_triplesWith_40 (by decide) rfl ?_
            have J42 : ∀ (Nm : Nat) (xj : Int32) (v2 : Int64) (j : Nat), i - j < Nm → xj.toInt = (j : Int) → j ≤ i → Bt v2 (fun c => (∃ k, k < i ∧ ∃ q, q < k ∧ TX D N k q c) ∨ ∃ q, q < j ∧ TX D N i q c) → E l RX0 cX0_triplesWith 10 (some .long) false [] (rmE 2 0 0) (wl mi ml) (TgM (wl mi ml) 0 0 (QJ (fun r mi9 ml9 => mi = mi9 ∧ ml = ml9 ∧ Bt r (fun c => ∃ k, k < N ∧ ∃ q, q < k ∧ TX D N k q c))) noX) 0 0 42 [(0, .ref 53), (1, .int x), (2, .int xl), (3, .long v2), (5, .int xi), (6, .int (mi 54 i)), (7, .int xj)] [] (wl mi ml) := by
              intro Nm
              induction Nm with
              | zero => intros; omega
              | succ Nm ih42 =>
                intro xj v2 j hN42 hj hji hv2
                refine E_iload 6 dX0_triplesWith_42 rfl ?_
                refine E_iload 4 dX0_triplesWith_44 rfl ?_
                refine Z_ge (j : Int) (i : Int) hj hi 129 dX0_triplesWith_46 (by decide) (fun c_46 => ?_) (fun c_46 => ?_)
                · skip
                  refine E_iinc 4 (xi + 1) [(5, .int (xi + 1)), (0, .ref 53), (1, .int x), (2, .int xl), (3, .long v2), (6, .int (mi 54 i)), (7, .int xj)] dX0_triplesWith_129 rfl rfl (by decide) rfl ?_
                  refine E_goto 5 dX0_triplesWith_132 (by decide) ?_
                  refine E_sub [1, 2, 3, 4, 0] rfl ?_
                  exact ih5 (xi + 1) v2 (i + 1) (by omega) ((tI_add hi (show (1 : Int32).toInt = 1 from rfl) (by omega)).trans (by omega)) (by omega) (hv2.iff (fun c _ => ex_s (P := fun k => ∃ q, q < k ∧ TX D N k q c) (by rw [show j = i by omega])))
                · skip
                  have hbj := hR.2 j (by omega)
                  refine E_aload_n 0 dX0_triplesWith_49 rfl rfl ?_
                  refine gf_X0_11 tw_53 rfl dX0_triplesWith_50 ?_
                  refine E_iload 6 dX0_triplesWith_53 rfl ?_
                  refine S_iald j (mi 54 j) tw_54 (hj.trans (by omega)) (by omega) rfl dX0_triplesWith_55 ?_
                  refine E_istore [(8, .int (mi 54 j)), (0, .ref 53), (1, .int x), (2, .int xl), (3, .long v2), (5, .int xi), (6, .int (mi 54 i)), (7, .int xj)] dX0_triplesWith_56 (by decide) rfl ?_
                  refine E_iload_n 3 dX0_triplesWith_58 rfl rfl ?_
                  refine E_aload_n 1 dX0_triplesWith_59 rfl rfl ?_
                  refine gf_X0_15 tw_53 rfl dX0_triplesWith_60 ?_
                  refine E_iload 5 dX0_triplesWith_63 rfl ?_
                  refine S_iald i (mi 55 i) tw_55 (hi.trans (by omega)) (by omega) rfl dX0_triplesWith_65 ?_
                  refine E_iadd dX0_triplesWith_66 ?_
                  refine E_aload_n 1 dX0_triplesWith_67 rfl rfl ?_
                  refine gf_X0_15 tw_53 rfl dX0_triplesWith_68 ?_
                  refine E_iload 7 dX0_triplesWith_71 rfl ?_
                  refine S_iald j (mi 55 j) tw_55 (hj.trans (by omega)) (by omega) rfl dX0_triplesWith_73 ?_
                  refine E_iadd dX0_triplesWith_74 ?_
                  refine E_aload_n 1 dX0_triplesWith_75 rfl rfl ?_
                  refine gf_X0_38 (mi 53 6) tw_53 rfl rfl dX0_triplesWith_76 ?_
                  refine E_isub dX0_triplesWith_79 ?_
                  refine E_istore [(9, .int (((xl + (mi 55 i)) + (mi 55 j)) - (mi 53 6))), (8, .int (mi 54 j)), (0, .ref 53), (1, .int x), (2, .int xl), (3, .long v2), (5, .int xi), (6, .int (mi 54 i)), (7, .int xj)] dX0_triplesWith_80 (by decide) rfl ?_
                  refine E_lload_n 5 dX0_triplesWith_82 rfl rfl ?_
                  refine E_iload_n 3 dX0_triplesWith_83 rfl rfl ?_
                  refine E_iload 7 dX0_triplesWith_84 rfl ?_
                  refine E_iadd dX0_triplesWith_86 ?_
                  refine E_iload 1 dX0_triplesWith_87 rfl ?_
                  refine E_isub dX0_triplesWith_89 ?_
                  refine E_iload 0 dX0_triplesWith_90 rfl ?_
                  refine E_callS (c_X0_bitOf l hfl mi ml ((x + (mi 54 i)) - (mi 54 j)) (((xl + (mi 55 i)) + (mi 55 j)) - (mi 53 6)) (((D.2.2.2.1 N) + (D.2.2.2.1 i)) - (D.2.2.2.1 j)) ((((D.2.2.2.2 N) + (D.2.2.2.2 i)) + (D.2.2.2.2 j)) - (D.2.1)) (tI_sub (tI_add hx (hC.2.2.1 i (by omega)).1 (by omega)) (hC.2.2.1 j (by omega)).1 (by omega)) (tI_sub (tI_add (tI_add hl (hC.2.2.1 i (by omega)).2 (by omega)) (hC.2.2.1 j (by omega)).2 (by omega)) hC.2.1.2.1 (by omega))) cw_X0_76 (As := [.int ((x + (mi 54 i)) - (mi 54 j)), .int (((xl + (mi 55 i)) + (mi 55 j)) - (mi 53 6))]) (st := [.long v2]) ws_yX0_bitOf rfl ⟨Nat.le_of_ble_eq_true rfl, Nat.le_of_ble_eq_true rfl, Nat.le_of_ble_eq_true rfl, Nat.le_of_ble_eq_true rfl⟩ (Nat.le_of_ble_eq_true rfl) dX0_triplesWith_92 (fun _ _ h => h) rfl (kJ (fun r_92 mi_92 ml_92 h_92 => ?_))
                  obtain ⟨rfl, rfl, h_92⟩ := h_92
                  refine E_iload_n 3 dX0_triplesWith_95 rfl rfl ?_
                  refine E_iload 1 dX0_triplesWith_96 rfl ?_
                  refine E_iadd dX0_triplesWith_98 ?_
                  refine E_iload 7 dX0_triplesWith_99 rfl ?_
                  refine E_isub dX0_triplesWith_101 ?_
                  refine E_iload 0 dX0_triplesWith_102 rfl ?_
                  refine E_callS (c_X0_bitOf l hfl mi ml ((x + (mi 54 j)) - (mi 54 i)) (((xl + (mi 55 i)) + (mi 55 j)) - (mi 53 6)) (((D.2.2.2.1 N) + (D.2.2.2.1 j)) - (D.2.2.2.1 i)) ((((D.2.2.2.2 N) + (D.2.2.2.2 i)) + (D.2.2.2.2 j)) - (D.2.1)) (tI_sub (tI_add hx (hC.2.2.1 j (by omega)).1 (by omega)) (hC.2.2.1 i (by omega)).1 (by omega)) (tI_sub (tI_add (tI_add hl (hC.2.2.1 i (by omega)).2 (by omega)) (hC.2.2.1 j (by omega)).2 (by omega)) hC.2.1.2.1 (by omega))) cw_X0_76 (As := [.int ((x + (mi 54 j)) - (mi 54 i)), .int (((xl + (mi 55 i)) + (mi 55 j)) - (mi 53 6))]) (st := [.long r_92, .long v2]) ws_yX0_bitOf rfl ⟨Nat.le_of_ble_eq_true rfl, Nat.le_of_ble_eq_true rfl, Nat.le_of_ble_eq_true rfl, Nat.le_of_ble_eq_true rfl⟩ (Nat.le_of_ble_eq_true rfl) dX0_triplesWith_104 (fun _ _ h => h) rfl (kJ (fun r_104 mi_104 ml_104 h_104 => ?_))
                  obtain ⟨rfl, rfl, h_104⟩ := h_104
                  refine E_lor dX0_triplesWith_107 ?_
                  refine E_iload 7 dX0_triplesWith_108 rfl ?_
                  refine E_iload 1 dX0_triplesWith_110 rfl ?_
                  refine E_iadd dX0_triplesWith_112 ?_
                  refine E_iload_n 3 dX0_triplesWith_113 rfl rfl ?_
                  refine E_isub dX0_triplesWith_114 ?_
                  refine E_iload 0 dX0_triplesWith_115 rfl ?_
                  refine E_callS (c_X0_bitOf l hfl mi ml (((mi 54 i) + (mi 54 j)) - x) (((xl + (mi 55 i)) + (mi 55 j)) - (mi 53 6)) (((D.2.2.2.1 i) + (D.2.2.2.1 j)) - (D.2.2.2.1 N)) ((((D.2.2.2.2 N) + (D.2.2.2.2 i)) + (D.2.2.2.2 j)) - (D.2.1)) (tI_sub (tI_add (hC.2.2.1 i (by omega)).1 (hC.2.2.1 j (by omega)).1 (by omega)) hx (by omega)) (tI_sub (tI_add (tI_add hl (hC.2.2.1 i (by omega)).2 (by omega)) (hC.2.2.1 j (by omega)).2 (by omega)) hC.2.1.2.1 (by omega))) cw_X0_76 (As := [.int (((mi 54 i) + (mi 54 j)) - x), .int (((xl + (mi 55 i)) + (mi 55 j)) - (mi 53 6))]) (st := [.long (r_92 ||| r_104), .long v2]) ws_yX0_bitOf rfl ⟨Nat.le_of_ble_eq_true rfl, Nat.le_of_ble_eq_true rfl, Nat.le_of_ble_eq_true rfl, Nat.le_of_ble_eq_true rfl⟩ (Nat.le_of_ble_eq_true rfl) dX0_triplesWith_117 (fun _ _ h => h) rfl (kJ (fun r_117 mi_117 ml_117 h_117 => ?_))
                  obtain ⟨rfl, rfl, h_117⟩ := h_117
                  refine E_lor dX0_triplesWith_120 ?_
                  refine E_lor dX0_triplesWith_121 ?_
                  refine E_lstore_n [(3, .long (v2 ||| ((r_92 ||| r_104) ||| r_117))), (9, .int (((xl + (mi 55 i)) + (mi 55 j)) - (mi 53 6))), (8, .int (mi 54 j)), (0, .ref 53), (1, .int x), (2, .int xl), (5, .int xi), (6, .int (mi 54 i)), (7, .int xj)] dX0_triplesWith_122 rfl (by decide) rfl ?_
                  refine E_iinc 8 (xj + 1) [(7, .int (xj + 1)), (3, .long (v2 ||| ((r_92 ||| r_104) ||| r_117))), (9, .int (((xl + (mi 55 i)) + (mi 55 j)) - (mi 53 6))), (8, .int (mi 54 j)), (0, .ref 53), (1, .int x), (2, .int xl), (5, .int xi), (6, .int (mi 54 i))] dX0_triplesWith_123 rfl rfl (by decide) rfl ?_
                  refine E_goto 42 dX0_triplesWith_126 (by decide) ?_
                  refine E_sub [4, 5, 6, 1, 7, 8, 0] rfl ?_
                  exact ih42 (xj + 1) (v2 ||| ((r_92 ||| r_104) ||| r_117)) (j + 1) (by omega) ((tI_add hj (show (1 : Int32).toInt = 1 from rfl) (by omega)).trans (by omega)) (by omega) (Bt.iff (Bt.three hv2 h_92 h_104 h_117 hbt (by  show _ = D.2.2.2.1 i + D.2.2.2.1 N - D.2.2.2.1 j; omega) (by show _ = D.2.2.2.2 i + D.2.2.2.2 N + D.2.2.2.2 j - D.2.1; omega) (by  show _ = D.2.2.2.1 j + D.2.2.2.1 N - D.2.2.2.1 i; omega) (by show _ = D.2.2.2.2 j + D.2.2.2.2 N + D.2.2.2.2 i - D.2.1; omega) (by  show _ = D.2.2.2.1 j + D.2.2.2.1 i - D.2.2.2.1 N; omega) (by show _ = D.2.2.2.2 j + D.2.2.2.2 i + D.2.2.2.2 N - D.2.1; omega)) (fun c _ => by rw [or_assoc]; exact or_congr Iff.rfl (ex_s (P := fun q => TX D N i q c) Iff.rfl)))
            refine E_sub [2, 3, 4, 5, 6, 1, 0] rfl ?_
            exact J42 _ 0 v 0 (Nat.lt_succ_self _) (show (0 : Int32).toInt = 0 from rfl) (Nat.zero_le _) (hv.iff (fun c _ => ⟨Or.inl, fun z => z.elim id (fun z => z.elim (fun k q => absurd q.1 (Nat.not_lt_zero k)))⟩))
  refine E_sub [2, 3, 4, 1, 0] rfl ?_
  exact J5 _ 0 0 0 (Nat.lt_succ_self _) (show (0 : Int32).toInt = 0 from rfl) (Nat.zero_le _) (Bt_0.iff (fun c _ => ⟨fun z => z.elim, fun z => z.elim (fun k q => absurd q.1 (Nat.not_lt_zero k))⟩))
set_option maxHeartbeats 1600000 in
set_option maxRecDepth 100000 in
theorem c_X0_join (l : Launch) (hfl : l.stackTraces = false) (mi : MI) (ml : MJ) (D : RD) (g sp : Int) (N : Nat) (hC : CSI mi ml D g sp N) (hR : RgD D g sp (N + 1)) (hN : N < 11) (x : Int32) (hx : x.toInt = D.2.2.2.1 N) (xl : Int32) (hl : xl.toInt = D.2.2.2.2 N) : Ct l yX0_join (.code yX0_join cX0_join 7 (some .boolean)) 3 0 0 [.ref 53, .int x, .int xl] (wl mi ml) (QI (fun r mi9 ml9 => r = bI (ClR D g sp (N + 1)) ∧ Fr [53, 54, 55] mi mi9 ∧ FLc ml ml9 ∧ ((ClR D g sp (N + 1) ∧ CSI mi9 ml9 D g sp (N + 1)) ∨ (¬ ClR D g sp (N + 1) ∧ mi = mi9 ∧ ml = ml9)))) noX := by
  refine Ct_of (ini := false) pn_X0 hfl (fun h => nomatch h) (Nat.le_of_ble_eq_true rfl) ?_
  show E l RX0 cX0_join 7 (some .boolean) false [] (rmE 3 0 0) (wl mi ml) (TgM (wl mi ml) 0 0 (QI (fun r mi9 ml9 => r = bI (ClR D g sp (N + 1)) ∧ Fr [53, 54, 55] mi mi9 ∧ FLc ml ml9 ∧ ((ClR D g sp (N + 1) ∧ CSI mi9 ml9 D g sp (N + 1)) ∨ (¬ ClR D g sp (N + 1) ∧ mi = mi9 ∧ ml = ml9)))) noX) 0 0 0 [(0, .ref 53), (1, .int x), (2, .int xl)] [] (wl mi ml)
  refine E_aload_n 0 dX0_join_0 rfl rfl ?_
  refine gf_X0_25 (mi 53 4) tw_53 rfl rfl dX0_join_1 ?_
  refine Y_lt (N : Int) hC.1.1 24 dX0_join_4 (by decide) (fun c_4 => ?_) (fun c_4 => ?_)
  · exact absurd c_4 (by omega)
  · skip
    refine E_aload_n 0 dX0_join_7 rfl rfl ?_
    refine gf_X0_25 (mi 53 4) tw_53 rfl rfl dX0_join_8 ?_
    refine E_bipush 11 (by decide) dX0_join_11 ?_
    refine Z_ge (N : Int) 11 hC.1.1 (show (11 : Int32).toInt = 11 from rfl) 24 dX0_join_13 (by decide) (fun c_13 => ?_) (fun c_13 => ?_)
    · exact absurd c_13 (by omega)
    · skip
      refine E_aload_n 0 dX0_join_16 rfl rfl ?_
      refine E_iload_n 1 dX0_join_17 rfl rfl ?_
      refine E_callV (c_X0_isCrowded l hfl mi ml D g sp N hC hR hN x hx) cw_X0_51 (As := [.int x]) (st := []) wi_yX0_isCrowded we_yX0_isCrowded (ci := 0) (q := (RX0, TX0, 10)) rfl rfl (wl_atO tw_53) rfl ⟨Nat.le_of_ble_eq_true rfl, Nat.le_of_ble_eq_true rfl, Nat.le_of_ble_eq_true rfl, Nat.le_of_ble_eq_true rfl⟩ (Nat.le_of_ble_eq_true rfl) dX0_join_18 (fun _ _ h => h) rfl (kE ?_)
      refine B_eq 26 dX0_join_21 (by decide) (fun c_21 => ?_) (fun c_21 => ?_)
      · skip
        refine E_aload_n 0 dX0_join_26 rfl rfl ?_
        refine gf_X0_18 tw_53 rfl dX0_join_27 ?_
        refine E_aload_n 0 dX0_join_30 rfl rfl ?_
        refine gf_X0_25 (mi 53 4) tw_53 rfl rfl dX0_join_31 ?_
        refine S_lald N (ml 56 N) tw_56 hC.1.1 (by omega) rfl dX0_join_34 ?_
        refine E_aload_n 0 dX0_join_35 rfl rfl ?_
        refine E_iload_n 1 dX0_join_36 rfl rfl ?_
        refine E_callV (c_X0_guardedBy l hfl mi ml D g sp N hC hR hN x hx) cw_X0_55 (As := [.int x]) (st := [.long (ml 56 N)]) wi_yX0_guardedBy we_yX0_guardedBy (ci := 0) (q := (RX0, TX0, 10)) rfl rfl (wl_atO tw_53) rfl ⟨Nat.le_of_ble_eq_true rfl, Nat.le_of_ble_eq_true rfl, Nat.le_of_ble_eq_true rfl, Nat.le_of_ble_eq_true rfl⟩ (Nat.le_of_ble_eq_true rfl) dX0_join_37 (fun _ _ h => h) rfl (kJ (fun r_37 mi_37 ml_37 h_37 => ?_))
        obtain ⟨rfl, rfl, h_37⟩ := h_37
        refine E_lor dX0_join_40 ?_
        refine E_lstore_n [(3, .long ((ml 56 N) ||| r_37)), (0, .ref 53), (1, .int x), (2, .int xl)] dX0_join_41 rfl (by decide) rfl ?_
        refine E_aload_n 1 dX0_join_42 rfl rfl ?_
        refine gf_X0_22 tw_53 rfl dX0_join_43 ?_
        refine E_aload_n 1 dX0_join_46 rfl rfl ?_
        refine gf_X0_25 (mi 53 4) tw_53 rfl rfl dX0_join_47 ?_
        refine S_lald N (ml 57 N) tw_57 hC.1.1 (by omega) rfl dX0_join_50 ?_
        refine E_aload_n 1 dX0_join_51 rfl rfl ?_
        refine E_iload_n 2 dX0_join_52 rfl rfl ?_
        refine E_iload_n 3 dX0_join_53 rfl rfl ?_
        refine E_callV (c_X0_pairsWith l hfl mi ml D g sp N hC hR hN x hx xl hl) cw_X0_59 (As := [.int x, .int xl]) (st := [.long (ml 57 N)]) wi_yX0_pairsWith we_yX0_pairsWith (ci := 0) (q := (RX0, TX0, 10)) rfl rfl (wl_atO tw_53) rfl ⟨Nat.le_of_ble_eq_true rfl, Nat.le_of_ble_eq_true rfl, Nat.le_of_ble_eq_true rfl, Nat.le_of_ble_eq_true rfl⟩ (Nat.le_of_ble_eq_true rfl) dX0_join_54 (fun _ _ h => h) rfl (kJ (fun r_54 mi_54 ml_54 h_54 => ?_))
        obtain ⟨rfl, rfl, h_54⟩ := h_54
        refine E_lor dX0_join_57 ?_
        refine E_aload_n 1 dX0_join_58 rfl rfl ?_
        refine E_iload_n 2 dX0_join_59 rfl rfl ?_
        refine E_iload_n 3 dX0_join_60 rfl rfl ?_
        refine E_callV (c_X0_triplesWith l hfl mi ml D g sp N hC hR hN x hx xl hl) cw_X0_63 (As := [.int x, .int xl]) (st := [.long ((ml 57 N) ||| r_54)]) wi_yX0_triplesWith we_yX0_triplesWith (ci := 0) (q := (RX0, TX0, 10)) rfl rfl (wl_atO tw_53) rfl ⟨Nat.le_of_ble_eq_true rfl, Nat.le_of_ble_eq_true rfl, Nat.le_of_ble_eq_true rfl, Nat.le_of_ble_eq_true rfl⟩ (Nat.le_of_ble_eq_true rfl) dX0_join_61 (fun _ _ h => h) rfl (kJ (fun r_61 mi_61 ml_61 h_61 => ?_))
        obtain ⟨rfl, rfl, h_61⟩ := h_61
        refine E_lor dX0_join_64 ?_
        refine E_lstore [(5, .long (((ml 57 N) ||| r_54) ||| r_61)), (3, .long ((ml 56 N) ||| r_37)), (0, .ref 53), (1, .int x), (2, .int xl)] dX0_join_65 (by decide) rfl ?_
        have hg9 : Bt (ml 56 N ||| r_37) (Gud D g (N + 1)) := ((hC.2.2.2.1 N (Nat.le_refl N)).1.or h_37).iff (fun c _ => Gud_s.symm)
        have hf9 : Bt ((ml 57 N ||| r_54) ||| r_61) (Fal D (N + 1)) := (((hC.2.2.2.1 N (Nat.le_refl N)).2.or h_54).or h_61).iff (fun c _ => Fal_s.symm)
        refine E_lload_n 1 dX0_join_67 rfl rfl ?_
        refine E_lload 0 dX0_join_68 rfl ?_
        refine E_land dX0_join_70 ?_
        refine E_lconst 0 rfl dX0_join_71 ?_
        refine E_lcmp dX0_join_72 ?_
        refine Y_eq ((lg_cmp (((ml 56 N) ||| r_37) &&& (((ml 57 N) ||| r_54) ||| r_61)) 0).toInt) rfl 78 dX0_join_73 (by decide) (fun c_73 => ?_) (fun c_73 => ?_)
        · skip
          have hcl : ClR D g sp (N + 1) := ClR_iff.mpr ⟨Spd_s.mpr ⟨(ClR_iff.mp hC.2.2.2.2).1, c_21⟩, (Bt_and hg9 hf9).mp (lg_0 c_73)⟩
          refine E_aload_n 2 dX0_join_78 rfl rfl ?_
          refine gf_X0_11 tw_53 rfl dX0_join_79 ?_
          refine E_aload_n 2 dX0_join_82 rfl rfl ?_
          refine gf_X0_25 (mi 53 4) tw_53 rfl rfl dX0_join_83 ?_
          refine E_iload_n 3 dX0_join_86 rfl rfl ?_
          refine S_iast N tw_54 (hC.1.1.trans (by omega)) (by omega) dX0_join_87 ?_
          refine E_aload_n 2 dX0_join_88 rfl rfl ?_
          refine gf_X0_15 tw_53 rfl dX0_join_89 ?_
          refine E_aload_n 2 dX0_join_92 rfl rfl ?_
          refine gf_X0_25 (mi 53 4) tw_53 rfl ((u2_n (by omega)).trans rfl) dX0_join_93 ?_
          refine E_iload_n 4 dX0_join_96 rfl rfl ?_
          refine S_iast N tw_55 (hC.1.1.trans (by omega)) (by omega) dX0_join_97 ?_
          refine E_aload_n 2 dX0_join_98 rfl rfl ?_
          refine E_dup rfl dX0_join_99 ?_
          refine gf_X0_25 (mi 53 4) tw_53 rfl ((u2_n (by omega)).trans ((u2_n (by omega)).trans rfl)) dX0_join_100 ?_
          refine E_iconst 1 (by decide) dX0_join_103 ?_
          refine E_iadd dX0_join_104 ?_
          refine pf_X0_25 tw_53 rfl dX0_join_105 ?_
          refine E_aload_n 2 dX0_join_108 rfl rfl ?_
          refine gf_X0_18 tw_53 rfl dX0_join_109 ?_
          refine E_aload_n 2 dX0_join_112 rfl rfl ?_
          refine gf_X0_25 ((mi 53 4) + 1) tw_53 rfl (u2_s _ _ _ _) dX0_join_113 ?_
          refine E_lload_n 1 dX0_join_116 rfl rfl ?_
          refine S_last (N + 1) tw_56 ((tI_add hC.1.1 (show (1 : Int32).toInt = 1 from rfl) (by omega)).trans (by omega)) (by omega) dX0_join_117 ?_
          refine E_aload_n 2 dX0_join_118 rfl rfl ?_
          refine gf_X0_22 tw_53 rfl dX0_join_119 ?_
          refine E_aload_n 2 dX0_join_122 rfl rfl ?_
          refine gf_X0_25 ((mi 53 4) + 1) tw_53 rfl (u2_s _ _ _ _) dX0_join_123 ?_
          refine E_lload 0 dX0_join_126 rfl ?_
          refine S_last (N + 1) tw_57 ((tI_add hC.1.1 (show (1 : Int32).toInt = 1 from rfl) (by omega)).trans (by omega)) (by omega) dX0_join_128 ?_
          refine E_iconst 1 (by decide) dX0_join_129 ?_
          refine E_zret rfl rfl (Nat.le_of_ble_eq_true rfl) (Nat.le_of_ble_eq_true rfl) dX0_join_130 ?_
          exact okQI ⟨b1 hcl, (((Fr_r.u (by decide)).u (by decide)).u (by decide)), fun p h6 h7 => by rw [u2_p h7, u2_p h6], Or.inl ⟨hcl, CSI_j hC hN hx hl ((tI_add hC.1.1 (show (1 : Int32).toInt = 1 from rfl) (by omega)).trans (by omega)) hg9 hf9 hcl⟩⟩
        · skip
          refine E_iconst 0 (by decide) dX0_join_76 ?_
          refine E_zret rfl rfl (Nat.le_of_ble_eq_true rfl) (Nat.le_of_ble_eq_true rfl) dX0_join_77 ?_
          have hn9 : ¬ ClR D g sp (N + 1) := fun z => lg_1 c_73 ((Bt_and hg9 hf9).mpr (ClR_iff.mp z).2)
          exact okQI ⟨b0 hn9, Fr_r, FLc_r, Or.inr ⟨hn9, rfl, rfl⟩⟩
      · skip
        refine E_iconst 0 (by decide) dX0_join_24 ?_
        refine E_zret rfl rfl (Nat.le_of_ble_eq_true rfl) (Nat.le_of_ble_eq_true rfl) dX0_join_25 ?_
        have hn9 : ¬ ClR D g sp (N + 1) := fun z => (Spd_s.mp (ClR_iff.mp z).1).2 c_21
        exact okQI ⟨b0 hn9, Fr_r, FLc_r, Or.inr ⟨hn9, rfl, rfl⟩⟩
set_option maxHeartbeats 1600000 in
set_option maxRecDepth 100000 in
theorem c_X0_leave (l : Launch) (hfl : l.stackTraces = false) (mi : MI) (ml : MJ) (D : RD) (g sp : Int) (N : Nat) (hC : CSI mi ml D g sp (N + 1)) (hN : N < 11) : Ct l yX0_leave (.code yX0_leave cX0_leave 1 none) 1 0 0 [.ref 53] (wl mi ml) (QV (fun mi9 ml9 => ml = ml9 ∧ Fr [53] mi mi9 ∧ CSI mi9 ml D g sp N)) noX := by
  refine Ct_of (ini := false) pn_X0 hfl (fun h => nomatch h) (Nat.le_of_ble_eq_true rfl) ?_
  show E l RX0 cX0_leave 1 none false [] (rmE 1 0 0) (wl mi ml) (TgM (wl mi ml) 0 0 (QV (fun mi9 ml9 => ml = ml9 ∧ Fr [53] mi mi9 ∧ CSI mi9 ml D g sp N)) noX) 0 0 0 [(0, .ref 53)] [] (wl mi ml)
  refine E_aload_n 0 dX0_leave_0 rfl rfl ?_
  refine E_aload_n 0 dX0_leave_1 rfl rfl ?_
  refine gf_X0_25 (mi 53 4) tw_53 rfl rfl dX0_leave_2 ?_
  refine E_iconst 1 (by decide) dX0_leave_5 ?_
  refine E_isub dX0_leave_6 ?_
  refine E_iconst 0 (by decide) dX0_leave_7 ?_
  refine E_max wl_X0_66 ws_max wz_Math wc_max ⟨Nat.le_of_ble_eq_true rfl, Nat.le_of_ble_eq_true rfl, Nat.le_of_ble_eq_true rfl, Nat.le_of_ble_eq_true rfl⟩ dX0_leave_8 ?_
  refine pf_X0_25 tw_53 rfl dX0_leave_11 ?_
  refine E_vret rfl (Nat.le_of_ble_eq_true rfl) (Nat.le_of_ble_eq_true rfl) dX0_leave_14 ?_
  exact okQV ⟨rfl, Fr_r.u (by decide), hC.le (by omega) (fun k hk => u2_n (Or.inr hk)) (u2_p (by decide)) (u2_p (by decide)) (by rw [u2_s]; exact (tI_mx (tI_sub hC.1.1 (show (1 : Int32).toInt = 1 from rfl) (by omega)) (show (0 : Int32).toInt = 0 from rfl)).trans (by omega))⟩
theorem rbF_a (R : List Nat) (x : Nat) : rbF (R ++ [x]) = rbF R ||| ((1 : Int64) <<< ((nI x).toInt64 &&& 63)) := by unfold rbF; rw [List.foldl_append]; rfl
set_option maxHeartbeats 1600000 in
set_option maxRecDepth 100000 in
theorem c_X0_channelSet (l : Launch) (hfl : l.stackTraces = false) (mi : MI) (ml : MJ) (V : Nat → Int32) (R : List Nat) (g sp : Int) (hC : CSI mi ml (DS V R) g sp R.length) (hR64 : ∀ x, x ∈ R → x < 64) : Ct l yX0_channelSet (.code yX0_channelSet cX0_channelSet 4 (some .long)) 0 0 0 [.ref 53] (wl mi ml) (QP (some (.long (rbF R))) (wl mi ml)) noX := by
  refine Ct_of (ini := false) pn_X0 hfl (fun h => nomatch h) (Nat.le_of_ble_eq_true rfl) ?_
  show E l RX0 cX0_channelSet 4 (some .long) false [] (rmE 0 0 0) (wl mi ml) (TgM (wl mi ml) 0 0 (QP (some (.long (rbF R))) (wl mi ml)) noX) 0 0 0 [(0, .ref 53)] [] (wl mi ml)
  have h11 := hC.1.2
  refine E_lconst 0 rfl dX0_channelSet_0 ?_
  refine E_lstore_n [(1, .long 0), (0, .ref 53)] dX0_channelSet_1 rfl (by decide) rfl ?_
  refine E_iconst 0 (by decide) dX0_channelSet_2 ?_
  refine E_istore_n [(3, .int 0), (1, .long 0), (0, .ref 53)] dX0_channelSet_3 rfl (by decide) rfl ?_
  have J4 : ∀ (Nm : Nat) (xi : Int32) (v : Int64) (i : Nat), R.length - i < Nm → xi.toInt = (i : Int) → v = rbF (R.take i) → i ≤ R.length → E l RX0 cX0_channelSet 4 (some .long) false [] (rmE 0 0 0) (wl mi ml) (TgM (wl mi ml) 0 0 (QP (some (.long (rbF R))) (wl mi ml)) noX) 0 0 4 [(0, .ref 53), (1, .long v), (3, .int xi)] [] (wl mi ml) := by
    intro Nm
    induction Nm with
    | zero => intros; omega
    | succ Nm ih4 =>
      intro xi v i hN4 hi hv hin
      refine E_iload_n 2 dX0_channelSet_4 rfl rfl ?_
      refine E_aload_n 0 dX0_channelSet_5 rfl rfl ?_
      refine gf_X0_25 (mi 53 4) tw_53 rfl rfl dX0_channelSet_6 ?_
      refine Z_ge (i : Int) ((R.length : Nat) : Int) hi hC.1.1 35 dX0_channelSet_9 (by decide) (fun c_9 => ?_) (fun c_9 => ?_)
      · skip
        refine E_lload_n 1 dX0_channelSet_35 rfl rfl ?_
        refine E_lret rfl (Nat.le_of_ble_eq_true rfl) (Nat.le_of_ble_eq_true rfl) dX0_channelSet_36 ?_
        exact okPJ (by rw [hv, show i = R.length by omega, List.take_length])
      · skip
        refine E_iload_n 2 dX0_channelSet_12 rfl rfl ?_
        refine E_bipush 11 (by decide) dX0_channelSet_13 ?_
        refine Z_ge (i : Int) 11 hi (show (11 : Int32).toInt = 11 from rfl) 35 dX0_channelSet_15 (by decide) (fun c_15 => ?_) (fun c_15 => ?_)
        · skip
          refine E_lload_n 1 dX0_channelSet_35 rfl rfl ?_
          refine E_lret rfl (Nat.le_of_ble_eq_true rfl) (Nat.le_of_ble_eq_true rfl) dX0_channelSet_36 ?_
          exact okPJ (by rw [hv, show i = R.length by omega, List.take_length])
        · skip
          obtain ⟨q, hq⟩ : ∃ q, R[i]? = some q := ⟨_, List.getElem?_eq_getElem (show i < R.length by omega)⟩
          have hq9 : (mi 54 i).toInt = (q : Int) := (hC.2.2.1 i (by omega)).1.trans (by show ((R.getD i 0 : Nat) : Int) = q; rw [List.getD_eq_getElem?_getD, hq]; rfl)
          refine E_lload_n 1 dX0_channelSet_18 rfl rfl ?_
          refine E_lconst 1 rfl dX0_channelSet_19 ?_
          refine E_aload_n 0 dX0_channelSet_20 rfl rfl ?_
          refine gf_X0_11 tw_53 rfl dX0_channelSet_21 ?_
          refine E_iload_n 2 dX0_channelSet_24 rfl rfl ?_
          refine S_iald i (mi 54 i) tw_54 (hi.trans (by omega)) (by omega) rfl dX0_channelSet_25 ?_
          refine E_lshl dX0_channelSet_26 ?_
          refine E_lor dX0_channelSet_27 ?_
          refine E_lstore_n [(1, .long (v ||| (1 <<< ((mi 54 i).toInt64 &&& 63)))), (0, .ref 53), (3, .int xi)] dX0_channelSet_28 rfl (by decide) rfl ?_
          refine E_iinc 2 (xi + 1) [(3, .int (xi + 1)), (1, .long (v ||| (1 <<< ((mi 54 i).toInt64 &&& 63)))), (0, .ref 53)] dX0_channelSet_29 rfl rfl (by decide) rfl ?_
          refine E_goto 4 dX0_channelSet_32 (by decide) ?_
          refine E_sub [2, 1, 0] rfl ?_
          exact ih4 (xi + 1) (v ||| (1 <<< ((mi 54 i).toInt64 &&& 63))) (i + 1) (by omega) ((tI_add hi (show (1 : Int32).toInt = 1 from rfl) (by omega)).trans (by omega)) (by rw [take_s hq, rbF_a, hv, tI_nIx hq9]) (by omega)
  refine E_sub [2, 1, 0] rfl ?_
  exact J4 _ 0 0 0 (Nat.lt_succ_self _) (show (0 : Int32).toInt = 0 from rfl) rfl (Nat.zero_le _)
end CL2
