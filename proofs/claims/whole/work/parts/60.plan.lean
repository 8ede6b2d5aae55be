section PLA
set_option maxHeartbeats 1600000 in
set_option maxRecDepth 100000 in
theorem c_X4_byteAt (l : Launch) (hfl : l.stackTraces = false) (mi : MI) (ml : MJ) (N : Nat) (hN : (mi 58 1).toInt = (N : Int)) (hN2 : N ≤ 120) (row : Nat → Int32) (hrow : mi 59 = row) (xi : Int32) (p : Nat) (hp : xi.toInt = (p : Int)) : Ct l yX4_byteAt (.code yX4_byteAt cX4_byteAt 2 (some .int)) 0 0 0 [.ref 58, .int xi] (wl mi ml) (QP (some (.int (hV row N p))) (wl mi ml)) noX := by
  refine Ct_of (ini := false) pn_X4 hfl (fun h => nomatch h) (Nat.le_of_ble_eq_true rfl) ?_
  show E l RX4 cX4_byteAt 2 (some .int) false [] (rmE 0 0 0) (wl mi ml) (TgM (wl mi ml) 0 0 (QP (some (.int (hV row N p))) (wl mi ml)) noX) 0 0 0 [(0, .ref 58), (1, .int xi)] [] (wl mi ml)
  refine E_iload_n 1 dX4_byteAt_0 rfl rfl ?_
  refine Y_lt (p : Int) hp 27 dX4_byteAt_1 (by decide) (fun c_1 => ?_) (fun c_1 => ?_)
  · skip
    refine E_iconst (-1) (by decide) dX4_byteAt_27 ?_
    refine E_iret rfl (Nat.le_of_ble_eq_true rfl) (Nat.le_of_ble_eq_true rfl) dX4_byteAt_28 ?_
    exact okP (hV_n (by omega))
  · skip
    refine E_iload_n 1 dX4_byteAt_4 rfl rfl ?_
    refine E_aload_n 0 dX4_byteAt_5 rfl rfl ?_
    refine gf_X4_15 (mi 58 1) tw_58 rfl rfl dX4_byteAt_6 ?_
    refine Z_ge (p : Int) (N : Int) hp hN 27 dX4_byteAt_9 (by decide) (fun c_9 => ?_) (fun c_9 => ?_)
    · skip
      refine E_iconst (-1) (by decide) dX4_byteAt_27 ?_
      refine E_iret rfl (Nat.le_of_ble_eq_true rfl) (Nat.le_of_ble_eq_true rfl) dX4_byteAt_28 ?_
      exact okP (hV_n (by omega))
    · skip
      refine E_iload_n 1 dX4_byteAt_12 rfl rfl ?_
      refine E_bipush 120 (by decide) dX4_byteAt_13 ?_
      refine Z_ge (p : Int) 120 hp (show (120 : Int32).toInt = 120 from rfl) 27 dX4_byteAt_15 (by decide) (fun c_15 => ?_) (fun c_15 => ?_)
      · skip
        refine E_iconst (-1) (by decide) dX4_byteAt_27 ?_
        refine E_iret rfl (Nat.le_of_ble_eq_true rfl) (Nat.le_of_ble_eq_true rfl) dX4_byteAt_28 ?_
        exact okP (hV_n (by omega))
      · skip
        refine E_aload_n 0 dX4_byteAt_18 rfl rfl ?_
        refine gf_X4_9 tw_58 rfl dX4_byteAt_19 ?_
        refine E_iload_n 1 dX4_byteAt_22 rfl rfl ?_
        refine S_iald p (mi 59 p) tw_59 (hp.trans (by omega)) (by omega) rfl dX4_byteAt_23 ?_
        refine E_goto 28 dX4_byteAt_24 (by decide) ?_
        refine E_iret rfl (Nat.le_of_ble_eq_true rfl) (Nat.le_of_ble_eq_true rfl) dX4_byteAt_28 ?_
        exact okP ((congrFun hrow p).trans (hV_y (by omega)))
set_option maxHeartbeats 1600000 in
set_option maxRecDepth 100000 in
theorem c_X4_isDigit (l : Launch) (hfl : l.stackTraces = false) (mi : MI) (ml : MJ) (x : Int32) (X : Int) (hX : x.toInt = X) : Ct l yX4_isDigit (.code yX4_isDigit cX4_isDigit 1 (some .boolean)) 0 0 0 [.int x] (wl mi ml) (QP (some (.int (bI (48 ≤ X ∧ X ≤ 57)))) (wl mi ml)) noX := by
  refine Ct_of (ini := false) pn_X4 hfl (fun h => nomatch h) (Nat.le_of_ble_eq_true rfl) ?_
  show E l RX4 cX4_isDigit 1 (some .boolean) false [] (rmE 0 0 0) (wl mi ml) (TgM (wl mi ml) 0 0 (QP (some (.int (bI (48 ≤ X ∧ X ≤ 57)))) (wl mi ml)) noX) 0 0 0 [(0, .int x)] [] (wl mi ml)
  refine E_iload_n 0 dX4_isDigit_0 rfl rfl ?_
  refine E_bipush 48 (by decide) dX4_isDigit_1 ?_
  refine Z_lt X 48 hX (show (48 : Int32).toInt = 48 from rfl) 16 dX4_isDigit_3 (by decide) (fun c_3 => ?_) (fun c_3 => ?_)
  · skip
    refine E_iconst 0 (by decide) dX4_isDigit_16 ?_
    refine E_zret rfl rfl (Nat.le_of_ble_eq_true rfl) (Nat.le_of_ble_eq_true rfl) dX4_isDigit_17 ?_
    exact okP (b0 (by omega))
  · skip
    refine E_iload_n 0 dX4_isDigit_6 rfl rfl ?_
    refine E_bipush 57 (by decide) dX4_isDigit_7 ?_
    refine Z_gt X 57 hX (show (57 : Int32).toInt = 57 from rfl) 16 dX4_isDigit_9 (by decide) (fun c_9 => ?_) (fun c_9 => ?_)
    · skip
      refine E_iconst 0 (by decide) dX4_isDigit_16 ?_
      refine E_zret rfl rfl (Nat.le_of_ble_eq_true rfl) (Nat.le_of_ble_eq_true rfl) dX4_isDigit_17 ?_
      exact okP (b0 (by omega))
    · skip
      refine E_iconst 1 (by decide) dX4_isDigit_12 ?_
      refine E_goto 17 dX4_isDigit_13 (by decide) ?_
      refine E_zret rfl rfl (Nat.le_of_ble_eq_true rfl) (Nat.le_of_ble_eq_true rfl) dX4_isDigit_17 ?_
      exact okP (b1 (by omega))
set_option maxHeartbeats 1600000 in
set_option maxRecDepth 100000 in
theorem c_X4_readNumberE (l : Launch) (hfl : l.stackTraces = false) (mi : MI) (ml : MJ) (he : (mi 58 4).toInt ≠ -1) : Ct l yX4_readNumber (.code yX4_readNumber cX4_readNumber 3 (some .int)) 0 0 0 [.ref 58] (wl mi ml) (QP (some (.int 0)) (wl mi ml)) noX := by
  refine Ct_of (ini := false) pn_X4 hfl (fun h => nomatch h) (Nat.le_of_ble_eq_true rfl) ?_
  show E l RX4 cX4_readNumber 3 (some .int) false [] (rmE 0 0 0) (wl mi ml) (TgM (wl mi ml) 0 0 (QP (some (.int 0)) (wl mi ml)) noX) 0 0 0 [(0, .ref 58)] [] (wl mi ml)
  refine E_aload_n 0 dX4_readNumber_0 rfl rfl ?_
  refine gf_X4_22 (mi 58 4) tw_58 rfl rfl dX4_readNumber_1 ?_
  refine E_iconst (-1) (by decide) dX4_readNumber_4 ?_
  refine Z_eq ((mi 58 4).toInt) (-1) rfl (show ((-1) : Int32).toInt = (-1) from rfl) 10 dX4_readNumber_5 (by decide) (fun c_5 => ?_) (fun c_5 => ?_)
  · exact absurd c_5 he
  · skip
    refine E_iconst 0 (by decide) dX4_readNumber_8 ?_
    refine E_iret rfl (Nat.le_of_ble_eq_true rfl) (Nat.le_of_ble_eq_true rfl) dX4_readNumber_9 ?_
    exact okP rfl
/-- the plan's fields: length, place, number's place, error -/
def PLF (mi mj : MI) (p q : Int) (e : Int) : Prop := Fr [58] mi mj ∧ mj 58 1 = mi 58 1 ∧ (mj 58 2).toInt = p ∧ (mj 58 3).toInt = q ∧ (mj 58 4).toInt = e
theorem rdV_b {t : Nat → Int} {p i : Nat} (hi : i ≤ 1) (h : ∀ j, j < i → dg (t (p + j))) : rdV t p i ≤ 9 := by
  rcases (show i = 0 ∨ i = 1 by omega) with q | q
  · subst q; exact Nat.zero_le _
  · subst q
    have h1 := h 0 (by omega)
    unfold dg at h1
    rw [rdV, rdV]
    show 10 * 0 + (t (p + 0) - 48).toNat ≤ 9
    omega
set_option maxHeartbeats 1600000 in
set_option maxRecDepth 100000 in
theorem c_X4_readNumber (l : Launch) (hfl : l.stackTraces = false) (mi : MI) (ml : MJ) (N : Nat) (hN : (mi 58 1).toInt = (N : Int)) (hN2 : N ≤ 120) (p : Nat) (hp : (mi 58 2).toInt = (p : Int)) (hp2 : p ≤ 1000) (he : (mi 58 4).toInt = -1) : Ct l yX4_readNumber (.code yX4_readNumber cX4_readNumber 3 (some .int)) 1 0 0 [.ref 58] (wl mi ml) (QI (fun r mi9 ml9 => ml = ml9 ∧ r.toInt = (rdV (tX (mi 59) N) p (rdI (tX (mi 59) N) p) : Int) ∧ ((rdO (tX (mi 59) N) p ∧ PLF mi mi9 ((p + rdI (tX (mi 59) N) p : Nat) : Int) (p : Int) (-1)) ∨ (¬ rdO (tX (mi 59) N) p ∧ PLF mi mi9 ((p + rdI (tX (mi 59) N) p : Nat) : Int) (p : Int) ((p + rdI (tX (mi 59) N) p : Nat) : Int))))) noX := by
  refine Ct_of (ini := false) pn_X4 hfl (fun h => nomatch h) (Nat.le_of_ble_eq_true rfl) ?_
  show E l RX4 cX4_readNumber 3 (some .int) false [] (rmE 1 0 0) (wl mi ml) (TgM (wl mi ml) 0 0 (QI (fun r mi9 ml9 => ml = ml9 ∧ r.toInt = (rdV (tX (mi 59) N) p (rdI (tX (mi 59) N) p) : Int) ∧ ((rdO (tX (mi 59) N) p ∧ PLF mi mi9 ((p + rdI (tX (mi 59) N) p : Nat) : Int) (p : Int) (-1)) ∨ (¬ rdO (tX (mi 59) N) p ∧ PLF mi mi9 ((p + rdI (tX (mi 59) N) p : Nat) : Int) (p : Int) ((p + rdI (tX (mi 59) N) p : Nat) : Int))))) noX) 0 0 0 [(0, .ref 58)] [] (wl mi ml)
  refine E_aload_n 0 dX4_readNumber_0 rfl rfl ?_
  refine gf_X4_22 (mi 58 4) tw_58 rfl rfl dX4_readNumber_1 ?_
  refine E_iconst (-1) (by decide) dX4_readNumber_4 ?_
  refine Z_eq (-1) (-1) he (show ((-1) : Int32).toInt = (-1) from rfl) 10 dX4_readNumber_5 (by decide) (fun c_5 => ?_) (fun c_5 => ?_)
  · skip
    refine E_aload_n 0 dX4_readNumber_10 rfl rfl ?_
    refine E_aload_n 0 dX4_readNumber_11 rfl rfl ?_
    refine gf_X4_19 (mi 58 2) tw_58 rfl rfl dX4_readNumber_12 ?_
    refine pf_X4_87 tw_58 rfl dX4_readNumber_15 ?_
    refine E_iconst 0 (by decide) dX4_readNumber_18 ?_
    refine E_istore_n [(1, .int 0), (0, .ref 58)] dX4_readNumber_19 rfl (by decide) rfl ?_
    refine E_iconst 0 (by decide) dX4_readNumber_20 ?_
    refine E_istore_n [(2, .int 0), (1, .int 0), (0, .ref 58)] dX4_readNumber_21 rfl (by decide) rfl ?_
    have J22 : ∀ (Nm : Nat) (xv xi : Int32) (i : Nat) (mj : MI), 2 - i < Nm → xi.toInt = (i : Int) → i ≤ 2 → xv.toInt = (rdV (tX (mi 59) N) p i : Int) → (∀ j, j < i → dg ((tX (mi 59) N) (p + j))) → PLF mi mj ((p + i : Nat) : Int) (p : Int) (-1) → E l RX4 cX4_readNumber 3 (some .int) false [] (rmE 1 0 0) (wl mi ml) (TgM (wl mi ml) 0 0 (QI (fun r mi9 ml9 => ml = ml9 ∧ r.toInt = (rdV (tX (mi 59) N) p (rdI (tX (mi 59) N) p) : Int) ∧ ((rdO (tX (mi 59) N) p ∧ PLF mi mi9 ((p + rdI (tX (mi 59) N) p : Nat) : Int) (p : Int) (-1)) ∨ (¬ rdO (tX (mi 59) N) p ∧ PLF mi mi9 ((p + rdI (tX (mi 59) N) p : Nat) : Int) (p : Int) ((p + rdI (tX (mi 59) N) p : Nat) : Int))))) noX) 0 0 22 [(0, .ref 58), (1, .int xv), (2, .int xi)] [] (wl mj ml) := by
      intro Nm
      induction Nm with
      | zero => intros; omega
      | succ Nm ih22 =>
        intro xv xi i mj hN22 hi hi2 hv hdg hP
        refine E_iload_n 2 dX4_readNumber_22 rfl rfl ?_
        refine E_iconst 2 (by decide) dX4_readNumber_23 ?_
        refine Z_ge (i : Int) 2 hi (show (2 : Int32).toInt = 2 from rfl) 74 dX4_readNumber_24 (by decide) (fun c_24 => ?_) (fun c_24 => ?_)
        · skip
          have hri : rdI (tX (mi 59) N) p = i := rdI_e hi2 hdg (Or.inl (by omega))
          refine E_aload_n 0 dX4_readNumber_74 rfl rfl ?_
          refine gf_X4_19 (mj 58 2) tw_58 rfl rfl dX4_readNumber_75 ?_
          refine E_aload_n 0 dX4_readNumber_78 rfl rfl ?_
          refine gf_X4_87 (mj 58 3) tw_58 rfl rfl dX4_readNumber_79 ?_
          refine Z_eq ((p + i : Nat) : Int) (p : Int) hP.2.2.1 hP.2.2.2.1 99 dX4_readNumber_82 (by decide) (fun c_82 => ?_) (fun c_82 => ?_)
          · skip
            refine E_aload_n 0 dX4_readNumber_99 rfl rfl ?_
            refine E_aload_n 0 dX4_readNumber_100 rfl rfl ?_
            refine gf_X4_19 (mj 58 2) tw_58 rfl rfl dX4_readNumber_101 ?_
            refine pf_X4_22 tw_58 rfl dX4_readNumber_104 ?_
            refine E_iload_n 1 dX4_readNumber_107 rfl rfl ?_
            refine E_iret rfl (Nat.le_of_ble_eq_true rfl) (Nat.le_of_ble_eq_true rfl) dX4_readNumber_108 ?_
            exact okQI ⟨rfl, by rw [hri]; exact hv, Or.inr ⟨fun z => absurd z.1 (by rw [hri]; omega), by rw [hri]; exact ⟨hP.1.u (by decide), (u2_n (by omega)).trans hP.2.1, (congrArg Int32.toInt (u2_n (by omega))).trans hP.2.2.1, (congrArg Int32.toInt (u2_n (by omega))).trans hP.2.2.2.1, (congrArg Int32.toInt (u2_s _ _ _ _)).trans hP.2.2.1⟩⟩⟩
          · skip
            refine E_aload_n 0 dX4_readNumber_85 rfl rfl ?_
            refine E_aload_n 0 dX4_readNumber_86 rfl rfl ?_
            refine gf_X4_19 (mj 58 2) tw_58 rfl rfl dX4_readNumber_87 ?_
            refine E_callV (c_X4_byteAt l hfl mj ml N ((congrArg Int32.toInt hP.2.1).trans hN) hN2 (mi 59) (hP.1 59 (by decide)) (mj 58 2) (p + i) (hP.2.2.1.trans (by omega))) cw_X4_29 (As := [.int (mj 58 2)]) (st := []) wi_yX4_byteAt we_yX4_byteAt (ci := 4) (q := (RX4, TX4, 5)) rfl rfl (wl_atO tw_58) rfl ⟨Nat.le_of_ble_eq_true rfl, Nat.le_of_ble_eq_true rfl, Nat.le_of_ble_eq_true rfl, Nat.le_of_ble_eq_true rfl⟩ (Nat.le_of_ble_eq_true rfl) dX4_readNumber_90 (fun _ _ h => h) rfl (kE ?_)
            refine E_callS (c_X4_isDigit l hfl mj ml (hV (mi 59) N (p + i)) (tX (mi 59) N (p + i)) hV_t) cw_X4_90 (As := [.int (hV (mi 59) N (p + i))]) (st := []) ws_yX4_isDigit rfl ⟨Nat.le_of_ble_eq_true rfl, Nat.le_of_ble_eq_true rfl, Nat.le_of_ble_eq_true rfl, Nat.le_of_ble_eq_true rfl⟩ (Nat.le_of_ble_eq_true rfl) dX4_readNumber_93 (fun _ _ h => h) rfl (kE ?_)
            refine B_eq 107 dX4_readNumber_96 (by decide) (fun c_96 => ?_) (fun c_96 => ?_)
            · skip
              refine E_iload_n 1 dX4_readNumber_107 rfl rfl ?_
              refine E_iret rfl (Nat.le_of_ble_eq_true rfl) (Nat.le_of_ble_eq_true rfl) dX4_readNumber_108 ?_
              exact okQI ⟨rfl, by rw [hri]; exact hv, Or.inl ⟨⟨by rw [hri]; omega, by rw [hri]; exact c_96⟩, by rw [hri]; exact hP⟩⟩
            · skip
              refine E_aload_n 0 dX4_readNumber_99 rfl rfl ?_
              refine E_aload_n 0 dX4_readNumber_100 rfl rfl ?_
              refine gf_X4_19 (mj 58 2) tw_58 rfl rfl dX4_readNumber_101 ?_
              refine pf_X4_22 tw_58 rfl dX4_readNumber_104 ?_
              refine E_iload_n 1 dX4_readNumber_107 rfl rfl ?_
              refine E_iret rfl (Nat.le_of_ble_eq_true rfl) (Nat.le_of_ble_eq_true rfl) dX4_readNumber_108 ?_
              exact okQI ⟨rfl, by rw [hri]; exact hv, Or.inr ⟨fun z => z.2 (by rw [hri]; exact c_96), by rw [hri]; exact ⟨hP.1.u (by decide), (u2_n (by omega)).trans hP.2.1, (congrArg Int32.toInt (u2_n (by omega))).trans hP.2.2.1, (congrArg Int32.toInt (u2_n (by omega))).trans hP.2.2.2.1, (congrArg Int32.toInt (u2_s _ _ _ _)).trans hP.2.2.1⟩⟩⟩
        · skip
          refine E_aload_n 0 dX4_readNumber_27 rfl rfl ?_
          refine E_aload_n 0 dX4_readNumber_28 rfl rfl ?_
          refine gf_X4_19 (mj 58 2) tw_58 rfl rfl dX4_readNumber_29 ?_
          refine E_callV (c_X4_byteAt l hfl mj ml N ((congrArg Int32.toInt hP.2.1).trans hN) hN2 (mi 59) (hP.1 59 (by decide)) (mj 58 2) (p + i) (hP.2.2.1.trans (by omega))) cw_X4_29 (As := [.int (mj 58 2)]) (st := []) wi_yX4_byteAt we_yX4_byteAt (ci := 4) (q := (RX4, TX4, 5)) rfl rfl (wl_atO tw_58) rfl ⟨Nat.le_of_ble_eq_true rfl, Nat.le_of_ble_eq_true rfl, Nat.le_of_ble_eq_true rfl, Nat.le_of_ble_eq_true rfl⟩ (Nat.le_of_ble_eq_true rfl) dX4_readNumber_32 (fun _ _ h => h) rfl (kE ?_)
          refine E_callS (c_X4_isDigit l hfl mj ml (hV (mi 59) N (p + i)) (tX (mi 59) N (p + i)) hV_t) cw_X4_90 (As := [.int (hV (mi 59) N (p + i))]) (st := []) ws_yX4_isDigit rfl ⟨Nat.le_of_ble_eq_true rfl, Nat.le_of_ble_eq_true rfl, Nat.le_of_ble_eq_true rfl, Nat.le_of_ble_eq_true rfl⟩ (Nat.le_of_ble_eq_true rfl) dX4_readNumber_35 (fun _ _ h => h) rfl (kE ?_)
          refine B_eq 74 dX4_readNumber_38 (by decide) (fun c_38 => ?_) (fun c_38 => ?_)
          · skip
            have hri : rdI (tX (mi 59) N) p = i := rdI_e hi2 hdg (Or.inr c_38)
            refine E_aload_n 0 dX4_readNumber_74 rfl rfl ?_
            refine gf_X4_19 (mj 58 2) tw_58 rfl rfl dX4_readNumber_75 ?_
            refine E_aload_n 0 dX4_readNumber_78 rfl rfl ?_
            refine gf_X4_87 (mj 58 3) tw_58 rfl rfl dX4_readNumber_79 ?_
            refine Z_eq ((p + i : Nat) : Int) (p : Int) hP.2.2.1 hP.2.2.2.1 99 dX4_readNumber_82 (by decide) (fun c_82 => ?_) (fun c_82 => ?_)
            · skip
              refine E_aload_n 0 dX4_readNumber_99 rfl rfl ?_
              refine E_aload_n 0 dX4_readNumber_100 rfl rfl ?_
              refine gf_X4_19 (mj 58 2) tw_58 rfl rfl dX4_readNumber_101 ?_
              refine pf_X4_22 tw_58 rfl dX4_readNumber_104 ?_
              refine E_iload_n 1 dX4_readNumber_107 rfl rfl ?_
              refine E_iret rfl (Nat.le_of_ble_eq_true rfl) (Nat.le_of_ble_eq_true rfl) dX4_readNumber_108 ?_
              exact okQI ⟨rfl, by rw [hri]; exact hv, Or.inr ⟨fun z => absurd z.1 (by rw [hri]; omega), by rw [hri]; exact ⟨hP.1.u (by decide), (u2_n (by omega)).trans hP.2.1, (congrArg Int32.toInt (u2_n (by omega))).trans hP.2.2.1, (congrArg Int32.toInt (u2_n (by omega))).trans hP.2.2.2.1, (congrArg Int32.toInt (u2_s _ _ _ _)).trans hP.2.2.1⟩⟩⟩
            · skip
              refine E_aload_n 0 dX4_readNumber_85 rfl rfl ?_
              refine E_aload_n 0 dX4_readNumber_86 rfl rfl ?_
              refine gf_X4_19 (mj 58 2) tw_58 rfl rfl dX4_readNumber_87 ?_
              refine E_callV (c_X4_byteAt l hfl mj ml N ((congrArg Int32.toInt hP.2.1).trans hN) hN2 (mi 59) (hP.1 59 (by decide)) (mj 58 2) (p + i) (hP.2.2.1.trans (by omega))) cw_X4_29 (As := [.int (mj 58 2)]) (st := []) wi_yX4_byteAt we_yX4_byteAt (ci := 4) (q := (RX4, TX4, 5)) rfl rfl (wl_atO tw_58) rfl ⟨Nat.le_of_ble_eq_true rfl, Nat.le_of_ble_eq_true rfl, Nat.le_of_ble_eq_true rfl, Nat.le_of_ble_eq_true rfl⟩ (Nat.le_of_ble_eq_true rfl) dX4_readNumber_90 (fun _ _ h => h) rfl (kE ?_)
              refine E_callS (c_X4_isDigit l hfl mj ml (hV (mi 59) N (p + i)) (tX (mi 59) N (p + i)) hV_t) cw_X4_90 (As := [.int (hV (mi 59) N (p + i))]) (st := []) ws_yX4_isDigit rfl ⟨Nat.le_of_ble_eq_true rfl, Nat.le_of_ble_eq_true rfl, Nat.le_of_ble_eq_true rfl, Nat.le_of_ble_eq_true rfl⟩ (Nat.le_of_ble_eq_true rfl) dX4_readNumber_93 (fun _ _ h => h) rfl (kE ?_)
              refine B_eq 107 dX4_readNumber_96 (by decide) (fun c_96 => ?_) (fun c_96 => ?_)
              · skip
                refine E_iload_n 1 dX4_readNumber_107 rfl rfl ?_
                refine E_iret rfl (Nat.le_of_ble_eq_true rfl) (Nat.le_of_ble_eq_true rfl) dX4_readNumber_108 ?_
                exact okQI ⟨rfl, by rw [hri]; exact hv, Or.inl ⟨⟨by rw [hri]; omega, by rw [hri]; exact c_96⟩, by rw [hri]; exact hP⟩⟩
              · skip
                refine E_aload_n 0 dX4_readNumber_99 rfl rfl ?_
                refine E_aload_n 0 dX4_readNumber_100 rfl rfl ?_
                refine gf_X4_19 (mj 58 2) tw_58 rfl rfl dX4_readNumber_101 ?_
                refine pf_X4_22 tw_58 rfl dX4_readNumber_104 ?_
                refine E_iload_n 1 dX4_readNumber_107 rfl rfl ?_
                refine E_iret rfl (Nat.le_of_ble_eq_true rfl) (Nat.le_of_ble_eq_true rfl) dX4_readNumber_108 ?_
                exact okQI ⟨rfl, by rw [hri]; exact hv, Or.inr ⟨fun z => z.2 (by rw [hri]; exact c_96), by rw [hri]; exact ⟨hP.1.u (by decide), (u2_n (by omega)).trans hP.2.1, (congrArg Int32.toInt (u2_n (by omega))).trans hP.2.2.1, (congrArg Int32.toInt (u2_n (by omega))).trans hP.2.2.2.1, (congrArg Int32.toInt (u2_s _ _ _ _)).trans hP.2.2.1⟩⟩⟩
          · skip
            have hvb := rdV_b (t := (tX (mi 59) N)) (p := p) (i := i) (by omega) hdg
            refine E_bipush 10 (by decide) dX4_readNumber_41 ?_
            refine E_iload_n 1 dX4_readNumber_43 rfl rfl ?_
            refine E_imul dX4_readNumber_44 ?_
            refine E_aload_n 0 dX4_readNumber_45 rfl rfl ?_
            refine E_aload_n 0 dX4_readNumber_46 rfl rfl ?_
            refine gf_X4_19 (mj 58 2) tw_58 rfl rfl dX4_readNumber_47 ?_
            refine E_callV (c_X4_byteAt l hfl mj ml N ((congrArg Int32.toInt hP.2.1).trans hN) hN2 (mi 59) (hP.1 59 (by decide)) (mj 58 2) (p + i) (hP.2.2.1.trans (by omega))) cw_X4_29 (As := [.int (mj 58 2)]) (st := [.int (10 * xv)]) wi_yX4_byteAt we_yX4_byteAt (ci := 4) (q := (RX4, TX4, 5)) rfl rfl (wl_atO tw_58) rfl ⟨Nat.le_of_ble_eq_true rfl, Nat.le_of_ble_eq_true rfl, Nat.le_of_ble_eq_true rfl, Nat.le_of_ble_eq_true rfl⟩ (Nat.le_of_ble_eq_true rfl) dX4_readNumber_50 (fun _ _ h => h) rfl (kE ?_)
            refine E_iadd dX4_readNumber_53 ?_
            refine E_bipush 48 (by decide) dX4_readNumber_54 ?_
            refine E_isub dX4_readNumber_56 ?_
            refine E_istore_n [(1, .int (((10 * xv) + (hV (mi 59) N (p + i))) - 48)), (0, .ref 58), (2, .int xi)] dX4_readNumber_57 rfl (by decide) rfl ?_
            refine E_aload_n 1 dX4_readNumber_58 rfl rfl ?_
            refine E_dup rfl dX4_readNumber_59 ?_
            refine gf_X4_19 (mj 58 2) tw_58 rfl rfl dX4_readNumber_60 ?_
            refine E_iconst 1 (by decide) dX4_readNumber_63 ?_
            refine E_iadd dX4_readNumber_64 ?_
            refine pf_X4_19 tw_58 rfl dX4_readNumber_65 ?_
            refine E_iinc 2 (xi + 1) [(2, .int (xi + 1)), (1, .int (((10 * xv) + (hV (mi 59) N (p + i))) - 48)), (0, .ref 58)] dX4_readNumber_68 rfl rfl (by decide) rfl ?_
            refine E_goto 22 dX4_readNumber_71 (by decide) ?_
            refine E_sub [2, 1, 0] rfl ?_
            exact ih22 (((10 * xv) + (hV (mi 59) N (p + i))) - 48) (xi + 1) (i + 1) (u2 mj 58 2 ((mj 58 2) + 1)) (by omega) ((tI_add hi (show (1 : Int32).toInt = 1 from rfl) (by omega)).trans (by omega)) (by omega) ((tI_sub (tI_add (tI_mul (show (10 : Int32).toInt = 10 from rfl) hv (by omega)) hV_t (by omega)) (show (48 : Int32).toInt = 48 from rfl) (by omega)).trans (by rw [rdV]; omega)) (lt_s hdg c_38) ⟨hP.1.u (by decide), (u2_n (by omega)).trans hP.2.1, (congrArg Int32.toInt (u2_s _ _ _ _)).trans ((tI_add hP.2.2.1 (show (1 : Int32).toInt = 1 from rfl) (by omega)).trans (by omega)), (congrArg Int32.toInt (u2_n (by omega))).trans hP.2.2.2.1, (congrArg Int32.toInt (u2_n (by omega))).trans hP.2.2.2.2⟩
    refine E_sub [2, 1, 0] rfl ?_
    exact J22 _ 0 0 0 (u2 mi 58 3 (mi 58 2)) (Nat.lt_succ_self _) (show (0 : Int32).toInt = 0 from rfl) (by omega) (show (0 : Int32).toInt = 0 from rfl) (fun j h => absurd h (Nat.not_lt_zero j)) ⟨Fr_r.u (by decide), u2_n (by omega), (congrArg Int32.toInt (u2_n (by omega))).trans hp, (congrArg Int32.toInt (u2_s _ _ _ _)).trans hp, (congrArg Int32.toInt (u2_n (by omega))).trans he⟩
  · exact absurd rfl c_5
set_option maxHeartbeats 1600000 in
set_option maxRecDepth 100000 in
theorem c_X4_refuseNumberIf (l : Launch) (hfl : l.stackTraces = false) (mi : MI) (ml : MJ) (x : Int32) (P : Prop) (hx : x = bI P) (q e : Int) (hq : (mi 58 3).toInt = q) (he : (mi 58 4).toInt = e) : Ct l yX4_refuseNumberIf (.code yX4_refuseNumberIf cX4_refuseNumberIf 2 none) 0 0 0 [.ref 58, .int (bI (P))] (wl mi ml) (QV (fun mi9 ml9 => ml = ml9 ∧ Fr [58] mi mi9 ∧ (∀ k, k ≠ 4 → mi9 58 k = mi 58 k) ∧ ((e = -1 ∧ P ∧ (mi9 58 4).toInt = q) ∨ (¬ (e = -1 ∧ P) ∧ (mi9 58 4).toInt = e)))) noX := by
  subst hx
  refine Ct_of (ini := false) pn_X4 hfl (fun h => nomatch h) (Nat.le_of_ble_eq_true rfl) ?_
  show E l RX4 cX4_refuseNumberIf 2 none false [] (rmE 0 0 0) (wl mi ml) (TgM (wl mi ml) 0 0 (QV (fun mi9 ml9 => ml = ml9 ∧ Fr [58] mi mi9 ∧ (∀ k, k ≠ 4 → mi9 58 k = mi 58 k) ∧ ((e = -1 ∧ P ∧ (mi9 58 4).toInt = q) ∨ (¬ (e = -1 ∧ P) ∧ (mi9 58 4).toInt = e)))) noX) 0 0 0 [(0, .ref 58), (1, .int (bI (P)))] [] (wl mi ml)
  refine E_iload_n 1 dX4_refuseNumberIf_0 rfl rfl ?_
  refine B_eq 20 dX4_refuseNumberIf_1 (by decide) (fun c_1 => ?_) (fun c_1 => ?_)
  · skip
    refine E_vret rfl (Nat.le_of_ble_eq_true rfl) (Nat.le_of_ble_eq_true rfl) dX4_refuseNumberIf_20 ?_
    exact okQV ⟨rfl, Fr_r, fun k _ => rfl, Or.inr ⟨fun z => c_1 z.2, he⟩⟩
  · skip
    refine E_aload_n 0 dX4_refuseNumberIf_4 rfl rfl ?_
    refine gf_X4_22 (mi 58 4) tw_58 rfl rfl dX4_refuseNumberIf_5 ?_
    refine E_iconst (-1) (by decide) dX4_refuseNumberIf_8 ?_
    refine Z_ne e (-1) he (show ((-1) : Int32).toInt = (-1) from rfl) 20 dX4_refuseNumberIf_9 (by decide) (fun c_9 => ?_) (fun c_9 => ?_)
    · skip
      refine E_vret rfl (Nat.le_of_ble_eq_true rfl) (Nat.le_of_ble_eq_true rfl) dX4_refuseNumberIf_20 ?_
      exact okQV ⟨rfl, Fr_r, fun k _ => rfl, Or.inr ⟨fun z => c_9 z.1, he⟩⟩
    · skip
      refine E_aload_n 0 dX4_refuseNumberIf_12 rfl rfl ?_
      refine E_aload_n 0 dX4_refuseNumberIf_13 rfl rfl ?_
      refine gf_X4_87 (mi 58 3) tw_58 rfl rfl dX4_refuseNumberIf_14 ?_
      refine pf_X4_22 tw_58 rfl dX4_refuseNumberIf_17 ?_
      refine E_vret rfl (Nat.le_of_ble_eq_true rfl) (Nat.le_of_ble_eq_true rfl) dX4_refuseNumberIf_20 ?_
      exact okQV ⟨rfl, Fr_r.u (by decide), fun k hk => u2_n (Or.inr hk), Or.inl ⟨c_9, c_1, (congrArg Int32.toInt (u2_s _ _ _ _)).trans hq⟩⟩
set_option maxHeartbeats 1600000 in
set_option maxRecDepth 100000 in
theorem c_X4_expect (l : Launch) (hfl : l.stackTraces = false) (mi : MI) (ml : MJ) (N : Nat) (hN : (mi 58 1).toInt = (N : Int)) (hN2 : N ≤ 120) (p : Nat) (hp : (mi 58 2).toInt = (p : Int)) (hp2 : p ≤ 1000) (x : Int32) (X e : Int) (hX : x.toInt = X) (he : (mi 58 4).toInt = e) : Ct l yX4_expect (.code yX4_expect cX4_expect 2 none) 1 0 0 [.ref 58, .int x] (wl mi ml) (QV (fun mi9 ml9 => ml = ml9 ∧ Fr [58] mi mi9 ∧ (∀ k, k ≠ 2 → k ≠ 4 → mi9 58 k = mi 58 k) ∧ ((e ≠ -1 ∧ (mi9 58 4).toInt = e ∧ mi9 58 2 = mi 58 2) ∨ (e = -1 ∧ (tX (mi 59) N) p = X ∧ (mi9 58 4).toInt = -1 ∧ (mi9 58 2).toInt = ((p + 1 : Nat) : Int)) ∨ (e = -1 ∧ (tX (mi 59) N) p ≠ X ∧ (mi9 58 4).toInt = (p : Int) ∧ mi9 58 2 = mi 58 2)))) noX := by
  refine Ct_of (ini := false) pn_X4 hfl (fun h => nomatch h) (Nat.le_of_ble_eq_true rfl) ?_
  show E l RX4 cX4_expect 2 none false [] (rmE 1 0 0) (wl mi ml) (TgM (wl mi ml) 0 0 (QV (fun mi9 ml9 => ml = ml9 ∧ Fr [58] mi mi9 ∧ (∀ k, k ≠ 2 → k ≠ 4 → mi9 58 k = mi 58 k) ∧ ((e ≠ -1 ∧ (mi9 58 4).toInt = e ∧ mi9 58 2 = mi 58 2) ∨ (e = -1 ∧ (tX (mi 59) N) p = X ∧ (mi9 58 4).toInt = -1 ∧ (mi9 58 2).toInt = ((p + 1 : Nat) : Int)) ∨ (e = -1 ∧ (tX (mi 59) N) p ≠ X ∧ (mi9 58 4).toInt = (p : Int) ∧ mi9 58 2 = mi 58 2)))) noX) 0 0 0 [(0, .ref 58), (1, .int x)] [] (wl mi ml)
  refine E_aload_n 0 dX4_expect_0 rfl rfl ?_
  refine gf_X4_22 (mi 58 4) tw_58 rfl rfl dX4_expect_1 ?_
  refine E_iconst (-1) (by decide) dX4_expect_4 ?_
  refine Z_eq e (-1) he (show ((-1) : Int32).toInt = (-1) from rfl) 9 dX4_expect_5 (by decide) (fun c_5 => ?_) (fun c_5 => ?_)
  · skip
    refine E_aload_n 0 dX4_expect_9 rfl rfl ?_
    refine E_aload_n 0 dX4_expect_10 rfl rfl ?_
    refine gf_X4_19 (mi 58 2) tw_58 rfl rfl dX4_expect_11 ?_
    refine E_callV (c_X4_byteAt l hfl mi ml N hN hN2 (mi 59) rfl (mi 58 2) p (hp.trans (by omega))) cw_X4_29 (As := [.int (mi 58 2)]) (st := []) wi_yX4_byteAt we_yX4_byteAt (ci := 4) (q := (RX4, TX4, 5)) rfl rfl (wl_atO tw_58) rfl ⟨Nat.le_of_ble_eq_true rfl, Nat.le_of_ble_eq_true rfl, Nat.le_of_ble_eq_true rfl, Nat.le_of_ble_eq_true rfl⟩ (Nat.le_of_ble_eq_true rfl) dX4_expect_14 (fun _ _ h => h) rfl (kE ?_)
    refine E_iload_n 1 dX4_expect_17 rfl rfl ?_
    refine Z_ne (tX (mi 59) N p) X hV_t hX 34 dX4_expect_18 (by decide) (fun c_18 => ?_) (fun c_18 => ?_)
    · skip
      refine E_aload_n 0 dX4_expect_34 rfl rfl ?_
      refine E_aload_n 0 dX4_expect_35 rfl rfl ?_
      refine gf_X4_19 (mi 58 2) tw_58 rfl rfl dX4_expect_36 ?_
      refine pf_X4_22 tw_58 rfl dX4_expect_39 ?_
      refine E_vret rfl (Nat.le_of_ble_eq_true rfl) (Nat.le_of_ble_eq_true rfl) dX4_expect_42 ?_
      exact okQV ⟨rfl, Fr_r.u (by decide), fun k _ hk => u2_n (Or.inr hk), Or.inr (Or.inr ⟨c_5, c_18, (congrArg Int32.toInt (u2_s _ _ _ _)).trans hp, u2_n (by omega)⟩)⟩
    · skip
      refine E_aload_n 0 dX4_expect_21 rfl rfl ?_
      refine E_dup rfl dX4_expect_22 ?_
      refine gf_X4_19 (mi 58 2) tw_58 rfl rfl dX4_expect_23 ?_
      refine E_iconst 1 (by decide) dX4_expect_26 ?_
      refine E_iadd dX4_expect_27 ?_
      refine pf_X4_19 tw_58 rfl dX4_expect_28 ?_
      refine E_goto 42 dX4_expect_31 (by decide) ?_
      refine E_vret rfl (Nat.le_of_ble_eq_true rfl) (Nat.le_of_ble_eq_true rfl) dX4_expect_42 ?_
      exact okQV ⟨rfl, Fr_r.u (by decide), fun k hk _ => u2_n (Or.inr hk), Or.inr (Or.inl ⟨c_5, c_18, (congrArg Int32.toInt (u2_n (by omega))).trans (he.trans c_5), (congrArg Int32.toInt (u2_s _ _ _ _)).trans ((tI_add hp (show (1 : Int32).toInt = 1 from rfl) (by omega)).trans (by omega))⟩)⟩
  · skip
    refine E_vret rfl (Nat.le_of_ble_eq_true rfl) (Nat.le_of_ble_eq_true rfl) dX4_expect_8 ?_
    exact okQV ⟨rfl, Fr_r, fun k _ _ => rfl, Or.inl ⟨c_5, he, rfl⟩⟩
end PLA
