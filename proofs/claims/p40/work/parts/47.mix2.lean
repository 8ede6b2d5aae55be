section MX2
theorem DR.r8 {mi mj : MI} {V : Nat → Int32} (H : DR 1 mi V) (e1 : mj 1 = mi 1) (e2 : mj 2 = mi 2) (e3 : mj 3 = mi 3) (e4 : mj 4 = mi 4) (e5 : mj 5 = mi 5) (e6 : mj 6 = mi 6) (e7 : mj 7 = mi 7) (e8 : mj 8 = mi 8) : DR 1 mj V := by
  refine H.fr (fun q hq => ?_)
  rcases (show q = 0 ∨ q = 1 ∨ q = 2 ∨ q = 3 ∨ q = 4 ∨ q = 5 ∨ q = 6 ∨ q = 7 by omega) with h | h | h | h | h | h | h | h <;> subst h <;> assumption
theorem DR.c {mi mj : MI} {V : Nat → Int32} (H : DR 1 mi V) (F : Fr [51, 52] mi mj) : DR 1 mj V := H.fr (fun q hq => F _ (by simp only [List.mem_cons, List.not_mem_nil, or_false, not_or]; omega))
set_option maxHeartbeats 1600000 in
set_option maxRecDepth 100000 in
theorem c_X3_gather (l : Launch) (hfl : l.stackTraces = false) (mi : MI) (ml : MJ) (V : Nat → Int32) (hV : WFV V) (hD : DR 1 mi V) (n : Nat) (hn : (V 5).toInt = (n : Int)) (h10 : n ≤ 10) (xs : Int32) (s : Nat) (hxs : xs.toInt = (s : Int)) : Ct l yX3_gather (.code yX3_gather cX3_gather 3 none) 3 0 0 [.ref 51, .ref 1, .int xs] (wl mi ml) (QV (fun mi9 ml9 => ml = ml9 ∧ MxL (DV V) mi mi9 (prV V s n))) noX := by
  refine Ct_of (ini := false) pn_X3 hfl (fun h => nomatch h) (Nat.le_of_ble_eq_true rfl) ?_
  show E l RX3 cX3_gather 3 none false [] (rmE 3 0 0) (wl mi ml) (TgM (wl mi ml) 0 0 (QV (fun mi9 ml9 => ml = ml9 ∧ MxL (DV V) mi mi9 (prV V s n))) noX) 0 0 0 [(0, .ref 51), (1, .ref 1), (2, .int xs)] [] (wl mi ml)
  refine E_aload_n 0 dX3_gather_0 rfl rfl ?_
  refine E_iconst 0 (by decide) dX3_gather_1 ?_
  refine pf_X3_15 tw_51 rfl dX3_gather_2 ?_
  refine E_aload_n 1 dX3_gather_5 rfl rfl ?_
  refine gf_X3_19 (V 0) isD_1.t rfl ((u2_n (by omega)).trans hD.1.1) dX3_gather_6 ?_
  refine E_iconst 1 (by decide) dX3_gather_9 ?_
  refine E_iand dX3_gather_10 ?_
  refine Y_eq (((V 0) &&& (1 : Int32)).toInt) rfl 21 dX3_gather_11 (by decide) (fun c_11 => ?_) (fun c_11 => ?_)
  · skip
    have J21 : ∀ (ma : MI), MxL (DV V) mi ma (stK (DV V) s n 1) → Fr [51, 52] mi ma → E l RX3 cX3_gather 3 none false [] (rmE 3 0 0) (wl mi ml) (TgM (wl mi ml) 0 0 (QV (fun mi9 ml9 => ml = ml9 ∧ MxL (DV V) mi mi9 (prV V s n))) noX) 0 0 21 [(0, .ref 51), (1, .ref 1), (2, .int xs)] [] (wl ma ml) := by
      intro ma H1 F1
      refine E_aload_n 1 dX3_gather_21 rfl rfl ?_
      refine gf_X3_19 (V 0) isD_1.t rfl ((congrFun (F1 1 (by decide)) 0).trans hD.1.1) dX3_gather_22 ?_
      refine E_iconst 2 (by decide) dX3_gather_25 ?_
      refine E_iand dX3_gather_26 ?_
      refine Y_eq (((V 0) &&& (2 : Int32)).toInt) rfl 36 dX3_gather_27 (by decide) (fun c_27 => ?_) (fun c_27 => ?_)
      · skip
        have J36 : ∀ (mb : MI), MxL (DV V) mi mb (stK (DV V) s n 2) → Fr [51, 52] mi mb → E l RX3 cX3_gather 3 none false [] (rmE 3 0 0) (wl mi ml) (TgM (wl mi ml) 0 0 (QV (fun mi9 ml9 => ml = ml9 ∧ MxL (DV V) mi mi9 (prV V s n))) noX) 0 0 36 [(0, .ref 51), (1, .ref 1), (2, .int xs)] [] (wl mb ml) := by
          intro mb H2 F2
          refine E_aload_n 1 dX3_gather_36 rfl rfl ?_
          refine gf_X3_19 (V 0) isD_1.t rfl ((congrFun (F2 1 (by decide)) 0).trans hD.1.1) dX3_gather_37 ?_
          refine E_iconst 4 (by decide) dX3_gather_40 ?_
          refine E_iand dX3_gather_41 ?_
          refine Y_eq (((V 0) &&& (4 : Int32)).toInt) rfl 52 dX3_gather_42 (by decide) (fun c_42 => ?_) (fun c_42 => ?_)
          · skip
            refine E_vret rfl (Nat.le_of_ble_eq_true rfl) (Nat.le_of_ble_eq_true rfl) dX3_gather_52 ?_
            exact okQV ⟨rfl, mp_off H2 ((kb_V hV).2.2.mp c_42)⟩
          · skip
            refine E_aload_n 0 dX3_gather_45 rfl rfl ?_
            refine E_aload_n 1 dX3_gather_46 rfl rfl ?_
            refine E_iload_n 2 dX3_gather_47 rfl rfl ?_
            refine E_iconst 2 (by decide) dX3_gather_48 ?_
            refine E_callV (c_X3_gatherPairs2 l hfl mb ml V hV (hD.c F2) n hn xs s hxs mi (tb_nf (fun q => c_42 ((kb_V hV).2.2.mpr q))) H2 h10) cw_X3_24 (As := [.ref 1, .int xs, .int 2]) (st := []) wi_yX3_gatherPairs we_yX3_gatherPairs (ci := 3) (q := (RX3, TX3, 2)) rfl rfl (wl_atO tw_51) rfl ⟨Nat.le_of_ble_eq_true rfl, Nat.le_of_ble_eq_true rfl, Nat.le_of_ble_eq_true rfl, Nat.le_of_ble_eq_true rfl⟩ (Nat.le_of_ble_eq_true rfl) dX3_gather_49 (fun _ _ h => h) rfl (kV (fun mi_49 ml_49 h_49 => ?_))
            obtain ⟨rfl, h_49⟩ := h_49
            refine E_vret rfl (Nat.le_of_ble_eq_true rfl) (Nat.le_of_ble_eq_true rfl) dX3_gather_52 ?_
            exact okQV ⟨rfl, h_49.1⟩
        exact J36 _ (mp_off H1 ((kb_V hV).2.1.mp c_27)) F1
      · skip
        refine E_aload_n 0 dX3_gather_30 rfl rfl ?_
        refine E_aload_n 1 dX3_gather_31 rfl rfl ?_
        refine E_iload_n 2 dX3_gather_32 rfl rfl ?_
        refine E_callV (c_X3_gatherTriples l hfl ma ml V hV (hD.c F1) n hn xs s hxs mi (tb_nf (fun q => c_27 ((kb_V hV).2.1.mpr q))) H1 h10) cw_X3_28 (As := [.ref 1, .int xs]) (st := []) wi_yX3_gatherTriples we_yX3_gatherTriples (ci := 3) (q := (RX3, TX3, 2)) rfl rfl (wl_atO tw_51) rfl ⟨Nat.le_of_ble_eq_true rfl, Nat.le_of_ble_eq_true rfl, Nat.le_of_ble_eq_true rfl, Nat.le_of_ble_eq_true rfl⟩ (Nat.le_of_ble_eq_true rfl) dX3_gather_33 (fun _ _ h => h) rfl (kV (fun mi_33 ml_33 h_33 => ?_))
        obtain ⟨rfl, h_33⟩ := h_33
        have J36 : ∀ (mb : MI), MxL (DV V) mi mb (stK (DV V) s n 2) → Fr [51, 52] mi mb → E l RX3 cX3_gather 3 none false [] (rmE 3 0 0) (wl mi ml) (TgM (wl mi ml) 0 0 (QV (fun mi9 ml9 => ml = ml9 ∧ MxL (DV V) mi mi9 (prV V s n))) noX) 0 0 36 [(0, .ref 51), (1, .ref 1), (2, .int xs)] [] (wl mb ml) := by
          intro mb H2 F2
          refine E_aload_n 1 dX3_gather_36 rfl rfl ?_
          refine gf_X3_19 (V 0) isD_1.t rfl ((congrFun (F2 1 (by decide)) 0).trans hD.1.1) dX3_gather_37 ?_
          refine E_iconst 4 (by decide) dX3_gather_40 ?_
          refine E_iand dX3_gather_41 ?_
          refine Y_eq (((V 0) &&& (4 : Int32)).toInt) rfl 52 dX3_gather_42 (by decide) (fun c_42 => ?_) (fun c_42 => ?_)
          · skip
            refine E_vret rfl (Nat.le_of_ble_eq_true rfl) (Nat.le_of_ble_eq_true rfl) dX3_gather_52 ?_
            exact okQV ⟨rfl, mp_off H2 ((kb_V hV).2.2.mp c_42)⟩
          · skip
            refine E_aload_n 0 dX3_gather_45 rfl rfl ?_
            refine E_aload_n 1 dX3_gather_46 rfl rfl ?_
            refine E_iload_n 2 dX3_gather_47 rfl rfl ?_
            refine E_iconst 2 (by decide) dX3_gather_48 ?_
            refine E_callV (c_X3_gatherPairs2 l hfl mb ml V hV (hD.c F2) n hn xs s hxs mi (tb_nf (fun q => c_42 ((kb_V hV).2.2.mpr q))) H2 h10) cw_X3_24 (As := [.ref 1, .int xs, .int 2]) (st := []) wi_yX3_gatherPairs we_yX3_gatherPairs (ci := 3) (q := (RX3, TX3, 2)) rfl rfl (wl_atO tw_51) rfl ⟨Nat.le_of_ble_eq_true rfl, Nat.le_of_ble_eq_true rfl, Nat.le_of_ble_eq_true rfl, Nat.le_of_ble_eq_true rfl⟩ (Nat.le_of_ble_eq_true rfl) dX3_gather_49 (fun _ _ h => h) rfl (kV (fun mi_49 ml_49 h_49 => ?_))
            obtain ⟨rfl, h_49⟩ := h_49
            refine E_vret rfl (Nat.le_of_ble_eq_true rfl) (Nat.le_of_ble_eq_true rfl) dX3_gather_52 ?_
            exact okQV ⟨rfl, h_49.1⟩
        exact J36 _ h_33.1 (F1.trans h_33.2 (fun _ h => h) (fun _ h => h))
    exact J21 _ (mp_off (MxL_0 rfl) ((kb_V hV).1.mp c_11)) (Fr.rfl'.u (by decide))
  · skip
    refine E_aload_n 0 dX3_gather_14 rfl rfl ?_
    refine E_aload_n 1 dX3_gather_15 rfl rfl ?_
    refine E_iload_n 2 dX3_gather_16 rfl rfl ?_
    refine E_iconst 0 (by decide) dX3_gather_17 ?_
    refine E_callV (c_X3_gatherPairs0 l hfl (u2 mi 51 1 0) ml V hV (hD.c (Fr.rfl'.u (by decide))) n hn xs s hxs mi (tb_nf (fun q => c_11 ((kb_V hV).1.mpr q))) (MxL_0 rfl) h10) cw_X3_24 (As := [.ref 1, .int xs, .int 0]) (st := []) wi_yX3_gatherPairs we_yX3_gatherPairs (ci := 3) (q := (RX3, TX3, 2)) rfl rfl (wl_atO tw_51) rfl ⟨Nat.le_of_ble_eq_true rfl, Nat.le_of_ble_eq_true rfl, Nat.le_of_ble_eq_true rfl, Nat.le_of_ble_eq_true rfl⟩ (Nat.le_of_ble_eq_true rfl) dX3_gather_18 (fun _ _ h => h) rfl (kV (fun mi_18 ml_18 h_18 => ?_))
    obtain ⟨rfl, h_18⟩ := h_18
    have J21 : ∀ (ma : MI), MxL (DV V) mi ma (stK (DV V) s n 1) → Fr [51, 52] mi ma → E l RX3 cX3_gather 3 none false [] (rmE 3 0 0) (wl mi ml) (TgM (wl mi ml) 0 0 (QV (fun mi9 ml9 => ml = ml9 ∧ MxL (DV V) mi mi9 (prV V s n))) noX) 0 0 21 [(0, .ref 51), (1, .ref 1), (2, .int xs)] [] (wl ma ml) := by
      intro ma H1 F1
      refine E_aload_n 1 dX3_gather_21 rfl rfl ?_
      refine gf_X3_19 (V 0) isD_1.t rfl ((congrFun (F1 1 (by decide)) 0).trans hD.1.1) dX3_gather_22 ?_
      refine E_iconst 2 (by decide) dX3_gather_25 ?_
      refine E_iand dX3_gather_26 ?_
      refine Y_eq (((V 0) &&& (2 : Int32)).toInt) rfl 36 dX3_gather_27 (by decide) (fun c_27 => ?_) (fun c_27 => ?_)
      · skip
        have J36 : ∀ (mb : MI), MxL (DV V) mi mb (stK (DV V) s n 2) → Fr [51, 52] mi mb → E l RX3 cX3_gather 3 none false [] (rmE 3 0 0) (wl mi ml) (TgM (wl mi ml) 0 0 (QV (fun mi9 ml9 => ml = ml9 ∧ MxL (DV V) mi mi9 (prV V s n))) noX) 0 0 36 [(0, .ref 51), (1, .ref 1), (2, .int xs)] [] (wl mb ml) := by
          intro mb H2 F2
          refine E_aload_n 1 dX3_gather_36 rfl rfl ?_
          refine gf_X3_19 (V 0) isD_1.t rfl ((congrFun (F2 1 (by decide)) 0).trans hD.1.1) dX3_gather_37 ?_
          refine E_iconst 4 (by decide) dX3_gather_40 ?_
          refine E_iand dX3_gather_41 ?_
          refine Y_eq (((V 0) &&& (4 : Int32)).toInt) rfl 52 dX3_gather_42 (by decide) (fun c_42 => ?_) (fun c_42 => ?_)
          · skip
            refine E_vret rfl (Nat.le_of_ble_eq_true rfl) (Nat.le_of_ble_eq_true rfl) dX3_gather_52 ?_
            exact okQV ⟨rfl, mp_off H2 ((kb_V hV).2.2.mp c_42)⟩
          · skip
            refine E_aload_n 0 dX3_gather_45 rfl rfl ?_
            refine E_aload_n 1 dX3_gather_46 rfl rfl ?_
            refine E_iload_n 2 dX3_gather_47 rfl rfl ?_
            refine E_iconst 2 (by decide) dX3_gather_48 ?_
            refine E_callV (c_X3_gatherPairs2 l hfl mb ml V hV (hD.c F2) n hn xs s hxs mi (tb_nf (fun q => c_42 ((kb_V hV).2.2.mpr q))) H2 h10) cw_X3_24 (As := [.ref 1, .int xs, .int 2]) (st := []) wi_yX3_gatherPairs we_yX3_gatherPairs (ci := 3) (q := (RX3, TX3, 2)) rfl rfl (wl_atO tw_51) rfl ⟨Nat.le_of_ble_eq_true rfl, Nat.le_of_ble_eq_true rfl, Nat.le_of_ble_eq_true rfl, Nat.le_of_ble_eq_true rfl⟩ (Nat.le_of_ble_eq_true rfl) dX3_gather_49 (fun _ _ h => h) rfl (kV (fun mi_49 ml_49 h_49 => ?_))
            obtain ⟨rfl, h_49⟩ := h_49
            refine E_vret rfl (Nat.le_of_ble_eq_true rfl) (Nat.le_of_ble_eq_true rfl) dX3_gather_52 ?_
            exact okQV ⟨rfl, h_49.1⟩
        exact J36 _ (mp_off H1 ((kb_V hV).2.1.mp c_27)) F1
      · skip
        refine E_aload_n 0 dX3_gather_30 rfl rfl ?_
        refine E_aload_n 1 dX3_gather_31 rfl rfl ?_
        refine E_iload_n 2 dX3_gather_32 rfl rfl ?_
        refine E_callV (c_X3_gatherTriples l hfl ma ml V hV (hD.c F1) n hn xs s hxs mi (tb_nf (fun q => c_27 ((kb_V hV).2.1.mpr q))) H1 h10) cw_X3_28 (As := [.ref 1, .int xs]) (st := []) wi_yX3_gatherTriples we_yX3_gatherTriples (ci := 3) (q := (RX3, TX3, 2)) rfl rfl (wl_atO tw_51) rfl ⟨Nat.le_of_ble_eq_true rfl, Nat.le_of_ble_eq_true rfl, Nat.le_of_ble_eq_true rfl, Nat.le_of_ble_eq_true rfl⟩ (Nat.le_of_ble_eq_true rfl) dX3_gather_33 (fun _ _ h => h) rfl (kV (fun mi_33 ml_33 h_33 => ?_))
        obtain ⟨rfl, h_33⟩ := h_33
        have J36 : ∀ (mb : MI), MxL (DV V) mi mb (stK (DV V) s n 2) → Fr [51, 52] mi mb → E l RX3 cX3_gather 3 none false [] (rmE 3 0 0) (wl mi ml) (TgM (wl mi ml) 0 0 (QV (fun mi9 ml9 => ml = ml9 ∧ MxL (DV V) mi mi9 (prV V s n))) noX) 0 0 36 [(0, .ref 51), (1, .ref 1), (2, .int xs)] [] (wl mb ml) := by
          intro mb H2 F2
          refine E_aload_n 1 dX3_gather_36 rfl rfl ?_
          refine gf_X3_19 (V 0) isD_1.t rfl ((congrFun (F2 1 (by decide)) 0).trans hD.1.1) dX3_gather_37 ?_
          refine E_iconst 4 (by decide) dX3_gather_40 ?_
          refine E_iand dX3_gather_41 ?_
          refine Y_eq (((V 0) &&& (4 : Int32)).toInt) rfl 52 dX3_gather_42 (by decide) (fun c_42 => ?_) (fun c_42 => ?_)
          · skip
            refine E_vret rfl (Nat.le_of_ble_eq_true rfl) (Nat.le_of_ble_eq_true rfl) dX3_gather_52 ?_
            exact okQV ⟨rfl, mp_off H2 ((kb_V hV).2.2.mp c_42)⟩
          · skip
            refine E_aload_n 0 dX3_gather_45 rfl rfl ?_
            refine E_aload_n 1 dX3_gather_46 rfl rfl ?_
            refine E_iload_n 2 dX3_gather_47 rfl rfl ?_
            refine E_iconst 2 (by decide) dX3_gather_48 ?_
            refine E_callV (c_X3_gatherPairs2 l hfl mb ml V hV (hD.c F2) n hn xs s hxs mi (tb_nf (fun q => c_42 ((kb_V hV).2.2.mpr q))) H2 h10) cw_X3_24 (As := [.ref 1, .int xs, .int 2]) (st := []) wi_yX3_gatherPairs we_yX3_gatherPairs (ci := 3) (q := (RX3, TX3, 2)) rfl rfl (wl_atO tw_51) rfl ⟨Nat.le_of_ble_eq_true rfl, Nat.le_of_ble_eq_true rfl, Nat.le_of_ble_eq_true rfl, Nat.le_of_ble_eq_true rfl⟩ (Nat.le_of_ble_eq_true rfl) dX3_gather_49 (fun _ _ h => h) rfl (kV (fun mi_49 ml_49 h_49 => ?_))
            obtain ⟨rfl, h_49⟩ := h_49
            refine E_vret rfl (Nat.le_of_ble_eq_true rfl) (Nat.le_of_ble_eq_true rfl) dX3_gather_52 ?_
            exact okQV ⟨rfl, h_49.1⟩
        exact J36 _ h_33.1 (F1.trans h_33.2 (fun _ h => h) (fun _ h => h))
    exact J21 _ h_18.1 (Fr.trans (F := [51]) (Fr.rfl'.u (by decide)) h_18.2 (by decide) (fun _ h => h))
set_option maxHeartbeats 1600000 in
set_option maxRecDepth 100000 in
theorem c_X3_fact (l : Launch) (hfl : l.stackTraces = false) (mi : MI) (ml : MJ) (N : Nat) (hsz : (mi 51 1).toInt = (N : Int)) (hN : N ≤ 540) (xi xw : Int32) (i w : Nat) (hi : xi.toInt = (i : Int)) (hw : xw.toInt = (w : Int)) (hiN : i < N) (hw6 : w < 6) : Ct l yX3_fact (.code yX3_fact cX3_fact 3 (some .int)) 0 0 0 [.ref 51, .int xi, .int xw] (wl mi ml) (QP (some (.int (mi 52 ((6 * i) + w)))) (wl mi ml)) noX := by
  refine Ct_of (ini := false) pn_X3 hfl (fun h => nomatch h) (Nat.le_of_ble_eq_true rfl) ?_
  show E l RX3 cX3_fact 3 (some .int) false [] (rmE 0 0 0) (wl mi ml) (TgM (wl mi ml) 0 0 (QP (some (.int (mi 52 ((6 * i) + w)))) (wl mi ml)) noX) 0 0 0 [(0, .ref 51), (1, .int xi), (2, .int xw)] [] (wl mi ml)
  refine E_iload_n 1 dX3_fact_0 rfl rfl ?_
  refine Y_lt (i : Int) hi 29 dX3_fact_1 (by decide) (fun c_1 => ?_) (fun c_1 => ?_)
  · exact absurd c_1 (by omega)
  · skip
    refine E_iload_n 1 dX3_fact_4 rfl rfl ?_
    refine E_aload_n 0 dX3_fact_5 rfl rfl ?_
    refine gf_X3_15 (mi 51 1) tw_51 rfl rfl dX3_fact_6 ?_
    refine Z_ge (i : Int) (N : Int) hi hsz 29 dX3_fact_9 (by decide) (fun c_9 => ?_) (fun c_9 => ?_)
    · exact absurd c_9 (by omega)
    · skip
      refine E_iload_n 1 dX3_fact_12 rfl rfl ?_
      refine E_sipush 540 (by decide) dX3_fact_13 ?_
      refine Z_ge (i : Int) 540 hi (show (540 : Int32).toInt = 540 from rfl) 29 dX3_fact_16 (by decide) (fun c_16 => ?_) (fun c_16 => ?_)
      · exact absurd c_16 (by omega)
      · skip
        refine E_iload_n 2 dX3_fact_19 rfl rfl ?_
        refine Y_lt (w : Int) hw 29 dX3_fact_20 (by decide) (fun c_20 => ?_) (fun c_20 => ?_)
        · exact absurd c_20 (by omega)
        · skip
          refine E_iload_n 2 dX3_fact_23 rfl rfl ?_
          refine E_bipush 6 (by decide) dX3_fact_24 ?_
          refine Z_lt (w : Int) 6 hw (show (6 : Int32).toInt = 6 from rfl) 31 dX3_fact_26 (by decide) (fun c_26 => ?_) (fun c_26 => ?_)
          · skip
            refine E_aload_n 0 dX3_fact_31 rfl rfl ?_
            refine gf_X3_11 tw_51 rfl dX3_fact_32 ?_
            refine E_bipush 6 (by decide) dX3_fact_35 ?_
            refine E_iload_n 1 dX3_fact_37 rfl rfl ?_
            refine E_imul dX3_fact_38 ?_
            refine E_iload_n 2 dX3_fact_39 rfl rfl ?_
            refine E_iadd dX3_fact_40 ?_
            refine S_iald ((6 * i) + w) (mi 52 ((6 * i) + w)) tw_52 ((tI_add (tI_mul (show (6 : Int32).toInt = 6 from rfl) hi (by omega)) hw (by omega)).trans (by omega)) (by omega) rfl dX3_fact_41 ?_
            refine E_iret rfl (Nat.le_of_ble_eq_true rfl) (Nat.le_of_ble_eq_true rfl) dX3_fact_42 ?_
            exact okP rfl
          · exact absurd c_26 (by omega)
set_option maxHeartbeats 1600000 in
set_option maxRecDepth 100000 in
theorem c_X3_channelSet (l : Launch) (hfl : l.stackTraces = false) (mi : MI) (ml : MJ) (D : RD) (L : List Q4) (hsz : (mi 51 1).toInt = ((L.length : Nat) : Int)) (h540 : L.length ≤ 540) (hE : encd D (mi 52) L) : Ct l yX3_channelSet (.code yX3_channelSet cX3_channelSet 4 (some .long)) 1 0 0 [.ref 51] (wl mi ml) (QP (some (.long (foA D L L.length))) (wl mi ml)) noX := by
  refine Ct_of (ini := false) pn_X3 hfl (fun h => nomatch h) (Nat.le_of_ble_eq_true rfl) ?_
  show E l RX3 cX3_channelSet 4 (some .long) false [] (rmE 1 0 0) (wl mi ml) (TgM (wl mi ml) 0 0 (QP (some (.long (foA D L L.length))) (wl mi ml)) noX) 0 0 0 [(0, .ref 51)] [] (wl mi ml)
  refine E_lconst 0 rfl dX3_channelSet_0 ?_
  refine E_lstore_n [(1, .long 0), (0, .ref 51)] dX3_channelSet_1 rfl (by decide) rfl ?_
  refine E_iconst 0 (by decide) dX3_channelSet_2 ?_
  refine E_istore_n [(3, .int 0), (1, .long 0), (0, .ref 51)] dX3_channelSet_3 rfl (by decide) rfl ?_
  have J4 : ∀ (Nm : Nat) (xi : Int32) (v : Int64) (i : Nat), L.length - i < Nm → xi.toInt = (i : Int) → v = foA D L i → i ≤ L.length → E l RX3 cX3_channelSet 4 (some .long) false [] (rmE 1 0 0) (wl mi ml) (TgM (wl mi ml) 0 0 (QP (some (.long (foA D L L.length))) (wl mi ml)) noX) 0 0 4 [(0, .ref 51), (1, .long v), (3, .int xi)] [] (wl mi ml) := by
    intro Nm
    induction Nm with
    | zero => intros; omega
    | succ Nm ih4 =>
      intro xi v i hN4 hi hv hiL
      refine E_iload_n 2 dX3_channelSet_4 rfl rfl ?_
      refine E_aload_n 0 dX3_channelSet_5 rfl rfl ?_
      refine gf_X3_15 (mi 51 1) tw_51 rfl rfl dX3_channelSet_6 ?_
      refine Z_ge (i : Int) ((L.length : Nat) : Int) hi hsz 29 dX3_channelSet_9 (by decide) (fun c_9 => ?_) (fun c_9 => ?_)
      · skip
        refine E_lload_n 1 dX3_channelSet_29 rfl rfl ?_
        refine E_lret rfl (Nat.le_of_ble_eq_true rfl) (Nat.le_of_ble_eq_true rfl) dX3_channelSet_30 ?_
        exact okPJ (by rw [hv, show i = L.length by omega])
      · skip
        obtain ⟨q, hq⟩ : ∃ q, L[i]? = some q := ⟨_, List.getElem?_eq_getElem (show i < L.length by omega)⟩
        refine E_lload_n 1 dX3_channelSet_12 rfl rfl ?_
        refine E_lconst 1 rfl dX3_channelSet_13 ?_
        refine E_aload_n 0 dX3_channelSet_14 rfl rfl ?_
        refine E_iload_n 2 dX3_channelSet_15 rfl rfl ?_
        refine E_iconst 4 (by decide) dX3_channelSet_16 ?_
        refine E_callV (c_X3_fact l hfl mi ml L.length hsz h540 xi 4 i 4 (hi.trans (by omega)) ((show (4 : Int32).toInt = 4 from rfl).trans (by omega)) (by omega) (by omega)) cw_X3_60 (As := [.int xi, .int 4]) (st := [.long 1, .long v]) wi_yX3_fact we_yX3_fact (ci := 3) (q := (RX3, TX3, 2)) rfl rfl (wl_atO tw_51) rfl ⟨Nat.le_of_ble_eq_true rfl, Nat.le_of_ble_eq_true rfl, Nat.le_of_ble_eq_true rfl, Nat.le_of_ble_eq_true rfl⟩ (Nat.le_of_ble_eq_true rfl) dX3_channelSet_17 (fun _ _ h => h) rfl (kE ?_)
        refine E_lshl dX3_channelSet_20 ?_
        refine E_lor dX3_channelSet_21 ?_
        refine E_lstore_n [(1, .long (v ||| (1 <<< ((mi 52 ((6 * i) + 4)).toInt64 &&& 63)))), (0, .ref 51), (3, .int xi)] dX3_channelSet_22 rfl (by decide) rfl ?_
        refine E_iinc 2 (xi + 1) [(3, .int (xi + 1)), (1, .long (v ||| (1 <<< ((mi 52 ((6 * i) + 4)).toInt64 &&& 63)))), (0, .ref 51)] dX3_channelSet_23 rfl rfl (by decide) rfl ?_
        refine E_goto 4 dX3_channelSet_26 (by decide) ?_
        refine E_sub [2, 1, 0] rfl ?_
        exact ih4 (xi + 1) (v ||| (1 <<< ((mi 52 ((6 * i) + 4)).toInt64 &&& 63))) (i + 1) (by omega) ((tI_add hi (show (1 : Int32).toInt = 1 from rfl) (by omega)).trans (by omega)) (by rw [hv]; exact (foA_s hq (hE i q hq).2.2.2.2.1).symm) (by omega)
  refine E_sub [2, 1, 0] rfl ?_
  exact J4 _ 0 0 0 (Nat.lt_succ_self _) (show (0 : Int32).toInt = 0 from rfl) rfl (Nat.zero_le _)
set_option maxHeartbeats 1600000 in
set_option maxRecDepth 100000 in
theorem c_X3_countNear (l : Launch) (hfl : l.stackTraces = false) (mi : MI) (ml : MJ) (D : RD) (L : List Q4) (hsz : (mi 51 1).toInt = ((L.length : Nat) : Int)) (h540 : L.length ≤ 540) (hE : encd D (mi 52) L) (xc xg : Int32) (X G : Int) (hX : xc.toInt = X) (hG : xg.toInt = G) (bX : 0 ≤ X ∧ X ≤ 63) (hin : ∀ (i : Nat) (q : Q4), L[i]? = some q → 0 ≤ pCh D q.1 q.2.1 q.2.2.1 q.2.2.2 ∧ pCh D q.1 q.2.1 q.2.2.1 q.2.2.2 ≤ 63) : Ct l yX3_countNear (.code yX3_countNear cX3_countNear 5 (some .int)) 1 0 0 [.ref 51, .int xc, .int xg] (wl mi ml) (QI (fun r mi9 ml9 => mi = mi9 ∧ ml = ml9 ∧ r.toInt = ((hcA D G X L L.length : Nat) : Int))) noX := by
  refine Ct_of (ini := false) pn_X3 hfl (fun h => nomatch h) (Nat.le_of_ble_eq_true rfl) ?_
  show E l RX3 cX3_countNear 5 (some .int) false [] (rmE 1 0 0) (wl mi ml) (TgM (wl mi ml) 0 0 (QI (fun r mi9 ml9 => mi = mi9 ∧ ml = ml9 ∧ r.toInt = ((hcA D G X L L.length : Nat) : Int))) noX) 0 0 0 [(0, .ref 51), (1, .int xc), (2, .int xg)] [] (wl mi ml)
  refine E_iconst 0 (by decide) dX3_countNear_0 ?_
  refine E_istore_n [(3, .int 0), (0, .ref 51), (1, .int xc), (2, .int xg)] dX3_countNear_1 rfl (by decide) rfl ?_
  refine E_iconst 0 (by decide) dX3_countNear_2 ?_
  refine E_istore [(4, .int 0), (3, .int 0), (0, .ref 51), (1, .int xc), (2, .int xg)] dX3_countNear_3 (by decide) rfl ?_
  have J5 : ∀ (Nm : Nat) (xi xn : Int32) (i : Nat), L.length - i < Nm → xi.toInt = (i : Int) → xn.toInt = ((hcA D G X L i : Nat) : Int) → i ≤ L.length → E l RX3 cX3_countNear 5 (some .int) false [] (rmE 1 0 0) (wl mi ml) (TgM (wl mi ml) 0 0 (QI (fun r mi9 ml9 => mi = mi9 ∧ ml = ml9 ∧ r.toInt = ((hcA D G X L L.length : Nat) : Int))) noX) 0 0 5 [(0, .ref 51), (1, .int xc), (2, .int xg), (3, .int xn), (4, .int xi)] [] (wl mi ml) := by
    intro Nm
    induction Nm with
    | zero => intros; omega
    | succ Nm ih5 =>
      intro xi xn i hN5 hi hv hiL
      refine E_iload 4 dX3_countNear_5 rfl ?_
      refine E_aload_n 0 dX3_countNear_7 rfl rfl ?_
      refine gf_X3_15 (mi 51 1) tw_51 rfl rfl dX3_countNear_8 ?_
      refine Z_ge (i : Int) ((L.length : Nat) : Int) hi hsz 39 dX3_countNear_11 (by decide) (fun c_11 => ?_) (fun c_11 => ?_)
      · skip
        refine E_iload_n 3 dX3_countNear_39 rfl rfl ?_
        refine E_iret rfl (Nat.le_of_ble_eq_true rfl) (Nat.le_of_ble_eq_true rfl) dX3_countNear_40 ?_
        exact okQI ⟨rfl, rfl, by rw [← show i = L.length by omega]; exact hv⟩
      · skip
        obtain ⟨q, hq⟩ : ∃ q, L[i]? = some q := ⟨_, List.getElem?_eq_getElem (show i < L.length by omega)⟩
        have hp4 := (hE i q hq).2.2.2.2.1
        have hpb := hin i q hq
        have hle := hcA_le (D := D) (g := G) (x := X) (L := L) i
        refine E_aload_n 0 dX3_countNear_14 rfl rfl ?_
        refine E_iload 4 dX3_countNear_15 rfl ?_
        refine E_iconst 4 (by decide) dX3_countNear_17 ?_
        refine E_callV (c_X3_fact l hfl mi ml L.length hsz h540 xi 4 i 4 (hi.trans (by omega)) ((show (4 : Int32).toInt = 4 from rfl).trans (by omega)) (by omega) (by omega)) cw_X3_60 (As := [.int xi, .int 4]) (st := []) wi_yX3_fact we_yX3_fact (ci := 3) (q := (RX3, TX3, 2)) rfl rfl (wl_atO tw_51) rfl ⟨Nat.le_of_ble_eq_true rfl, Nat.le_of_ble_eq_true rfl, Nat.le_of_ble_eq_true rfl, Nat.le_of_ble_eq_true rfl⟩ (Nat.le_of_ble_eq_true rfl) dX3_countNear_18 (fun _ _ h => h) rfl (kE ?_)
        rw [show (mi 52 ((6 * i) + 4)) = (mi 52 ((6 * i) + 4)) from rfl]
        refine E_iload_n 1 dX3_countNear_21 rfl rfl ?_
        refine E_isub dX3_countNear_22 ?_
        refine E_abs wl_X3_64 ws_abs wz_Math wc_abs ⟨Nat.le_of_ble_eq_true rfl, Nat.le_of_ble_eq_true rfl, Nat.le_of_ble_eq_true rfl, Nat.le_of_ble_eq_true rfl⟩ dX3_countNear_23 ?_
        refine E_iload_n 2 dX3_countNear_26 rfl rfl ?_
        refine Z_gt (if 0 ≤ ((pCh D q.1 q.2.1 q.2.2.1 q.2.2.2) - X) then ((pCh D q.1 q.2.1 q.2.2.1 q.2.2.2) - X) else 0 - ((pCh D q.1 q.2.1 q.2.2.1 q.2.2.2) - X)) G (tI_abs (tI_sub hp4 hX (by omega)) (by omega)) hG 33 dX3_countNear_27 (by decide) (fun c_27 => ?_) (fun c_27 => ?_)
        · skip
          refine E_iinc 4 (xi + 1) [(4, .int (xi + 1)), (0, .ref 51), (1, .int xc), (2, .int xg), (3, .int xn)] dX3_countNear_33 rfl rfl (by decide) rfl ?_
          refine E_goto 5 dX3_countNear_36 (by decide) ?_
          refine E_sub [1, 2, 3, 4, 0] rfl ?_
          exact ih5 (xi + 1) xn (i + 1) (by omega) ((tI_add hi (show (1 : Int32).toInt = 1 from rfl) (by omega)).trans (by omega)) (hv.trans (by rw [hcA_f hq (by omega)]; omega)) (by omega)
        · skip
          refine E_iinc 3 (xn + 1) [(3, .int (xn + 1)), (0, .ref 51), (1, .int xc), (2, .int xg), (4, .int xi)] dX3_countNear_30 rfl rfl (by decide) rfl ?_
          refine E_iinc 4 (xi + 1) [(4, .int (xi + 1)), (3, .int (xn + 1)), (0, .ref 51), (1, .int xc), (2, .int xg)] dX3_countNear_33 rfl rfl (by decide) rfl ?_
          refine E_goto 5 dX3_countNear_36 (by decide) ?_
          refine E_sub [2, 3, 4, 1, 0] rfl ?_
          exact ih5 (xi + 1) (xn + 1) (i + 1) (by omega) ((tI_add hi (show (1 : Int32).toInt = 1 from rfl) (by omega)).trans (by omega)) ((tI_add hv (show (1 : Int32).toInt = 1 from rfl) (by omega)).trans (by rw [hcA_t hq (by omega)]; omega)) (by omega)
  refine E_sub [2, 3, 4, 1, 0] rfl ?_
  exact J5 _ 0 0 0 (Nat.lt_succ_self _) (show (0 : Int32).toInt = 0 from rfl) (show (0 : Int32).toInt = 0 from rfl) (Nat.zero_le _)
end MX2
