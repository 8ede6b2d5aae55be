section CL5
theorem CnE_0 {V : Nat → Int32} {S y0 E : Nat} {R : List Nat} {mi : MI} {ml : MJ} (hE : 1 ≤ E) (hR : ∀ x, x ∈ R → x ≤ 40) (hC : CSI mi ml (DS V R) (V 3).toInt (V 4).toInt R.length) : CnE V S 0 R y0 E 1 mi ml := by
  rcases Nat.lt_or_ge 1 E with q | q
  · exact Or.inl ⟨rfl, q, hC⟩
  · exact Or.inr ⟨by omega, by show E ≤ 1; omega, R, hC, hR, fun _ => rfl⟩
theorem CnE_b {V : Nat → Int32} {S l y0 E : Nat} {R : List Nat} {x : Int} {mi : MI} {ml : MJ} (h : CnE V S l R y0 E x mi ml) : 0 ≤ x ∧ x ≤ (E : Int) := by
  rcases h with ⟨a, b, _⟩ | ⟨a, _⟩ <;> omega
theorem CnE_l {V : Nat → Int32} {S l y0 E y : Nat} {R : List Nat} {x : Int} {mi : MI} {ml : MJ} (h : CnE V S l (R ++ [y]) y0 E x mi ml) (hx : x < (E : Int)) : CSI mi ml (DS V (R ++ [y])) (V 3).toInt (V 4).toInt (R.length + 1) := by
  rcases h with ⟨_, _, c⟩ | ⟨a, _⟩
  · rw [List.length_append] at c; exact c
  · omega
theorem CnI_sp {V : Nat → Int32} {S l y0 E y : Nat} {R : List Nat} {x : Int} {mi : MI} {ml : MJ} (h : CnI V S l R y0 E y x mi ml) : (mi 53 9).toInt = (V 4).toInt := by
  rcases h with ⟨F, _, _, _, _, e⟩ | ⟨_, _, R', e, _⟩ <;> exact e.2.1.2.2.2.2
theorem CSI_a {V : Nat → Int32} {y : Nat} {R : List Nat} {mi : MI} {ml : MJ} (h : CSI mi ml (DS V (R ++ [y])) (V 3).toInt (V 4).toInt (R.length + 1)) : CSI mi ml (DS V (R ++ [y])) (V 3).toInt (V 4).toInt (R ++ [y]).length := by
  rw [List.length_append]; exact h
set_option maxHeartbeats 1600000 in
set_option maxRecDepth 100000 in
theorem c_X5_countInner0 (l : Launch) (hfl : l.stackTraces = false) (mi : MI) (ml : MJ) (V : Nat → Int32) (hV : WFV V) (sp : Nat) (hsp : (V 4).toInt = (sp : Int)) (hs1 : 1 ≤ sp) (hs10 : sp ≤ 10) (R : List Nat) (S y0 EE : Nat) (hS : S ∈ R) (h0 : y0 ∈ R) (hR : ∀ x, x ∈ R → x ≤ 40) (hlen : R.length + 0 ≤ 6) (hC : CSI mi ml (DS V R) (V 3).toInt (V 4).toInt R.length) (xl xlow xs xe : Int32) (hl : xl.toInt = 0) (hlow : xlow.toInt = ((y0 + sp : Nat) : Int)) (hxs : xs.toInt = (S : Int)) (hE : xe.toInt = (EE : Int)) (hE1 : 1 ≤ EE) : Ct l yX5_countInner (.code yX5_countInner cX5_countInner 8 (some .int)) 0 0 0 [.ref 53, .int xl, .int xlow, .int xs, .int xe] (wl mi ml) (QI (fun r mi9 ml9 => Fr [53, 54, 55] mi mi9 ∧ FLc ml ml9 ∧ CnE V S 0 R y0 EE r.toInt mi9 ml9)) noX := by
  refine Ct_of (ini := false) pn_X5 hfl (fun h => nomatch h) (Nat.le_of_ble_eq_true rfl) ?_
  show E l RX5 cX5_countInner 8 (some .int) false [] (rmE 0 0 0) (wl mi ml) (TgM (wl mi ml) 0 0 (QI (fun r mi9 ml9 => Fr [53, 54, 55] mi mi9 ∧ FLc ml ml9 ∧ CnE V S 0 R y0 EE r.toInt mi9 ml9)) noX) 0 0 0 [(0, .ref 53), (1, .int xl), (2, .int xlow), (3, .int xs), (4, .int xe)] [] (wl mi ml)
  refine E_iload_n 1 dX5_countInner_0 rfl rfl ?_
  refine Y_gt 0 hl 6 dX5_countInner_1 (by decide) (fun c_1 => ?_) (fun c_1 => ?_)
  · exact absurd c_1 (by omega)
  · skip
    refine E_iconst 1 (by decide) dX5_countInner_4 ?_
    refine E_iret rfl (Nat.le_of_ble_eq_true rfl) (Nat.le_of_ble_eq_true rfl) dX5_countInner_5 ?_
    exact okQI ⟨Fr_r, FLc_r, CnE_0 hE1 hR hC⟩
set_option maxHeartbeats 1600000 in
set_option maxRecDepth 100000 in
theorem c_X5_countInner1 (l : Launch) (hfl : l.stackTraces = false) (mi : MI) (ml : MJ) (V : Nat → Int32) (hV : WFV V) (sp : Nat) (hsp : (V 4).toInt = (sp : Int)) (hs1 : 1 ≤ sp) (hs10 : sp ≤ 10) (R : List Nat) (S y0 EE : Nat) (hS : S ∈ R) (h0 : y0 ∈ R) (hR : ∀ x, x ∈ R → x ≤ 40) (hlen : R.length + 1 ≤ 6) (hC : CSI mi ml (DS V R) (V 3).toInt (V 4).toInt R.length) (xl xlow xs xe : Int32) (hl : xl.toInt = 1) (hlow : xlow.toInt = ((y0 + sp : Nat) : Int)) (hxs : xs.toInt = (S : Int)) (hE : xe.toInt = (EE : Int)) (hE1 : 1 ≤ EE) : Ct l yX5_countInner (.code yX5_countInner cX5_countInner 8 (some .int)) 4 0 0 [.ref 53, .int xl, .int xlow, .int xs, .int xe] (wl mi ml) (QI (fun r mi9 ml9 => Fr [53, 54, 55] mi mi9 ∧ FLc ml ml9 ∧ CnE V S 1 R y0 EE r.toInt mi9 ml9)) noX := by
  refine Ct_of (ini := false) pn_X5 hfl (fun h => nomatch h) (Nat.le_of_ble_eq_true rfl) ?_
  show E l RX5 cX5_countInner 8 (some .int) false [] (rmE 4 0 0) (wl mi ml) (TgM (wl mi ml) 0 0 (QI (fun r mi9 ml9 => Fr [53, 54, 55] mi mi9 ∧ FLc ml ml9 ∧ CnE V S 1 R y0 EE r.toInt mi9 ml9)) noX) 0 0 0 [(0, .ref 53), (1, .int xl), (2, .int xlow), (3, .int xs), (4, .int xe)] [] (wl mi ml)
  have hS40 := hR S hS
  have hEb := tI_rng xe
  refine E_iload_n 1 dX5_countInner_0 rfl rfl ?_
  refine Y_gt 1 hl 6 dX5_countInner_1 (by decide) (fun c_1 => ?_) (fun c_1 => ?_)
  · skip
    refine E_iconst 0 (by decide) dX5_countInner_6 ?_
    refine E_istore [(5, .int 0), (0, .ref 53), (1, .int xl), (2, .int xlow), (3, .int xs), (4, .int xe)] dX5_countInner_7 (by decide) rfl ?_
    refine E_iload_n 4 dX5_countInner_9 rfl rfl ?_
    refine E_iload_n 2 dX5_countInner_10 rfl rfl ?_
    refine E_aload_n 1 dX5_countInner_11 rfl rfl ?_
    refine gf_X5_345 (mi 53 9) tw_53 rfl rfl dX5_countInner_12 ?_
    refine E_imul dX5_countInner_15 ?_
    refine E_isub dX5_countInner_16 ?_
    refine E_istore [(6, .int (xs - (xl * (mi 53 9)))), (5, .int 0), (0, .ref 53), (1, .int xl), (2, .int xlow), (3, .int xs), (4, .int xe)] dX5_countInner_17 (by decide) rfl ?_
    refine E_iload_n 4 dX5_countInner_19 rfl rfl ?_
    refine E_istore [(7, .int xlow), (6, .int (xs - (xl * (mi 53 9)))), (5, .int 0), (0, .ref 53), (1, .int xl), (2, .int xlow), (3, .int xs), (4, .int xe)] dX5_countInner_20 (by decide) rfl ?_
    have J22 : ∀ (Nm : Nat) (xm xf : Int32) (y : Nat) (ma : MI) (la : MJ), S + 1 - y < Nm → xm.toInt = (y : Int) → y0 < y → Fr [53, 54, 55] mi ma → FLc ml la → CnI V S 0 R y0 EE y xf.toInt ma la → E l RX5 cX5_countInner 8 (some .int) false [] (rmE 4 0 0) (wl mi ml) (TgM (wl mi ml) 0 0 (QI (fun r mi9 ml9 => Fr [53, 54, 55] mi mi9 ∧ FLc ml ml9 ∧ CnE V S 1 R y0 EE r.toInt mi9 ml9)) noX) 0 0 22 [(0, .ref 53), (1, .int xl), (3, .int xs), (4, .int xe), (5, .int xf), (6, .int (xs - (xl * (mi 53 9)))), (7, .int xm)] [] (wl ma la) := by
      intro Nm
      induction Nm with
      | zero => intros; omega
      | succ Nm ih22 =>
        intro xm xf y ma la hN22 hm hyl hF hL hI
        have h9 : (ma 53 9).toInt = (sp : Int) := (CnI_sp hI).trans hsp
        refine E_iload 6 dX5_countInner_22 rfl ?_
        refine E_iload 5 dX5_countInner_24 rfl ?_
        refine Z_gt (y : Int) ((S : Int) - (1 * (sp : Int))) hm (tI_sub hxs (tI_mul hl (hC.2.1.2.2.2.2.trans hsp) (by omega)) (by omega)) 89 dX5_countInner_26 (by decide) (fun c_26 => ?_) (fun c_26 => ?_)
        · skip
          refine E_iload 4 dX5_countInner_89 rfl ?_
          refine E_iret rfl (Nat.le_of_ble_eq_true rfl) (Nat.le_of_ble_eq_true rfl) dX5_countInner_91 ?_
          exact okQI ⟨hF, hL, CnI_e hsp hs1 hS h0 hyl hI (by omega)⟩
        · skip
          refine E_iload 4 dX5_countInner_29 rfl ?_
          refine E_iload 3 dX5_countInner_31 rfl ?_
          refine Z_ge xf.toInt (EE : Int) rfl hE 89 dX5_countInner_33 (by decide) (fun c_33 => ?_) (fun c_33 => ?_)
          · skip
            refine E_iload 4 dX5_countInner_89 rfl ?_
            refine E_iret rfl (Nat.le_of_ble_eq_true rfl) (Nat.le_of_ble_eq_true rfl) dX5_countInner_91 ?_
            exact okQI ⟨hF, hL, CnI_e hsp hs1 hS h0 hyl hI (by omega)⟩
          · skip
            obtain ⟨F, hF1, hF2, hF3, hF4, hCS⟩ := CnI_C hI c_33
            have hy : y < S := by omega
            refine E_aload_n 0 dX5_countInner_36 rfl rfl ?_
            refine E_iload 6 dX5_countInner_37 rfl ?_
            refine E_bipush 60 (by decide) dX5_countInner_39 ?_
            refine E_callV (c_X0_join l hfl ma la (DS V (R ++ [y])) (V 3).toInt (V 4).toInt R.length (hCS.d eqD_S) (RgD_S hV (mem_a hR (by omega))) (by omega) xm (hm.trans DS_l.symm) 60 rfl) cw_X5_334 (As := [.int xm, .int 60]) (st := []) wi_yX0_join we_yX0_join (ci := 0) (q := (RX0, TX0, 10)) rfl rfl (wl_atO tw_53) rfl ⟨Nat.le_of_ble_eq_true rfl, Nat.le_of_ble_eq_true rfl, Nat.le_of_ble_eq_true rfl, Nat.le_of_ble_eq_true rfl⟩ (Nat.le_of_ble_eq_true rfl) dX5_countInner_41 (fun _ _ h => h) rfl (kI (fun r_41 mi_41 ml_41 h_41 => ?_))
            obtain ⟨e_41, h_41⟩ := h_41
            subst e_41
            refine B_eq 83 dX5_countInner_44 (by decide) (fun c_44 => ?_) (fun c_44 => ?_)
            · skip
              refine E_iinc 6 (xm + 1) [(7, .int (xm + 1)), (0, .ref 53), (1, .int xl), (3, .int xs), (4, .int xe), (5, .int xf), (6, .int (xs - (xl * (mi 53 9))))] dX5_countInner_83 rfl rfl (by decide) rfl ?_
              refine E_goto 22 dX5_countInner_86 (by decide) ?_
              refine E_sub [1, 2, 3, 4, 5, 6, 0] rfl ?_
              exact ih22 (xm + 1) xf (y + 1) mi_41 ml_41 (by omega) ((tI_add hm (show (1 : Int32).toInt = 1 from rfl) (by omega)).trans (by omega)) (by omega) (hF.trans h_41.1 (fun _ h => h) (fun _ h => h)) (hL.trans h_41.2.1) (CnI_n hI c_33 hy (fun z => c_44 (ClN_iff.mp z)) (fun hc => by rw [← (h_41.2.2.resolve_left (fun z => c_44 z.1)).2.1, ← (h_41.2.2.resolve_left (fun z => c_44 z.1)).2.2]; exact hc))
            · skip
              have h9b : (mi_41 53 9).toInt = (sp : Int) := ((h_41.2.2.resolve_right (fun z => z.1 c_44)).2).2.1.2.2.2.2.trans hsp
              refine E_iload 4 dX5_countInner_47 rfl ?_
              refine E_aload_n 0 dX5_countInner_49 rfl rfl ?_
              refine E_iload_n 1 dX5_countInner_50 rfl rfl ?_
              refine E_iconst 1 (by decide) dX5_countInner_51 ?_
              refine E_isub dX5_countInner_52 ?_
              refine E_iload 6 dX5_countInner_53 rfl ?_
              refine E_aload_n 0 dX5_countInner_55 rfl rfl ?_
              refine gf_X5_345 (mi_41 53 9) tw_53 rfl rfl dX5_countInner_56 ?_
              refine E_iadd dX5_countInner_59 ?_
              refine E_iload_n 2 dX5_countInner_60 rfl rfl ?_
              refine E_iload 3 dX5_countInner_61 rfl ?_
              refine E_iload 4 dX5_countInner_63 rfl ?_
              refine E_isub dX5_countInner_65 ?_
              refine E_callS (c_X5_countInner0 l hfl mi_41 ml_41 V hV sp hsp hs1 hs10 (R ++ [y]) S y (EE - F) (List.mem_append_left _ hS) (List.mem_append_right _ (List.mem_singleton.mpr rfl)) (mem_a hR (by omega)) (by rw [List.length_append]; simp only [List.length_cons, List.length_nil]; omega) (CSI_a (h_41.2.2.resolve_right (fun z => z.1 c_44)).2) (xl - 1) (xm + (mi_41 53 9)) xs (xe - xf) ((tI_sub hl (show (1 : Int32).toInt = 1 from rfl) (by omega)).trans (by omega)) ((tI_add hm h9b (by omega)).trans (by omega)) hxs ((tI_sub hE rfl (by omega)).trans (by omega)) (by omega)) cw_X5_341 (As := [.ref 53, .int (xl - 1), .int (xm + (mi_41 53 9)), .int xs, .int (xe - xf)]) (st := [.int xf]) ws_yX5_countInner rfl ⟨Nat.le_of_ble_eq_true rfl, Nat.le_of_ble_eq_true rfl, Nat.le_of_ble_eq_true rfl, Nat.le_of_ble_eq_true rfl⟩ (Nat.le_of_ble_eq_true rfl) dX5_countInner_66 (fun _ _ h => h) rfl (kI (fun r_66 mi_66 ml_66 h_66 => ?_))
              have hr66 := CnE_b h_66.2.2
              refine E_iadd dX5_countInner_69 ?_
              refine E_istore [(5, .int (xf + r_66)), (0, .ref 53), (1, .int xl), (3, .int xs), (4, .int xe), (6, .int (xs - (xl * (mi 53 9)))), (7, .int xm)] dX5_countInner_70 (by decide) rfl ?_
              refine E_iload 0 dX5_countInner_72 rfl ?_
              refine E_iload 4 dX5_countInner_74 rfl ?_
              refine Z_ge (xf.toInt + r_66.toInt) (EE : Int) (tI_add rfl rfl (by omega)) hE 83 dX5_countInner_76 (by decide) (fun c_76 => ?_) (fun c_76 => ?_)
              · skip
                refine E_iinc 6 (xm + 1) [(7, .int (xm + 1)), (5, .int (xf + r_66)), (0, .ref 53), (1, .int xl), (3, .int xs), (4, .int xe), (6, .int (xs - (xl * (mi 53 9))))] dX5_countInner_83 rfl rfl (by decide) rfl ?_
                refine E_goto 22 dX5_countInner_86 (by decide) ?_
                refine E_sub [2, 3, 4, 5, 1, 6, 0] rfl ?_
                exact ih22 (xm + 1) (xf + r_66) (y + 1) mi_66 ml_66 (by omega) ((tI_add hm (show (1 : Int32).toInt = 1 from rfl) (by omega)).trans (by omega)) (by omega) ((hF.trans h_41.1 (fun _ h => h) (fun _ h => h)).trans h_66.1 (fun _ h => h) (fun _ h => h)) ((hL.trans h_41.2.1).trans h_66.2.1) (by rw [(tI_add rfl rfl (by omega))]; exact CnI_y hF1 hF2 hF3 hF4 hy (ClN_iff.mpr c_44) h_66.2.2 (fun q _ => absurd q (by omega)) (fun _ => ⟨rfl, rfl⟩))
              · skip
                have hCl := CnE_l h_66.2.2 (by omega)
                refine E_aload_n 1 dX5_countInner_79 rfl rfl ?_
                refine E_callV (c_X0_leave l hfl mi_66 ml_66 (DS V (R ++ [y])) (V 3).toInt (V 4).toInt R.length hCl (by omega)) cw_X5_338 (As := []) (st := []) wi_yX0_leave we_yX0_leave (ci := 0) (q := (RX0, TX0, 10)) rfl rfl (wl_atO tw_53) rfl ⟨Nat.le_of_ble_eq_true rfl, Nat.le_of_ble_eq_true rfl, Nat.le_of_ble_eq_true rfl, Nat.le_of_ble_eq_true rfl⟩ (Nat.le_of_ble_eq_true rfl) dX5_countInner_80 (fun _ _ h => h) rfl (kV (fun mi_80 ml_80 h_80 => ?_))
                obtain ⟨rfl, h_80⟩ := h_80
                refine E_iinc 6 (xm + 1) [(7, .int (xm + 1)), (5, .int (xf + r_66)), (0, .ref 53), (1, .int xl), (3, .int xs), (4, .int xe), (6, .int (xs - (xl * (mi 53 9))))] dX5_countInner_83 rfl rfl (by decide) rfl ?_
                refine E_goto 22 dX5_countInner_86 (by decide) ?_
                refine E_sub [2, 3, 4, 5, 1, 6, 0] rfl ?_
                exact ih22 (xm + 1) (xf + r_66) (y + 1) mi_80 ml_66 (by omega) ((tI_add hm (show (1 : Int32).toInt = 1 from rfl) (by omega)).trans (by omega)) (by omega) (((hF.trans h_41.1 (fun _ h => h) (fun _ h => h)).trans h_66.1 (fun _ h => h) (fun _ h => h)).trans h_80.1 (fun _ h => h) (by decide)) ((hL.trans h_41.2.1).trans h_66.2.1) (by rw [(tI_add rfl rfl (by omega))]; exact CnI_y hF1 hF2 hF3 hF4 hy (ClN_iff.mpr c_44) h_66.2.2 (fun _ _ => h_80.2.d eqD_S.symm) (fun q => absurd q (by omega)))
    refine E_sub [3, 4, 6, 7, 2, 1, 0] rfl ?_
    exact J22 _ xlow 0 (y0 + sp) mi ml (Nat.lt_succ_self _) hlow (by omega) Fr_r FLc_r (by have h99 := CnI_0 (l := 0) hsp hs1 hS h0 hE1 hC; exact h99)
  · exact absurd c_1 (by omega)
set_option maxHeartbeats 1600000 in
set_option maxRecDepth 100000 in
theorem c_X5_countInner2 (l : Launch) (hfl : l.stackTraces = false) (mi : MI) (ml : MJ) (V : Nat → Int32) (hV : WFV V) (sp : Nat) (hsp : (V 4).toInt = (sp : Int)) (hs1 : 1 ≤ sp) (hs10 : sp ≤ 10) (R : List Nat) (S y0 EE : Nat) (hS : S ∈ R) (h0 : y0 ∈ R) (hR : ∀ x, x ∈ R → x ≤ 40) (hlen : R.length + 2 ≤ 6) (hC : CSI mi ml (DS V R) (V 3).toInt (V 4).toInt R.length) (xl xlow xs xe : Int32) (hl : xl.toInt = 2) (hlow : xlow.toInt = ((y0 + sp : Nat) : Int)) (hxs : xs.toInt = (S : Int)) (hE : xe.toInt = (EE : Int)) (hE1 : 1 ≤ EE) : Ct l yX5_countInner (.code yX5_countInner cX5_countInner 8 (some .int)) 5 0 0 [.ref 53, .int xl, .int xlow, .int xs, .int xe] (wl mi ml) (QI (fun r mi9 ml9 => Fr [53, 54, 55] mi mi9 ∧ FLc ml ml9 ∧ CnE V S 2 R y0 EE r.toInt mi9 ml9)) noX := by
  refine Ct_of (ini := false) pn_X5 hfl (fun h => nomatch h) (Nat.le_of_ble_eq_true rfl) ?_
  show E l RX5 cX5_countInner 8 (some .int) false [] (rmE 5 0 0) (wl mi ml) (TgM (wl mi ml) 0 0 (QI (fun r mi9 ml9 => Fr [53, 54, 55] mi mi9 ∧ FLc ml ml9 ∧ CnE V S 2 R y0 EE r.toInt mi9 ml9)) noX) 0 0 0 [(0, .ref 53), (1, .int xl), (2, .int xlow), (3, .int xs), (4, .int xe)] [] (wl mi ml)
  have hS40 := hR S hS
  have hEb := tI_rng xe
  refine E_iload_n 1 dX5_countInner_0 rfl rfl ?_
  refine Y_gt 2 hl 6 dX5_countInner_1 (by decide) (fun c_1 => ?_) (fun c_1 => ?_)
  · skip
    refine E_iconst 0 (by decide) dX5_countInner_6 ?_
    refine E_istore [(5, .int 0), (0, .ref 53), (1, .int xl), (2, .int xlow), (3, .int xs), (4, .int xe)] dX5_countInner_7 (by decide) rfl ?_
    refine E_iload_n 4 dX5_countInner_9 rfl rfl ?_
    refine E_iload_n 2 dX5_countInner_10 rfl rfl ?_
    refine E_aload_n 1 dX5_countInner_11 rfl rfl ?_
    refine gf_X5_345 (mi 53 9) tw_53 rfl rfl dX5_countInner_12 ?_
    refine E_imul dX5_countInner_15 ?_
    refine E_isub dX5_countInner_16 ?_
    refine E_istore [(6, .int (xs - (xl * (mi 53 9)))), (5, .int 0), (0, .ref 53), (1, .int xl), (2, .int xlow), (3, .int xs), (4, .int xe)] dX5_countInner_17 (by decide) rfl ?_
    refine E_iload_n 4 dX5_countInner_19 rfl rfl ?_
    refine E_istore [(7, .int xlow), (6, .int (xs - (xl * (mi 53 9)))), (5, .int 0), (0, .ref 53), (1, .int xl), (2, .int xlow), (3, .int xs), (4, .int xe)] dX5_countInner_20 (by decide) rfl ?_
    have J22 : ∀ (Nm : Nat) (xm xf : Int32) (y : Nat) (ma : MI) (la : MJ), S + 1 - y < Nm → xm.toInt = (y : Int) → y0 < y → Fr [53, 54, 55] mi ma → FLc ml la → CnI V S 1 R y0 EE y xf.toInt ma la → E l RX5 cX5_countInner 8 (some .int) false [] (rmE 5 0 0) (wl mi ml) (TgM (wl mi ml) 0 0 (QI (fun r mi9 ml9 => Fr [53, 54, 55] mi mi9 ∧ FLc ml ml9 ∧ CnE V S 2 R y0 EE r.toInt mi9 ml9)) noX) 0 0 22 [(0, .ref 53), (1, .int xl), (3, .int xs), (4, .int xe), (5, .int xf), (6, .int (xs - (xl * (mi 53 9)))), (7, .int xm)] [] (wl ma la) := by
      intro Nm
      induction Nm with
      | zero => intros; omega
      | succ Nm ih22 =>
        intro xm xf y ma la hN22 hm hyl hF hL hI
        have h9 : (ma 53 9).toInt = (sp : Int) := (CnI_sp hI).trans hsp
        refine E_iload 6 dX5_countInner_22 rfl ?_
        refine E_iload 5 dX5_countInner_24 rfl ?_
        refine Z_gt (y : Int) ((S : Int) - (2 * (sp : Int))) hm (tI_sub hxs (tI_mul hl (hC.2.1.2.2.2.2.trans hsp) (by omega)) (by omega)) 89 dX5_countInner_26 (by decide) (fun c_26 => ?_) (fun c_26 => ?_)
        · skip
          refine E_iload 4 dX5_countInner_89 rfl ?_
          refine E_iret rfl (Nat.le_of_ble_eq_true rfl) (Nat.le_of_ble_eq_true rfl) dX5_countInner_91 ?_
          exact okQI ⟨hF, hL, CnI_e hsp hs1 hS h0 hyl hI (by omega)⟩
        · skip
          refine E_iload 4 dX5_countInner_29 rfl ?_
          refine E_iload 3 dX5_countInner_31 rfl ?_
          refine Z_ge xf.toInt (EE : Int) rfl hE 89 dX5_countInner_33 (by decide) (fun c_33 => ?_) (fun c_33 => ?_)
          · skip
            refine E_iload 4 dX5_countInner_89 rfl ?_
            refine E_iret rfl (Nat.le_of_ble_eq_true rfl) (Nat.le_of_ble_eq_true rfl) dX5_countInner_91 ?_
            exact okQI ⟨hF, hL, CnI_e hsp hs1 hS h0 hyl hI (by omega)⟩
          · skip
            obtain ⟨F, hF1, hF2, hF3, hF4, hCS⟩ := CnI_C hI c_33
            have hy : y < S := by omega
            refine E_aload_n 0 dX5_countInner_36 rfl rfl ?_
            refine E_iload 6 dX5_countInner_37 rfl ?_
            refine E_bipush 60 (by decide) dX5_countInner_39 ?_
            refine E_callV (c_X0_join l hfl ma la (DS V (R ++ [y])) (V 3).toInt (V 4).toInt R.length (hCS.d eqD_S) (RgD_S hV (mem_a hR (by omega))) (by omega) xm (hm.trans DS_l.symm) 60 rfl) cw_X5_334 (As := [.int xm, .int 60]) (st := []) wi_yX0_join we_yX0_join (ci := 0) (q := (RX0, TX0, 10)) rfl rfl (wl_atO tw_53) rfl ⟨Nat.le_of_ble_eq_true rfl, Nat.le_of_ble_eq_true rfl, Nat.le_of_ble_eq_true rfl, Nat.le_of_ble_eq_true rfl⟩ (Nat.le_of_ble_eq_true rfl) dX5_countInner_41 (fun _ _ h => h) rfl (kI (fun r_41 mi_41 ml_41 h_41 => ?_))
            obtain ⟨e_41, h_41⟩ := h_41
            subst e_41
            refine B_eq 83 dX5_countInner_44 (by decide) (fun c_44 => ?_) (fun c_44 => ?_)
            · skip
              refine E_iinc 6 (xm + 1) [(7, .int (xm + 1)), (0, .ref 53), (1, .int xl), (3, .int xs), (4, .int xe), (5, .int xf), (6, .int (xs - (xl * (mi 53 9))))] dX5_countInner_83 rfl rfl (by decide) rfl ?_
              refine E_goto 22 dX5_countInner_86 (by decide) ?_
              refine E_sub [1, 2, 3, 4, 5, 6, 0] rfl ?_
              exact ih22 (xm + 1) xf (y + 1) mi_41 ml_41 (by omega) ((tI_add hm (show (1 : Int32).toInt = 1 from rfl) (by omega)).trans (by omega)) (by omega) (hF.trans h_41.1 (fun _ h => h) (fun _ h => h)) (hL.trans h_41.2.1) (CnI_n hI c_33 hy (fun z => c_44 (ClN_iff.mp z)) (fun hc => by rw [← (h_41.2.2.resolve_left (fun z => c_44 z.1)).2.1, ← (h_41.2.2.resolve_left (fun z => c_44 z.1)).2.2]; exact hc))
            · skip
              have h9b : (mi_41 53 9).toInt = (sp : Int) := ((h_41.2.2.resolve_right (fun z => z.1 c_44)).2).2.1.2.2.2.2.trans hsp
              refine E_iload 4 dX5_countInner_47 rfl ?_
              refine E_aload_n 0 dX5_countInner_49 rfl rfl ?_
              refine E_iload_n 1 dX5_countInner_50 rfl rfl ?_
              refine E_iconst 1 (by decide) dX5_countInner_51 ?_
              refine E_isub dX5_countInner_52 ?_
              refine E_iload 6 dX5_countInner_53 rfl ?_
              refine E_aload_n 0 dX5_countInner_55 rfl rfl ?_
              refine gf_X5_345 (mi_41 53 9) tw_53 rfl rfl dX5_countInner_56 ?_
              refine E_iadd dX5_countInner_59 ?_
              refine E_iload_n 2 dX5_countInner_60 rfl rfl ?_
              refine E_iload 3 dX5_countInner_61 rfl ?_
              refine E_iload 4 dX5_countInner_63 rfl ?_
              refine E_isub dX5_countInner_65 ?_
              refine E_callS (c_X5_countInner1 l hfl mi_41 ml_41 V hV sp hsp hs1 hs10 (R ++ [y]) S y (EE - F) (List.mem_append_left _ hS) (List.mem_append_right _ (List.mem_singleton.mpr rfl)) (mem_a hR (by omega)) (by rw [List.length_append]; simp only [List.length_cons, List.length_nil]; omega) (CSI_a (h_41.2.2.resolve_right (fun z => z.1 c_44)).2) (xl - 1) (xm + (mi_41 53 9)) xs (xe - xf) ((tI_sub hl (show (1 : Int32).toInt = 1 from rfl) (by omega)).trans (by omega)) ((tI_add hm h9b (by omega)).trans (by omega)) hxs ((tI_sub hE rfl (by omega)).trans (by omega)) (by omega)) cw_X5_341 (As := [.ref 53, .int (xl - 1), .int (xm + (mi_41 53 9)), .int xs, .int (xe - xf)]) (st := [.int xf]) ws_yX5_countInner rfl ⟨Nat.le_of_ble_eq_true rfl, Nat.le_of_ble_eq_true rfl, Nat.le_of_ble_eq_true rfl, Nat.le_of_ble_eq_true rfl⟩ (Nat.le_of_ble_eq_true rfl) dX5_countInner_66 (fun _ _ h => h) rfl (kI (fun r_66 mi_66 ml_66 h_66 => ?_))
              have hr66 := CnE_b h_66.2.2
              refine E_iadd dX5_countInner_69 ?_
              refine E_istore [(5, .int (xf + r_66)), (0, .ref 53), (1, .int xl), (3, .int xs), (4, .int xe), (6, .int (xs - (xl * (mi 53 9)))), (7, .int xm)] dX5_countInner_70 (by decide) rfl ?_
              refine E_iload 0 dX5_countInner_72 rfl ?_
              refine E_iload 4 dX5_countInner_74 rfl ?_
              refine Z_ge (xf.toInt + r_66.toInt) (EE : Int) (tI_add rfl rfl (by omega)) hE 83 dX5_countInner_76 (by decide) (fun c_76 => ?_) (fun c_76 => ?_)
              · skip
                refine E_iinc 6 (xm + 1) [(7, .int (xm + 1)), (5, .int (xf + r_66)), (0, .ref 53), (1, .int xl), (3, .int xs), (4, .int xe), (6, .int (xs - (xl * (mi 53 9))))] dX5_countInner_83 rfl rfl (by decide) rfl ?_
                refine E_goto 22 dX5_countInner_86 (by decide) ?_
                refine E_sub [2, 3, 4, 5, 1, 6, 0] rfl ?_
                exact ih22 (xm + 1) (xf + r_66) (y + 1) mi_66 ml_66 (by omega) ((tI_add hm (show (1 : Int32).toInt = 1 from rfl) (by omega)).trans (by omega)) (by omega) ((hF.trans h_41.1 (fun _ h => h) (fun _ h => h)).trans h_66.1 (fun _ h => h) (fun _ h => h)) ((hL.trans h_41.2.1).trans h_66.2.1) (by rw [(tI_add rfl rfl (by omega))]; exact CnI_y hF1 hF2 hF3 hF4 hy (ClN_iff.mpr c_44) h_66.2.2 (fun q _ => absurd q (by omega)) (fun _ => ⟨rfl, rfl⟩))
              · skip
                have hCl := CnE_l h_66.2.2 (by omega)
                refine E_aload_n 1 dX5_countInner_79 rfl rfl ?_
                refine E_callV (c_X0_leave l hfl mi_66 ml_66 (DS V (R ++ [y])) (V 3).toInt (V 4).toInt R.length hCl (by omega)) cw_X5_338 (As := []) (st := []) wi_yX0_leave we_yX0_leave (ci := 0) (q := (RX0, TX0, 10)) rfl rfl (wl_atO tw_53) rfl ⟨Nat.le_of_ble_eq_true rfl, Nat.le_of_ble_eq_true rfl, Nat.le_of_ble_eq_true rfl, Nat.le_of_ble_eq_true rfl⟩ (Nat.le_of_ble_eq_true rfl) dX5_countInner_80 (fun _ _ h => h) rfl (kV (fun mi_80 ml_80 h_80 => ?_))
                obtain ⟨rfl, h_80⟩ := h_80
                refine E_iinc 6 (xm + 1) [(7, .int (xm + 1)), (5, .int (xf + r_66)), (0, .ref 53), (1, .int xl), (3, .int xs), (4, .int xe), (6, .int (xs - (xl * (mi 53 9))))] dX5_countInner_83 rfl rfl (by decide) rfl ?_
                refine E_goto 22 dX5_countInner_86 (by decide) ?_
                refine E_sub [2, 3, 4, 5, 1, 6, 0] rfl ?_
                exact ih22 (xm + 1) (xf + r_66) (y + 1) mi_80 ml_66 (by omega) ((tI_add hm (show (1 : Int32).toInt = 1 from rfl) (by omega)).trans (by omega)) (by omega) (((hF.trans h_41.1 (fun _ h => h) (fun _ h => h)).trans h_66.1 (fun _ h => h) (fun _ h => h)).trans h_80.1 (fun _ h => h) (by decide)) ((hL.trans h_41.2.1).trans h_66.2.1) (by rw [(tI_add rfl rfl (by omega))]; exact CnI_y hF1 hF2 hF3 hF4 hy (ClN_iff.mpr c_44) h_66.2.2 (fun _ _ => h_80.2.d eqD_S.symm) (fun q => absurd q (by omega)))
    refine E_sub [3, 4, 6, 7, 2, 1, 0] rfl ?_
    exact J22 _ xlow 0 (y0 + sp) mi ml (Nat.lt_succ_self _) hlow (by omega) Fr_r FLc_r (by have h99 := CnI_0 (l := 1) hsp hs1 hS h0 hE1 hC; exact h99)
  · exact absurd c_1 (by omega)
set_option maxHeartbeats 1600000 in
set_option maxRecDepth 100000 in
theorem c_X5_countInner3 (l : Launch) (hfl : l.stackTraces = false) (mi : MI) (ml : MJ) (V : Nat → Int32) (hV : WFV V) (sp : Nat) (hsp : (V 4).toInt = (sp : Int)) (hs1 : 1 ≤ sp) (hs10 : sp ≤ 10) (R : List Nat) (S y0 EE : Nat) (hS : S ∈ R) (h0 : y0 ∈ R) (hR : ∀ x, x ∈ R → x ≤ 40) (hlen : R.length + 3 ≤ 6) (hC : CSI mi ml (DS V R) (V 3).toInt (V 4).toInt R.length) (xl xlow xs xe : Int32) (hl : xl.toInt = 3) (hlow : xlow.toInt = ((y0 + sp : Nat) : Int)) (hxs : xs.toInt = (S : Int)) (hE : xe.toInt = (EE : Int)) (hE1 : 1 ≤ EE) : Ct l yX5_countInner (.code yX5_countInner cX5_countInner 8 (some .int)) 6 0 0 [.ref 53, .int xl, .int xlow, .int xs, .int xe] (wl mi ml) (QI (fun r mi9 ml9 => Fr [53, 54, 55] mi mi9 ∧ FLc ml ml9 ∧ CnE V S 3 R y0 EE r.toInt mi9 ml9)) noX := by
  refine Ct_of (ini := false) pn_X5 hfl (fun h => nomatch h) (Nat.le_of_ble_eq_true rfl) ?_
  show E l RX5 cX5_countInner 8 (some .int) false [] (rmE 6 0 0) (wl mi ml) (TgM (wl mi ml) 0 0 (QI (fun r mi9 ml9 => Fr [53, 54, 55] mi mi9 ∧ FLc ml ml9 ∧ CnE V S 3 R y0 EE r.toInt mi9 ml9)) noX) 0 0 0 [(0, .ref 53), (1, .int xl), (2, .int xlow), (3, .int xs), (4, .int xe)] [] (wl mi ml)
  have hS40 := hR S hS
  have hEb := tI_rng xe
  refine E_iload_n 1 dX5_countInner_0 rfl rfl ?_
  refine Y_gt 3 hl 6 dX5_countInner_1 (by decide) (fun c_1 => ?_) (fun c_1 => ?_)
  · skip
    refine E_iconst 0 (by decide) dX5_countInner_6 ?_
    refine E_istore [(5, .int 0), (0, .ref 53), (1, .int xl), (2, .int xlow), (3, .int xs), (4, .int xe)] dX5_countInner_7 (by decide) rfl ?_
    refine E_iload_n 4 dX5_countInner_9 rfl rfl ?_
    refine E_iload_n 2 dX5_countInner_10 rfl rfl ?_
    refine E_aload_n 1 dX5_countInner_11 rfl rfl ?_
    refine gf_X5_345 (mi 53 9) tw_53 rfl rfl dX5_countInner_12 ?_
    refine E_imul dX5_countInner_15 ?_
    refine E_isub dX5_countInner_16 ?_
    refine E_istore [(6, .int (xs - (xl * (mi 53 9)))), (5, .int 0), (0, .ref 53), (1, .int xl), (2, .int xlow), (3, .int xs), (4, .int xe)] dX5_countInner_17 (by decide) rfl ?_
    refine E_iload_n 4 dX5_countInner_19 rfl rfl ?_
    refine E_istore [(7, .int xlow), (6, .int (xs - (xl * (mi 53 9)))), (5, .int 0), (0, .ref 53), (1, .int xl), (2, .int xlow), (3, .int xs), (4, .int xe)] dX5_countInner_20 (by decide) rfl ?_
    have J22 : ∀ (Nm : Nat) (xm xf : Int32) (y : Nat) (ma : MI) (la : MJ), S + 1 - y < Nm → xm.toInt = (y : Int) → y0 < y → Fr [53, 54, 55] mi ma → FLc ml la → CnI V S 2 R y0 EE y xf.toInt ma la → E l RX5 cX5_countInner 8 (some .int) false [] (rmE 6 0 0) (wl mi ml) (TgM (wl mi ml) 0 0 (QI (fun r mi9 ml9 => Fr [53, 54, 55] mi mi9 ∧ FLc ml ml9 ∧ CnE V S 3 R y0 EE r.toInt mi9 ml9)) noX) 0 0 22 [(0, .ref 53), (1, .int xl), (3, .int xs), (4, .int xe), (5, .int xf), (6, .int (xs - (xl * (mi 53 9)))), (7, .int xm)] [] (wl ma la) := by
      intro Nm
      induction Nm with
      | zero => intros; omega
      | succ Nm ih22 =>
        intro xm xf y ma la hN22 hm hyl hF hL hI
        have h9 : (ma 53 9).toInt = (sp : Int) := (CnI_sp hI).trans hsp
        refine E_iload 6 dX5_countInner_22 rfl ?_
        refine E_iload 5 dX5_countInner_24 rfl ?_
        refine Z_gt (y : Int) ((S : Int) - (3 * (sp : Int))) hm (tI_sub hxs (tI_mul hl (hC.2.1.2.2.2.2.trans hsp) (by omega)) (by omega)) 89 dX5_countInner_26 (by decide) (fun c_26 => ?_) (fun c_26 => ?_)
        · skip
          refine E_iload 4 dX5_countInner_89 rfl ?_
          refine E_iret rfl (Nat.le_of_ble_eq_true rfl) (Nat.le_of_ble_eq_true rfl) dX5_countInner_91 ?_
          exact okQI ⟨hF, hL, CnI_e hsp hs1 hS h0 hyl hI (by omega)⟩
        · skip
          refine E_iload 4 dX5_countInner_29 rfl ?_
          refine E_iload 3 dX5_countInner_31 rfl ?_
          refine Z_ge xf.toInt (EE : Int) rfl hE 89 dX5_countInner_33 (by decide) (fun c_33 => ?_) (fun c_33 => ?_)
          · skip
            refine E_iload 4 dX5_countInner_89 rfl ?_
            refine E_iret rfl (Nat.le_of_ble_eq_true rfl) (Nat.le_of_ble_eq_true rfl) dX5_countInner_91 ?_
            exact okQI ⟨hF, hL, CnI_e hsp hs1 hS h0 hyl hI (by omega)⟩
          · skip
            obtain ⟨F, hF1, hF2, hF3, hF4, hCS⟩ := CnI_C hI c_33
            have hy : y < S := by omega
            refine E_aload_n 0 dX5_countInner_36 rfl rfl ?_
            refine E_iload 6 dX5_countInner_37 rfl ?_
            refine E_bipush 60 (by decide) dX5_countInner_39 ?_
            refine E_callV (c_X0_join l hfl ma la (DS V (R ++ [y])) (V 3).toInt (V 4).toInt R.length (hCS.d eqD_S) (RgD_S hV (mem_a hR (by omega))) (by omega) xm (hm.trans DS_l.symm) 60 rfl) cw_X5_334 (As := [.int xm, .int 60]) (st := []) wi_yX0_join we_yX0_join (ci := 0) (q := (RX0, TX0, 10)) rfl rfl (wl_atO tw_53) rfl ⟨Nat.le_of_ble_eq_true rfl, Nat.le_of_ble_eq_true rfl, Nat.le_of_ble_eq_true rfl, Nat.le_of_ble_eq_true rfl⟩ (Nat.le_of_ble_eq_true rfl) dX5_countInner_41 (fun _ _ h => h) rfl (kI (fun r_41 mi_41 ml_41 h_41 => ?_))
            obtain ⟨e_41, h_41⟩ := h_41
            subst e_41
            refine B_eq 83 dX5_countInner_44 (by decide) (fun c_44 => ?_) (fun c_44 => ?_)
            · skip
              refine E_iinc 6 (xm + 1) [(7, .int (xm + 1)), (0, .ref 53), (1, .int xl), (3, .int xs), (4, .int xe), (5, .int xf), (6, .int (xs - (xl * (mi 53 9))))] dX5_countInner_83 rfl rfl (by decide) rfl ?_
              refine E_goto 22 dX5_countInner_86 (by decide) ?_
              refine E_sub [1, 2, 3, 4, 5, 6, 0] rfl ?_
              exact ih22 (xm + 1) xf (y + 1) mi_41 ml_41 (by omega) ((tI_add hm (show (1 : Int32).toInt = 1 from rfl) (by omega)).trans (by omega)) (by omega) (hF.trans h_41.1 (fun _ h => h) (fun _ h => h)) (hL.trans h_41.2.1) (CnI_n hI c_33 hy (fun z => c_44 (ClN_iff.mp z)) (fun hc => by rw [← (h_41.2.2.resolve_left (fun z => c_44 z.1)).2.1, ← (h_41.2.2.resolve_left (fun z => c_44 z.1)).2.2]; exact hc))
            · skip
              have h9b : (mi_41 53 9).toInt = (sp : Int) := ((h_41.2.2.resolve_right (fun z => z.1 c_44)).2).2.1.2.2.2.2.trans hsp
              refine E_iload 4 dX5_countInner_47 rfl ?_
              refine E_aload_n 0 dX5_countInner_49 rfl rfl ?_
              refine E_iload_n 1 dX5_countInner_50 rfl rfl ?_
              refine E_iconst 1 (by decide) dX5_countInner_51 ?_
              refine E_isub dX5_countInner_52 ?_
              refine E_iload 6 dX5_countInner_53 rfl ?_
              refine E_aload_n 0 dX5_countInner_55 rfl rfl ?_
              refine gf_X5_345 (mi_41 53 9) tw_53 rfl rfl dX5_countInner_56 ?_
              refine E_iadd dX5_countInner_59 ?_
              refine E_iload_n 2 dX5_countInner_60 rfl rfl ?_
              refine E_iload 3 dX5_countInner_61 rfl ?_
              refine E_iload 4 dX5_countInner_63 rfl ?_
              refine E_isub dX5_countInner_65 ?_
              refine E_callS (c_X5_countInner2 l hfl mi_41 ml_41 V hV sp hsp hs1 hs10 (R ++ [y]) S y (EE - F) (List.mem_append_left _ hS) (List.mem_append_right _ (List.mem_singleton.mpr rfl)) (mem_a hR (by omega)) (by rw [List.length_append]; simp only [List.length_cons, List.length_nil]; omega) (CSI_a (h_41.2.2.resolve_right (fun z => z.1 c_44)).2) (xl - 1) (xm + (mi_41 53 9)) xs (xe - xf) ((tI_sub hl (show (1 : Int32).toInt = 1 from rfl) (by omega)).trans (by omega)) ((tI_add hm h9b (by omega)).trans (by omega)) hxs ((tI_sub hE rfl (by omega)).trans (by omega)) (by omega)) cw_X5_341 (As := [.ref 53, .int (xl - 1), .int (xm + (mi_41 53 9)), .int xs, .int (xe - xf)]) (st := [.int xf]) ws_yX5_countInner rfl ⟨Nat.le_of_ble_eq_true rfl, Nat.le_of_ble_eq_true rfl, Nat.le_of_ble_eq_true rfl, Nat.le_of_ble_eq_true rfl⟩ (Nat.le_of_ble_eq_true rfl) dX5_countInner_66 (fun _ _ h => h) rfl (kI (fun r_66 mi_66 ml_66 h_66 => ?_))
              have hr66 := CnE_b h_66.2.2
              refine E_iadd dX5_countInner_69 ?_
              refine E_istore [(5, .int (xf + r_66)), (0, .ref 53), (1, .int xl), (3, .int xs), (4, .int xe), (6, .int (xs - (xl * (mi 53 9)))), (7, .int xm)] dX5_countInner_70 (by decide) rfl ?_
              refine E_iload 0 dX5_countInner_72 rfl ?_
              refine E_iload 4 dX5_countInner_74 rfl ?_
              refine Z_ge (xf.toInt + r_66.toInt) (EE : Int) (tI_add rfl rfl (by omega)) hE 83 dX5_countInner_76 (by decide) (fun c_76 => ?_) (fun c_76 => ?_)
              · skip
                refine E_iinc 6 (xm + 1) [(7, .int (xm + 1)), (5, .int (xf + r_66)), (0, .ref 53), (1, .int xl), (3, .int xs), (4, .int xe), (6, .int (xs - (xl * (mi 53 9))))] dX5_countInner_83 rfl rfl (by decide) rfl ?_
                refine E_goto 22 dX5_countInner_86 (by decide) ?_
                refine E_sub [2, 3, 4, 5, 1, 6, 0] rfl ?_
                exact ih22 (xm + 1) (xf + r_66) (y + 1) mi_66 ml_66 (by omega) ((tI_add hm (show (1 : Int32).toInt = 1 from rfl) (by omega)).trans (by omega)) (by omega) ((hF.trans h_41.1 (fun _ h => h) (fun _ h => h)).trans h_66.1 (fun _ h => h) (fun _ h => h)) ((hL.trans h_41.2.1).trans h_66.2.1) (by rw [(tI_add rfl rfl (by omega))]; exact CnI_y hF1 hF2 hF3 hF4 hy (ClN_iff.mpr c_44) h_66.2.2 (fun q _ => absurd q (by omega)) (fun _ => ⟨rfl, rfl⟩))
              · skip
                have hCl := CnE_l h_66.2.2 (by omega)
                refine E_aload_n 1 dX5_countInner_79 rfl rfl ?_
                refine E_callV (c_X0_leave l hfl mi_66 ml_66 (DS V (R ++ [y])) (V 3).toInt (V 4).toInt R.length hCl (by omega)) cw_X5_338 (As := []) (st := []) wi_yX0_leave we_yX0_leave (ci := 0) (q := (RX0, TX0, 10)) rfl rfl (wl_atO tw_53) rfl ⟨Nat.le_of_ble_eq_true rfl, Nat.le_of_ble_eq_true rfl, Nat.le_of_ble_eq_true rfl, Nat.le_of_ble_eq_true rfl⟩ (Nat.le_of_ble_eq_true rfl) dX5_countInner_80 (fun _ _ h => h) rfl (kV (fun mi_80 ml_80 h_80 => ?_))
                obtain ⟨rfl, h_80⟩ := h_80
                refine E_iinc 6 (xm + 1) [(7, .int (xm + 1)), (5, .int (xf + r_66)), (0, .ref 53), (1, .int xl), (3, .int xs), (4, .int xe), (6, .int (xs - (xl * (mi 53 9))))] dX5_countInner_83 rfl rfl (by decide) rfl ?_
                refine E_goto 22 dX5_countInner_86 (by decide) ?_
                refine E_sub [2, 3, 4, 5, 1, 6, 0] rfl ?_
                exact ih22 (xm + 1) (xf + r_66) (y + 1) mi_80 ml_66 (by omega) ((tI_add hm (show (1 : Int32).toInt = 1 from rfl) (by omega)).trans (by omega)) (by omega) (((hF.trans h_41.1 (fun _ h => h) (fun _ h => h)).trans h_66.1 (fun _ h => h) (fun _ h => h)).trans h_80.1 (fun _ h => h) (by decide)) ((hL.trans h_41.2.1).trans h_66.2.1) (by rw [(tI_add rfl rfl (by omega))]; exact CnI_y hF1 hF2 hF3 hF4 hy (ClN_iff.mpr c_44) h_66.2.2 (fun _ _ => h_80.2.d eqD_S.symm) (fun q => absurd q (by omega)))
    refine E_sub [3, 4, 6, 7, 2, 1, 0] rfl ?_
    exact J22 _ xlow 0 (y0 + sp) mi ml (Nat.lt_succ_self _) hlow (by omega) Fr_r FLc_r (by have h99 := CnI_0 (l := 2) hsp hs1 hS h0 hE1 hC; exact h99)
  · exact absurd c_1 (by omega)
set_option maxHeartbeats 1600000 in
set_option maxRecDepth 100000 in
theorem c_X5_countInner4 (l : Launch) (hfl : l.stackTraces = false) (mi : MI) (ml : MJ) (V : Nat → Int32) (hV : WFV V) (sp : Nat) (hsp : (V 4).toInt = (sp : Int)) (hs1 : 1 ≤ sp) (hs10 : sp ≤ 10) (R : List Nat) (S y0 EE : Nat) (hS : S ∈ R) (h0 : y0 ∈ R) (hR : ∀ x, x ∈ R → x ≤ 40) (hlen : R.length + 4 ≤ 6) (hC : CSI mi ml (DS V R) (V 3).toInt (V 4).toInt R.length) (xl xlow xs xe : Int32) (hl : xl.toInt = 4) (hlow : xlow.toInt = ((y0 + sp : Nat) : Int)) (hxs : xs.toInt = (S : Int)) (hE : xe.toInt = (EE : Int)) (hE1 : 1 ≤ EE) : Ct l yX5_countInner (.code yX5_countInner cX5_countInner 8 (some .int)) 7 0 0 [.ref 53, .int xl, .int xlow, .int xs, .int xe] (wl mi ml) (QI (fun r mi9 ml9 => Fr [53, 54, 55] mi mi9 ∧ FLc ml ml9 ∧ CnE V S 4 R y0 EE r.toInt mi9 ml9)) noX := by
  refine Ct_of (ini := false) pn_X5 hfl (fun h => nomatch h) (Nat.le_of_ble_eq_true rfl) ?_
  show E l RX5 cX5_countInner 8 (some .int) false [] (rmE 7 0 0) (wl mi ml) (TgM (wl mi ml) 0 0 (QI (fun r mi9 ml9 => Fr [53, 54, 55] mi mi9 ∧ FLc ml ml9 ∧ CnE V S 4 R y0 EE r.toInt mi9 ml9)) noX) 0 0 0 [(0, .ref 53), (1, .int xl), (2, .int xlow), (3, .int xs), (4, .int xe)] [] (wl mi ml)
  have hS40 := hR S hS
  have hEb := tI_rng xe
  refine E_iload_n 1 dX5_countInner_0 rfl rfl ?_
  refine Y_gt 4 hl 6 dX5_countInner_1 (by decide) (fun c_1 => ?_) (fun c_1 => ?_)
  · skip
    refine E_iconst 0 (by decide) dX5_countInner_6 ?_
    refine E_istore [(5, .int 0), (0, .ref 53), (1, .int xl), (2, .int xlow), (3, .int xs), (4, .int xe)] dX5_countInner_7 (by decide) rfl ?_
    refine E_iload_n 4 dX5_countInner_9 rfl rfl ?_
    refine E_iload_n 2 dX5_countInner_10 rfl rfl ?_
    refine E_aload_n 1 dX5_countInner_11 rfl rfl ?_
    refine gf_X5_345 (mi 53 9) tw_53 rfl rfl dX5_countInner_12 ?_
    refine E_imul dX5_countInner_15 ?_
    refine E_isub dX5_countInner_16 ?_
    refine E_istore [(6, .int (xs - (xl * (mi 53 9)))), (5, .int 0), (0, .ref 53), (1, .int xl), (2, .int xlow), (3, .int xs), (4, .int xe)] dX5_countInner_17 (by decide) rfl ?_
    refine E_iload_n 4 dX5_countInner_19 rfl rfl ?_
    refine E_istore [(7, .int xlow), (6, .int (xs - (xl * (mi 53 9)))), (5, .int 0), (0, .ref 53), (1, .int xl), (2, .int xlow), (3, .int xs), (4, .int xe)] dX5_countInner_20 (by decide) rfl ?_
    have J22 : ∀ (Nm : Nat) (xm xf : Int32) (y : Nat) (ma : MI) (la : MJ), S + 1 - y < Nm → xm.toInt = (y : Int) → y0 < y → Fr [53, 54, 55] mi ma → FLc ml la → CnI V S 3 R y0 EE y xf.toInt ma la → E l RX5 cX5_countInner 8 (some .int) false [] (rmE 7 0 0) (wl mi ml) (TgM (wl mi ml) 0 0 (QI (fun r mi9 ml9 => Fr [53, 54, 55] mi mi9 ∧ FLc ml ml9 ∧ CnE V S 4 R y0 EE r.toInt mi9 ml9)) noX) 0 0 22 [(0, .ref 53), (1, .int xl), (3, .int xs), (4, .int xe), (5, .int xf), (6, .int (xs - (xl * (mi 53 9)))), (7, .int xm)] [] (wl ma la) := by
      intro Nm
      induction Nm with
      | zero => intros; omega
      | succ Nm ih22 =>
        intro xm xf y ma la hN22 hm hyl hF hL hI
        have h9 : (ma 53 9).toInt = (sp : Int) := (CnI_sp hI).trans hsp
        refine E_iload 6 dX5_countInner_22 rfl ?_
        refine E_iload 5 dX5_countInner_24 rfl ?_
        refine Z_gt (y : Int) ((S : Int) - (4 * (sp : Int))) hm (tI_sub hxs (tI_mul hl (hC.2.1.2.2.2.2.trans hsp) (by omega)) (by omega)) 89 dX5_countInner_26 (by decide) (fun c_26 => ?_) (fun c_26 => ?_)
        · skip
          refine E_iload 4 dX5_countInner_89 rfl ?_
          refine E_iret rfl (Nat.le_of_ble_eq_true rfl) (Nat.le_of_ble_eq_true rfl) dX5_countInner_91 ?_
          exact okQI ⟨hF, hL, CnI_e hsp hs1 hS h0 hyl hI (by omega)⟩
        · skip
          refine E_iload 4 dX5_countInner_29 rfl ?_
          refine E_iload 3 dX5_countInner_31 rfl ?_
          refine Z_ge xf.toInt (EE : Int) rfl hE 89 dX5_countInner_33 (by decide) (fun c_33 => ?_) (fun c_33 => ?_)
          · skip
            refine E_iload 4 dX5_countInner_89 rfl ?_
            refine E_iret rfl (Nat.le_of_ble_eq_true rfl) (Nat.le_of_ble_eq_true rfl) dX5_countInner_91 ?_
            exact okQI ⟨hF, hL, CnI_e hsp hs1 hS h0 hyl hI (by omega)⟩
          · skip
            obtain ⟨F, hF1, hF2, hF3, hF4, hCS⟩ := CnI_C hI c_33
            have hy : y < S := by omega
            refine E_aload_n 0 dX5_countInner_36 rfl rfl ?_
            refine E_iload 6 dX5_countInner_37 rfl ?_
            refine E_bipush 60 (by decide) dX5_countInner_39 ?_
            refine E_callV (c_X0_join l hfl ma la (DS V (R ++ [y])) (V 3).toInt (V 4).toInt R.length (hCS.d eqD_S) (RgD_S hV (mem_a hR (by omega))) (by omega) xm (hm.trans DS_l.symm) 60 rfl) cw_X5_334 (As := [.int xm, .int 60]) (st := []) wi_yX0_join we_yX0_join (ci := 0) (q := (RX0, TX0, 10)) rfl rfl (wl_atO tw_53) rfl ⟨Nat.le_of_ble_eq_true rfl, Nat.le_of_ble_eq_true rfl, Nat.le_of_ble_eq_true rfl, Nat.le_of_ble_eq_true rfl⟩ (Nat.le_of_ble_eq_true rfl) dX5_countInner_41 (fun _ _ h => h) rfl (kI (fun r_41 mi_41 ml_41 h_41 => ?_))
            obtain ⟨e_41, h_41⟩ := h_41
            subst e_41
            refine B_eq 83 dX5_countInner_44 (by decide) (fun c_44 => ?_) (fun c_44 => ?_)
            · skip
              refine E_iinc 6 (xm + 1) [(7, .int (xm + 1)), (0, .ref 53), (1, .int xl), (3, .int xs), (4, .int xe), (5, .int xf), (6, .int (xs - (xl * (mi 53 9))))] dX5_countInner_83 rfl rfl (by decide) rfl ?_
              refine E_goto 22 dX5_countInner_86 (by decide) ?_
              refine E_sub [1, 2, 3, 4, 5, 6, 0] rfl ?_
              exact ih22 (xm + 1) xf (y + 1) mi_41 ml_41 (by omega) ((tI_add hm (show (1 : Int32).toInt = 1 from rfl) (by omega)).trans (by omega)) (by omega) (hF.trans h_41.1 (fun _ h => h) (fun _ h => h)) (hL.trans h_41.2.1) (CnI_n hI c_33 hy (fun z => c_44 (ClN_iff.mp z)) (fun hc => by rw [← (h_41.2.2.resolve_left (fun z => c_44 z.1)).2.1, ← (h_41.2.2.resolve_left (fun z => c_44 z.1)).2.2]; exact hc))
            · skip
              have h9b : (mi_41 53 9).toInt = (sp : Int) := ((h_41.2.2.resolve_right (fun z => z.1 c_44)).2).2.1.2.2.2.2.trans hsp
              refine E_iload 4 dX5_countInner_47 rfl ?_
              refine E_aload_n 0 dX5_countInner_49 rfl rfl ?_
              refine E_iload_n 1 dX5_countInner_50 rfl rfl ?_
              refine E_iconst 1 (by decide) dX5_countInner_51 ?_
              refine E_isub dX5_countInner_52 ?_
              refine E_iload 6 dX5_countInner_53 rfl ?_
              refine E_aload_n 0 dX5_countInner_55 rfl rfl ?_
              refine gf_X5_345 (mi_41 53 9) tw_53 rfl rfl dX5_countInner_56 ?_
              refine E_iadd dX5_countInner_59 ?_
              refine E_iload_n 2 dX5_countInner_60 rfl rfl ?_
              refine E_iload 3 dX5_countInner_61 rfl ?_
              refine E_iload 4 dX5_countInner_63 rfl ?_
              refine E_isub dX5_countInner_65 ?_
              refine E_callS (c_X5_countInner3 l hfl mi_41 ml_41 V hV sp hsp hs1 hs10 (R ++ [y]) S y (EE - F) (List.mem_append_left _ hS) (List.mem_append_right _ (List.mem_singleton.mpr rfl)) (mem_a hR (by omega)) (by rw [List.length_append]; simp only [List.length_cons, List.length_nil]; omega) (CSI_a (h_41.2.2.resolve_right (fun z => z.1 c_44)).2) (xl - 1) (xm + (mi_41 53 9)) xs (xe - xf) ((tI_sub hl (show (1 : Int32).toInt = 1 from rfl) (by omega)).trans (by omega)) ((tI_add hm h9b (by omega)).trans (by omega)) hxs ((tI_sub hE rfl (by omega)).trans (by omega)) (by omega)) cw_X5_341 (As := [.ref 53, .int (xl - 1), .int (xm + (mi_41 53 9)), .int xs, .int (xe - xf)]) (st := [.int xf]) ws_yX5_countInner rfl ⟨Nat.le_of_ble_eq_true rfl, Nat.le_of_ble_eq_true rfl, Nat.le_of_ble_eq_true rfl, Nat.le_of_ble_eq_true rfl⟩ (Nat.le_of_ble_eq_true rfl) dX5_countInner_66 (fun _ _ h => h) rfl (kI (fun r_66 mi_66 ml_66 h_66 => ?_))
              have hr66 := CnE_b h_66.2.2
              refine E_iadd dX5_countInner_69 ?_
              refine E_istore [(5, .int (xf + r_66)), (0, .ref 53), (1, .int xl), (3, .int xs), (4, .int xe), (6, .int (xs - (xl * (mi 53 9)))), (7, .int xm)] dX5_countInner_70 (by decide) rfl ?_
              refine E_iload 0 dX5_countInner_72 rfl ?_
              refine E_iload 4 dX5_countInner_74 rfl ?_
              refine Z_ge (xf.toInt + r_66.toInt) (EE : Int) (tI_add rfl rfl (by omega)) hE 83 dX5_countInner_76 (by decide) (fun c_76 => ?_) (fun c_76 => ?_)
              · skip
                refine E_iinc 6 (xm + 1) [(7, .int (xm + 1)), (5, .int (xf + r_66)), (0, .ref 53), (1, .int xl), (3, .int xs), (4, .int xe), (6, .int (xs - (xl * (mi 53 9))))] dX5_countInner_83 rfl rfl (by decide) rfl ?_
                refine E_goto 22 dX5_countInner_86 (by decide) ?_
                refine E_sub [2, 3, 4, 5, 1, 6, 0] rfl ?_
                exact ih22 (xm + 1) (xf + r_66) (y + 1) mi_66 ml_66 (by omega) ((tI_add hm (show (1 : Int32).toInt = 1 from rfl) (by omega)).trans (by omega)) (by omega) ((hF.trans h_41.1 (fun _ h => h) (fun _ h => h)).trans h_66.1 (fun _ h => h) (fun _ h => h)) ((hL.trans h_41.2.1).trans h_66.2.1) (by rw [(tI_add rfl rfl (by omega))]; exact CnI_y hF1 hF2 hF3 hF4 hy (ClN_iff.mpr c_44) h_66.2.2 (fun q _ => absurd q (by omega)) (fun _ => ⟨rfl, rfl⟩))
              · skip
                have hCl := CnE_l h_66.2.2 (by omega)
                refine E_aload_n 1 dX5_countInner_79 rfl rfl ?_
                refine E_callV (c_X0_leave l hfl mi_66 ml_66 (DS V (R ++ [y])) (V 3).toInt (V 4).toInt R.length hCl (by omega)) cw_X5_338 (As := []) (st := []) wi_yX0_leave we_yX0_leave (ci := 0) (q := (RX0, TX0, 10)) rfl rfl (wl_atO tw_53) rfl ⟨Nat.le_of_ble_eq_true rfl, Nat.le_of_ble_eq_true rfl, Nat.le_of_ble_eq_true rfl, Nat.le_of_ble_eq_true rfl⟩ (Nat.le_of_ble_eq_true rfl) dX5_countInner_80 (fun _ _ h => h) rfl (kV (fun mi_80 ml_80 h_80 => ?_))
                obtain ⟨rfl, h_80⟩ := h_80
                refine E_iinc 6 (xm + 1) [(7, .int (xm + 1)), (5, .int (xf + r_66)), (0, .ref 53), (1, .int xl), (3, .int xs), (4, .int xe), (6, .int (xs - (xl * (mi 53 9))))] dX5_countInner_83 rfl rfl (by decide) rfl ?_
                refine E_goto 22 dX5_countInner_86 (by decide) ?_
                refine E_sub [2, 3, 4, 5, 1, 6, 0] rfl ?_
                exact ih22 (xm + 1) (xf + r_66) (y + 1) mi_80 ml_66 (by omega) ((tI_add hm (show (1 : Int32).toInt = 1 from rfl) (by omega)).trans (by omega)) (by omega) (((hF.trans h_41.1 (fun _ h => h) (fun _ h => h)).trans h_66.1 (fun _ h => h) (fun _ h => h)).trans h_80.1 (fun _ h => h) (by decide)) ((hL.trans h_41.2.1).trans h_66.2.1) (by rw [(tI_add rfl rfl (by omega))]; exact CnI_y hF1 hF2 hF3 hF4 hy (ClN_iff.mpr c_44) h_66.2.2 (fun _ _ => h_80.2.d eqD_S.symm) (fun q => absurd q (by omega)))
    refine E_sub [3, 4, 6, 7, 2, 1, 0] rfl ?_
    exact J22 _ xlow 0 (y0 + sp) mi ml (Nat.lt_succ_self _) hlow (by omega) Fr_r FLc_r (by have h99 := CnI_0 (l := 3) hsp hs1 hS h0 hE1 hC; exact h99)
  · exact absurd c_1 (by omega)
theorem ClN_1 {V : Nat → Int32} {x : Nat} : ClR (DS V [x]) (V 3).toInt (V 4).toInt (0 + 1) := by
  rw [ClR_iff]
  refine ⟨fun a b ha hb hab => by omega, fun y _ z => ?_⟩
  obtain ⟨_, kd, a, b, c, hv, _⟩ := z
  have h1 := VT_c hv
  rcases hv.2.2.2 with h | h <;> omega
theorem ClN_2 {V : Nat → Int32} {S sp : Nat} (hsp : (V 4).toInt = (sp : Int)) (h1 : 1 ≤ sp) (h : ClN V ([0] ++ [S])) : S ≠ 0 := by
  have := ClN_far hsp h1 h (z := 0) (List.mem_singleton.mpr rfl)
  omega
/-- how the count of rulers ends -/
def CrE (V : Nat → Int32) (m S E : Nat) (x : Int) (mi : MI) (ml : MJ) : Prop :=
  (x = (skCA V m S : Int) ∧ skCA V m S < E) ∨
  (x = (E : Int) ∧ E ≤ skCA V m S ∧ ∃ R' : List Nat, CSI mi ml (DS V R') (V 3).toInt (V 4).toInt R'.length ∧ (∀ x, x ∈ R' → x ≤ 40) ∧ (E = 1 → skFA V m S = some R'))
theorem skFA_none {V : Nat → Int32} {m S : Nat} (h : skCA V m S = 0) : skFA V m S = none := by
  unfold skCA at h
  unfold skFA
  by_cases h1 : m = 1
  · rw [if_pos h1] at h ⊢
    by_cases h2 : S = 0
    · rw [if_pos h2] at h; exact absurd h (by decide)
    · rw [if_neg h2]
  · rw [if_neg h1] at h ⊢
    by_cases h2 : S = 0
    · rw [if_pos h2]
    · rw [if_neg h2] at h ⊢
      rcases Classical.em (ClN V [0, S]) with q | q
      · rw [ifp_t q] at h ⊢; exact skF_none h
      · rw [ifp_f q]
theorem CrE_n {V : Nat → Int32} {m S E : Nat} {mi : MI} {ml : MJ} (hm : 2 ≤ m) (hE : 1 ≤ E) (h : ¬ ClN V ([0] ++ [S])) : CrE V m S E 0 mi ml := by
  have e : skCA V m S = 0 := by
    unfold skCA
    rw [if_neg (by omega)]
    by_cases h2 : S = 0
    · rw [if_pos h2]
    · rw [if_neg h2, ifp_f (show ¬ ClN V [0, S] from h)]
  exact Or.inl ⟨by rw [e]; rfl, by omega⟩
theorem CrE_y {V : Nat → Int32} {m l S E sp : Nat} {x : Int} {mi : MI} {ml : MJ} (hsp : (V 4).toInt = (sp : Int)) (h1 : 1 ≤ sp) (hm : m = l + 2) (h : ClN V ([0] ++ [S])) (hc : CnE V S l ([0] ++ [S]) 0 E x mi ml) : CrE V m S E x mi ml := by
  have hS := ClN_2 hsp h1 h
  have e : skCA V m S = skC V S l ([0] ++ [S]) (0 + 1) := by
    unfold skCA
    rw [if_neg (by omega), if_neg hS, ifp_t (show ClN V [0, S] from h), show m - 2 = l by omega]; rfl
  have e2 : skFA V m S = skF V S l ([0] ++ [S]) (0 + 1) := by
    unfold skFA
    rw [if_neg (by omega), if_neg hS, ifp_t (show ClN V [0, S] from h), show m - 2 = l by omega]; rfl
  unfold CrE
  rw [e, e2]
  rcases hc with ⟨a, b, _⟩ | q
  · exact Or.inl ⟨a, b⟩
  · exact Or.inr q
theorem CrE_1 {V : Nat → Int32} {S E : Nat} {mi : MI} {ml : MJ} (hE : 1 ≤ E) (hS : S = 0) (hC : CSI mi ml (DS V [0]) (V 3).toInt (V 4).toInt (0 + 1)) : CrE V 1 S E 1 mi ml := by
  subst hS
  rcases Nat.lt_or_ge 1 E with q | q
  · exact Or.inl ⟨rfl, q⟩
  · exact Or.inr ⟨by omega, by show E ≤ 1; omega, [0], hC, fun x hx => by rw [List.mem_singleton.mp hx]; omega, fun _ => rfl⟩
theorem CrE_1n {V : Nat → Int32} {S E : Nat} {mi : MI} {ml : MJ} (hE : 1 ≤ E) (hS : S ≠ 0) : CrE V 1 S E 0 mi ml := by
  have e : skCA V 1 S = 0 := by
    unfold skCA
    rw [if_pos rfl, if_neg hS]
  exact Or.inl ⟨by rw [e]; rfl, by omega⟩
theorem CnE_z {V : Nat → Int32} {S l y0 E : Nat} {R : List Nat} {x : Int} {mi : MI} {ml : MJ} (h : CnE V S l R y0 E x mi ml) : ml 56 0 = 0 ∧ ml 57 0 = 0 := by
  rcases h with ⟨_, _, e⟩ | ⟨_, _, R', e, _⟩ <;> exact e.z
set_option maxHeartbeats 1600000 in
set_option maxRecDepth 100000 in
theorem c_X5_countRulers1 (l : Launch) (hfl : l.stackTraces = false) (mi : MI) (ml : MJ) (V : Nat → Int32) (hV : WFV V) (hD : DR 1 mi V) (n : Nat) (hn : (V 5).toInt = (n : Int)) (h10 : n ≤ 10) (hz : ml 56 0 = 0 ∧ ml 57 0 = 0) (sp : Nat) (hsp : (V 4).toInt = (sp : Int)) (hs1 : 1 ≤ sp) (hs10 : sp ≤ 10) (S EE : Nat) (xs xe : Int32) (hxs : xs.toInt = (S : Int)) (hS40 : S ≤ 40) (hE : xe.toInt = (EE : Int)) (hE1 : 1 ≤ EE) (xm : Int32) (hxm : xm.toInt = 1) : Ct l yX5_countRulers (.code yX5_countRulers cX5_countRulers 4 (some .int)) 8 0 0 [.ref 0, .int xm, .int xs, .int xe] (wl mi ml) (QI (fun r mi9 ml9 => Fr [53, 54, 55] mi mi9 ∧ FLc ml ml9 ∧ (ml9 56 0 = 0 ∧ ml9 57 0 = 0) ∧ CrE V 1 S EE r.toInt mi9 ml9)) noX := by
  refine Ct_of (ini := false) pn_X5 hfl (fun h => nomatch h) (Nat.le_of_ble_eq_true rfl) ?_
  show E l RX5 cX5_countRulers 4 (some .int) false [] (rmE 8 0 0) (wl mi ml) (TgM (wl mi ml) 0 0 (QI (fun r mi9 ml9 => Fr [53, 54, 55] mi mi9 ∧ FLc ml ml9 ∧ (ml9 56 0 = 0 ∧ ml9 57 0 = 0) ∧ CrE V 1 S EE r.toInt mi9 ml9)) noX) 0 0 0 [(0, .ref 0), (1, .int xm), (2, .int xs), (3, .int xe)] [] (wl mi ml)
  refine E_aload_n 0 dX5_countRulers_0 rfl rfl ?_
  refine gf_X5_36 tw_0 rfl dX5_countRulers_1 ?_
  refine E_aload_n 0 dX5_countRulers_4 rfl rfl ?_
  refine gf_X5_10 tw_0 rfl dX5_countRulers_5 ?_
  refine E_callV (c_X0_start l hfl mi ml V hV hD hz) cw_X5_331 (As := [.ref 1]) (st := []) wi_yX0_start we_yX0_start (ci := 0) (q := (RX0, TX0, 10)) rfl rfl (wl_atO tw_53) rfl ⟨Nat.le_of_ble_eq_true rfl, Nat.le_of_ble_eq_true rfl, Nat.le_of_ble_eq_true rfl, Nat.le_of_ble_eq_true rfl⟩ (Nat.le_of_ble_eq_true rfl) dX5_countRulers_8 (fun _ _ h => h) rfl (kV (fun mi_8 ml_8 h_8 => ?_))
  obtain ⟨rfl, h_8⟩ := h_8
  refine E_aload_n 0 dX5_countRulers_11 rfl rfl ?_
  refine gf_X5_36 tw_0 rfl dX5_countRulers_12 ?_
  refine E_iconst 0 (by decide) dX5_countRulers_15 ?_
  refine E_bipush 60 (by decide) dX5_countRulers_16 ?_
  refine E_callV (c_X0_join l hfl mi_8 ml (DS V [0]) (V 3).toInt (V 4).toInt 0 (h_8.2 _ ⟨rfl, rfl, rfl⟩) (RgD_S hV (fun x hx => by rw [List.mem_singleton.mp hx]; omega)) (by decide) 0 rfl 60 rfl) cw_X5_334 (As := [.int 0, .int 60]) (st := []) wi_yX0_join we_yX0_join (ci := 0) (q := (RX0, TX0, 10)) rfl rfl (wl_atO tw_53) rfl ⟨Nat.le_of_ble_eq_true rfl, Nat.le_of_ble_eq_true rfl, Nat.le_of_ble_eq_true rfl, Nat.le_of_ble_eq_true rfl⟩ (Nat.le_of_ble_eq_true rfl) dX5_countRulers_18 (fun _ _ h => h) rfl (kI (fun r_18 mi_18 ml_18 h_18 => ?_))
  obtain ⟨e_18, h_18⟩ := h_18
  subst e_18
  refine E_pop rfl dX5_countRulers_21 ?_
  refine E_iload_n 1 dX5_countRulers_22 rfl rfl ?_
  refine E_iconst 1 (by decide) dX5_countRulers_23 ?_
  refine Z_ne 1 1 hxm (show (1 : Int32).toInt = 1 from rfl) 37 dX5_countRulers_24 (by decide) (fun c_24 => ?_) (fun c_24 => ?_)
  · exact absurd c_24 (by omega)
  · skip
    refine E_iload_n 2 dX5_countRulers_27 rfl rfl ?_
    refine Y_ne (S : Int) hxs 35 dX5_countRulers_28 (by decide) (fun c_28 => ?_) (fun c_28 => ?_)
    · skip
      refine E_iconst 0 (by decide) dX5_countRulers_35 ?_
      refine E_iret rfl (Nat.le_of_ble_eq_true rfl) (Nat.le_of_ble_eq_true rfl) dX5_countRulers_36 ?_
      exact okQI ⟨(Fr.trans h_8.1 h_18.1 (by decide) (fun _ h => h)), h_18.2.1, ((h_18.2.2.resolve_right (fun z => z.1 ClN_1)).2).z, CrE_1n hE1 (by omega)⟩
    · skip
      refine E_iconst 1 (by decide) dX5_countRulers_31 ?_
      refine E_goto 36 dX5_countRulers_32 (by decide) ?_
      refine E_iret rfl (Nat.le_of_ble_eq_true rfl) (Nat.le_of_ble_eq_true rfl) dX5_countRulers_36 ?_
      exact okQI ⟨(Fr.trans h_8.1 h_18.1 (by decide) (fun _ h => h)), h_18.2.1, ((h_18.2.2.resolve_right (fun z => z.1 ClN_1)).2).z, CrE_1 hE1 (by omega) ((h_18.2.2.resolve_right (fun z => z.1 ClN_1)).2)⟩
set_option maxHeartbeats 1600000 in
set_option maxRecDepth 100000 in
theorem c_X5_countRulers2 (l : Launch) (hfl : l.stackTraces = false) (mi : MI) (ml : MJ) (V : Nat → Int32) (hV : WFV V) (hD : DR 1 mi V) (n : Nat) (hn : (V 5).toInt = (n : Int)) (h10 : n ≤ 10) (hz : ml 56 0 = 0 ∧ ml 57 0 = 0) (sp : Nat) (hsp : (V 4).toInt = (sp : Int)) (hs1 : 1 ≤ sp) (hs10 : sp ≤ 10) (S EE : Nat) (xs xe : Int32) (hxs : xs.toInt = (S : Int)) (hS40 : S ≤ 40) (hE : xe.toInt = (EE : Int)) (hE1 : 1 ≤ EE) (xm : Int32) (hxm : xm.toInt = 2) : Ct l yX5_countRulers (.code yX5_countRulers cX5_countRulers 4 (some .int)) 8 0 0 [.ref 0, .int xm, .int xs, .int xe] (wl mi ml) (QI (fun r mi9 ml9 => Fr [53, 54, 55] mi mi9 ∧ FLc ml ml9 ∧ (ml9 56 0 = 0 ∧ ml9 57 0 = 0) ∧ CrE V 2 S EE r.toInt mi9 ml9)) noX := by
  refine Ct_of (ini := false) pn_X5 hfl (fun h => nomatch h) (Nat.le_of_ble_eq_true rfl) ?_
  show E l RX5 cX5_countRulers 4 (some .int) false [] (rmE 8 0 0) (wl mi ml) (TgM (wl mi ml) 0 0 (QI (fun r mi9 ml9 => Fr [53, 54, 55] mi mi9 ∧ FLc ml ml9 ∧ (ml9 56 0 = 0 ∧ ml9 57 0 = 0) ∧ CrE V 2 S EE r.toInt mi9 ml9)) noX) 0 0 0 [(0, .ref 0), (1, .int xm), (2, .int xs), (3, .int xe)] [] (wl mi ml)
  refine E_aload_n 0 dX5_countRulers_0 rfl rfl ?_
  refine gf_X5_36 tw_0 rfl dX5_countRulers_1 ?_
  refine E_aload_n 0 dX5_countRulers_4 rfl rfl ?_
  refine gf_X5_10 tw_0 rfl dX5_countRulers_5 ?_
  refine E_callV (c_X0_start l hfl mi ml V hV hD hz) cw_X5_331 (As := [.ref 1]) (st := []) wi_yX0_start we_yX0_start (ci := 0) (q := (RX0, TX0, 10)) rfl rfl (wl_atO tw_53) rfl ⟨Nat.le_of_ble_eq_true rfl, Nat.le_of_ble_eq_true rfl, Nat.le_of_ble_eq_true rfl, Nat.le_of_ble_eq_true rfl⟩ (Nat.le_of_ble_eq_true rfl) dX5_countRulers_8 (fun _ _ h => h) rfl (kV (fun mi_8 ml_8 h_8 => ?_))
  obtain ⟨rfl, h_8⟩ := h_8
  refine E_aload_n 0 dX5_countRulers_11 rfl rfl ?_
  refine gf_X5_36 tw_0 rfl dX5_countRulers_12 ?_
  refine E_iconst 0 (by decide) dX5_countRulers_15 ?_
  refine E_bipush 60 (by decide) dX5_countRulers_16 ?_
  refine E_callV (c_X0_join l hfl mi_8 ml (DS V [0]) (V 3).toInt (V 4).toInt 0 (h_8.2 _ ⟨rfl, rfl, rfl⟩) (RgD_S hV (fun x hx => by rw [List.mem_singleton.mp hx]; omega)) (by decide) 0 rfl 60 rfl) cw_X5_334 (As := [.int 0, .int 60]) (st := []) wi_yX0_join we_yX0_join (ci := 0) (q := (RX0, TX0, 10)) rfl rfl (wl_atO tw_53) rfl ⟨Nat.le_of_ble_eq_true rfl, Nat.le_of_ble_eq_true rfl, Nat.le_of_ble_eq_true rfl, Nat.le_of_ble_eq_true rfl⟩ (Nat.le_of_ble_eq_true rfl) dX5_countRulers_18 (fun _ _ h => h) rfl (kI (fun r_18 mi_18 ml_18 h_18 => ?_))
  obtain ⟨e_18, h_18⟩ := h_18
  subst e_18
  refine E_pop rfl dX5_countRulers_21 ?_
  refine E_iload_n 1 dX5_countRulers_22 rfl rfl ?_
  refine E_iconst 1 (by decide) dX5_countRulers_23 ?_
  refine Z_ne 2 1 hxm (show (1 : Int32).toInt = 1 from rfl) 37 dX5_countRulers_24 (by decide) (fun c_24 => ?_) (fun c_24 => ?_)
  · skip
    refine E_aload_n 0 dX5_countRulers_37 rfl rfl ?_
    refine gf_X5_36 tw_0 rfl dX5_countRulers_38 ?_
    refine E_iload_n 2 dX5_countRulers_41 rfl rfl ?_
    refine E_bipush 60 (by decide) dX5_countRulers_42 ?_
    refine E_callV (c_X0_join l hfl mi_18 ml_18 (DS V ([0] ++ [S])) (V 3).toInt (V 4).toInt 1 (CSI.d (h_18.2.2.resolve_right (fun z => z.1 ClN_1)).2 (eqD_S (R := [0]))) (RgD_S hV (mem_a (fun x hx => by rw [List.mem_singleton.mp hx]; omega) hS40)) (by decide) xs hxs 60 rfl) cw_X5_334 (As := [.int xs, .int 60]) (st := []) wi_yX0_join we_yX0_join (ci := 0) (q := (RX0, TX0, 10)) rfl rfl (wl_atO tw_53) rfl ⟨Nat.le_of_ble_eq_true rfl, Nat.le_of_ble_eq_true rfl, Nat.le_of_ble_eq_true rfl, Nat.le_of_ble_eq_true rfl⟩ (Nat.le_of_ble_eq_true rfl) dX5_countRulers_44 (fun _ _ h => h) rfl (kI (fun r_44 mi_44 ml_44 h_44 => ?_))
    obtain ⟨e_44, h_44⟩ := h_44
    subst e_44
    refine B_ne 52 dX5_countRulers_47 (by decide) (fun c_47 => ?_) (fun c_47 => ?_)
    · skip
      refine E_aload_n 0 dX5_countRulers_52 rfl rfl ?_
      refine gf_X5_36 tw_0 rfl dX5_countRulers_53 ?_
      refine E_iload_n 1 dX5_countRulers_56 rfl rfl ?_
      refine E_iconst 2 (by decide) dX5_countRulers_57 ?_
      refine E_isub dX5_countRulers_58 ?_
      refine E_aload_n 0 dX5_countRulers_59 rfl rfl ?_
      refine gf_X5_10 tw_0 rfl dX5_countRulers_60 ?_
      refine gf_X5_135 (V 4) isD_1.t rfl ((congrFun (h_44.1 1 (by decide)) 4).trans ((congrFun (h_18.1 1 (by decide)) 4).trans ((congrFun (h_8.1 1 (by decide)) 4).trans hD.1.2.2.2.2))) dX5_countRulers_63 ?_
      refine E_iload_n 2 dX5_countRulers_66 rfl rfl ?_
      refine E_iload_n 3 dX5_countRulers_67 rfl rfl ?_
      refine E_callS (c_X5_countInner0 l hfl mi_44 ml_44 V hV sp hsp hs1 hs10 ([0] ++ [S]) S 0 EE (List.mem_append_right _ (List.mem_singleton.mpr rfl)) (List.mem_append_left _ (List.mem_singleton.mpr rfl)) (mem_a (fun x hx => by rw [List.mem_singleton.mp hx]; omega) hS40) (by show 2 + 0 ≤ 6; decide) (h_44.2.2.resolve_right (fun z => z.1 c_47)).2 (xm - 2) (V 4) xs xe ((tI_sub hxm (show (2 : Int32).toInt = 2 from rfl) (by omega)).trans (by omega)) (hsp.trans (by omega)) hxs (hE.trans (by omega)) hE1) cw_X5_341 (As := [.ref 53, .int (xm - 2), .int (V 4), .int xs, .int xe]) (st := []) ws_yX5_countInner rfl ⟨Nat.le_of_ble_eq_true rfl, Nat.le_of_ble_eq_true rfl, Nat.le_of_ble_eq_true rfl, Nat.le_of_ble_eq_true rfl⟩ (Nat.le_of_ble_eq_true rfl) dX5_countRulers_68 (fun _ _ h => h) rfl (kI (fun r_68 mi_68 ml_68 h_68 => ?_))
      refine E_iret rfl (Nat.le_of_ble_eq_true rfl) (Nat.le_of_ble_eq_true rfl) dX5_countRulers_71 ?_
      have hcl9 : ClN V ([0] ++ [S]) := ClN_iff.mpr c_47
      exact okQI ⟨(((Fr.trans h_8.1 h_18.1 (by decide) (fun _ h => h)).trans h_44.1 (fun _ h => h) (fun _ h => h)).trans h_68.1 (fun _ h => h) (fun _ h => h)), (h_18.2.1.trans h_44.2.1).trans h_68.2.1, CnE_z h_68.2.2, CrE_y hsp hs1 (l := 0) rfl hcl9 h_68.2.2⟩
    · skip
      refine E_iconst 0 (by decide) dX5_countRulers_50 ?_
      refine E_iret rfl (Nat.le_of_ble_eq_true rfl) (Nat.le_of_ble_eq_true rfl) dX5_countRulers_51 ?_
      exact okQI ⟨((Fr.trans h_8.1 h_18.1 (by decide) (fun _ h => h)).trans h_44.1 (fun _ h => h) (fun _ h => h)), h_18.2.1.trans h_44.2.1, by rw [← (h_44.2.2.resolve_left (fun z => c_47 z.1)).2.2]; exact ((h_18.2.2.resolve_right (fun z => z.1 ClN_1)).2).z, CrE_n (by decide) hE1 (fun z => c_47 (ClN_iff.mp z))⟩
  · exact absurd c_24 (by omega)
set_option maxHeartbeats 1600000 in
set_option maxRecDepth 100000 in
theorem c_X5_countRulers3 (l : Launch) (hfl : l.stackTraces = false) (mi : MI) (ml : MJ) (V : Nat → Int32) (hV : WFV V) (hD : DR 1 mi V) (n : Nat) (hn : (V 5).toInt = (n : Int)) (h10 : n ≤ 10) (hz : ml 56 0 = 0 ∧ ml 57 0 = 0) (sp : Nat) (hsp : (V 4).toInt = (sp : Int)) (hs1 : 1 ≤ sp) (hs10 : sp ≤ 10) (S EE : Nat) (xs xe : Int32) (hxs : xs.toInt = (S : Int)) (hS40 : S ≤ 40) (hE : xe.toInt = (EE : Int)) (hE1 : 1 ≤ EE) (xm : Int32) (hxm : xm.toInt = 3) : Ct l yX5_countRulers (.code yX5_countRulers cX5_countRulers 4 (some .int)) 8 0 0 [.ref 0, .int xm, .int xs, .int xe] (wl mi ml) (QI (fun r mi9 ml9 => Fr [53, 54, 55] mi mi9 ∧ FLc ml ml9 ∧ (ml9 56 0 = 0 ∧ ml9 57 0 = 0) ∧ CrE V 3 S EE r.toInt mi9 ml9)) noX := by
  refine Ct_of (ini := false) pn_X5 hfl (fun h => nomatch h) (Nat.le_of_ble_eq_true rfl) ?_
  show E l RX5 cX5_countRulers 4 (some .int) false [] (rmE 8 0 0) (wl mi ml) (TgM (wl mi ml) 0 0 (QI (fun r mi9 ml9 => Fr [53, 54, 55] mi mi9 ∧ FLc ml ml9 ∧ (ml9 56 0 = 0 ∧ ml9 57 0 = 0) ∧ CrE V 3 S EE r.toInt mi9 ml9)) noX) 0 0 0 [(0, .ref 0), (1, .int xm), (2, .int xs), (3, .int xe)] [] (wl mi ml)
  refine E_aload_n 0 dX5_countRulers_0 rfl rfl ?_
  refine gf_X5_36 tw_0 rfl dX5_countRulers_1 ?_
  refine E_aload_n 0 dX5_countRulers_4 rfl rfl ?_
  refine gf_X5_10 tw_0 rfl dX5_countRulers_5 ?_
  refine E_callV (c_X0_start l hfl mi ml V hV hD hz) cw_X5_331 (As := [.ref 1]) (st := []) wi_yX0_start we_yX0_start (ci := 0) (q := (RX0, TX0, 10)) rfl rfl (wl_atO tw_53) rfl ⟨Nat.le_of_ble_eq_true rfl, Nat.le_of_ble_eq_true rfl, Nat.le_of_ble_eq_true rfl, Nat.le_of_ble_eq_true rfl⟩ (Nat.le_of_ble_eq_true rfl) dX5_countRulers_8 (fun _ _ h => h) rfl (kV (fun mi_8 ml_8 h_8 => ?_))
  obtain ⟨rfl, h_8⟩ := h_8
  refine E_aload_n 0 dX5_countRulers_11 rfl rfl ?_
  refine gf_X5_36 tw_0 rfl dX5_countRulers_12 ?_
  refine E_iconst 0 (by decide) dX5_countRulers_15 ?_
  refine E_bipush 60 (by decide) dX5_countRulers_16 ?_
  refine E_callV (c_X0_join l hfl mi_8 ml (DS V [0]) (V 3).toInt (V 4).toInt 0 (h_8.2 _ ⟨rfl, rfl, rfl⟩) (RgD_S hV (fun x hx => by rw [List.mem_singleton.mp hx]; omega)) (by decide) 0 rfl 60 rfl) cw_X5_334 (As := [.int 0, .int 60]) (st := []) wi_yX0_join we_yX0_join (ci := 0) (q := (RX0, TX0, 10)) rfl rfl (wl_atO tw_53) rfl ⟨Nat.le_of_ble_eq_true rfl, Nat.le_of_ble_eq_true rfl, Nat.le_of_ble_eq_true rfl, Nat.le_of_ble_eq_true rfl⟩ (Nat.le_of_ble_eq_true rfl) dX5_countRulers_18 (fun _ _ h => h) rfl (kI (fun r_18 mi_18 ml_18 h_18 => ?_))
  obtain ⟨e_18, h_18⟩ := h_18
  subst e_18
  refine E_pop rfl dX5_countRulers_21 ?_
  refine E_iload_n 1 dX5_countRulers_22 rfl rfl ?_
  refine E_iconst 1 (by decide) dX5_countRulers_23 ?_
  refine Z_ne 3 1 hxm (show (1 : Int32).toInt = 1 from rfl) 37 dX5_countRulers_24 (by decide) (fun c_24 => ?_) (fun c_24 => ?_)
  · skip
    refine E_aload_n 0 dX5_countRulers_37 rfl rfl ?_
    refine gf_X5_36 tw_0 rfl dX5_countRulers_38 ?_
    refine E_iload_n 2 dX5_countRulers_41 rfl rfl ?_
    refine E_bipush 60 (by decide) dX5_countRulers_42 ?_
    refine E_callV (c_X0_join l hfl mi_18 ml_18 (DS V ([0] ++ [S])) (V 3).toInt (V 4).toInt 1 (CSI.d (h_18.2.2.resolve_right (fun z => z.1 ClN_1)).2 (eqD_S (R := [0]))) (RgD_S hV (mem_a (fun x hx => by rw [List.mem_singleton.mp hx]; omega) hS40)) (by decide) xs hxs 60 rfl) cw_X5_334 (As := [.int xs, .int 60]) (st := []) wi_yX0_join we_yX0_join (ci := 0) (q := (RX0, TX0, 10)) rfl rfl (wl_atO tw_53) rfl ⟨Nat.le_of_ble_eq_true rfl, Nat.le_of_ble_eq_true rfl, Nat.le_of_ble_eq_true rfl, Nat.le_of_ble_eq_true rfl⟩ (Nat.le_of_ble_eq_true rfl) dX5_countRulers_44 (fun _ _ h => h) rfl (kI (fun r_44 mi_44 ml_44 h_44 => ?_))
    obtain ⟨e_44, h_44⟩ := h_44
    subst e_44
    refine B_ne 52 dX5_countRulers_47 (by decide) (fun c_47 => ?_) (fun c_47 => ?_)
    · skip
      refine E_aload_n 0 dX5_countRulers_52 rfl rfl ?_
      refine gf_X5_36 tw_0 rfl dX5_countRulers_53 ?_
      refine E_iload_n 1 dX5_countRulers_56 rfl rfl ?_
      refine E_iconst 2 (by decide) dX5_countRulers_57 ?_
      refine E_isub dX5_countRulers_58 ?_
      refine E_aload_n 0 dX5_countRulers_59 rfl rfl ?_
      refine gf_X5_10 tw_0 rfl dX5_countRulers_60 ?_
      refine gf_X5_135 (V 4) isD_1.t rfl ((congrFun (h_44.1 1 (by decide)) 4).trans ((congrFun (h_18.1 1 (by decide)) 4).trans ((congrFun (h_8.1 1 (by decide)) 4).trans hD.1.2.2.2.2))) dX5_countRulers_63 ?_
      refine E_iload_n 2 dX5_countRulers_66 rfl rfl ?_
      refine E_iload_n 3 dX5_countRulers_67 rfl rfl ?_
      refine E_callS (c_X5_countInner1 l hfl mi_44 ml_44 V hV sp hsp hs1 hs10 ([0] ++ [S]) S 0 EE (List.mem_append_right _ (List.mem_singleton.mpr rfl)) (List.mem_append_left _ (List.mem_singleton.mpr rfl)) (mem_a (fun x hx => by rw [List.mem_singleton.mp hx]; omega) hS40) (by show 2 + 1 ≤ 6; decide) (h_44.2.2.resolve_right (fun z => z.1 c_47)).2 (xm - 2) (V 4) xs xe ((tI_sub hxm (show (2 : Int32).toInt = 2 from rfl) (by omega)).trans (by omega)) (hsp.trans (by omega)) hxs (hE.trans (by omega)) hE1) cw_X5_341 (As := [.ref 53, .int (xm - 2), .int (V 4), .int xs, .int xe]) (st := []) ws_yX5_countInner rfl ⟨Nat.le_of_ble_eq_true rfl, Nat.le_of_ble_eq_true rfl, Nat.le_of_ble_eq_true rfl, Nat.le_of_ble_eq_true rfl⟩ (Nat.le_of_ble_eq_true rfl) dX5_countRulers_68 (fun _ _ h => h) rfl (kI (fun r_68 mi_68 ml_68 h_68 => ?_))
      refine E_iret rfl (Nat.le_of_ble_eq_true rfl) (Nat.le_of_ble_eq_true rfl) dX5_countRulers_71 ?_
      have hcl9 : ClN V ([0] ++ [S]) := ClN_iff.mpr c_47
      exact okQI ⟨(((Fr.trans h_8.1 h_18.1 (by decide) (fun _ h => h)).trans h_44.1 (fun _ h => h) (fun _ h => h)).trans h_68.1 (fun _ h => h) (fun _ h => h)), (h_18.2.1.trans h_44.2.1).trans h_68.2.1, CnE_z h_68.2.2, CrE_y hsp hs1 (l := 1) rfl hcl9 h_68.2.2⟩
    · skip
      refine E_iconst 0 (by decide) dX5_countRulers_50 ?_
      refine E_iret rfl (Nat.le_of_ble_eq_true rfl) (Nat.le_of_ble_eq_true rfl) dX5_countRulers_51 ?_
      exact okQI ⟨((Fr.trans h_8.1 h_18.1 (by decide) (fun _ h => h)).trans h_44.1 (fun _ h => h) (fun _ h => h)), h_18.2.1.trans h_44.2.1, by rw [← (h_44.2.2.resolve_left (fun z => c_47 z.1)).2.2]; exact ((h_18.2.2.resolve_right (fun z => z.1 ClN_1)).2).z, CrE_n (by decide) hE1 (fun z => c_47 (ClN_iff.mp z))⟩
  · exact absurd c_24 (by omega)
set_option maxHeartbeats 1600000 in
set_option maxRecDepth 100000 in
theorem c_X5_countRulers4 (l : Launch) (hfl : l.stackTraces = false) (mi : MI) (ml : MJ) (V : Nat → Int32) (hV : WFV V) (hD : DR 1 mi V) (n : Nat) (hn : (V 5).toInt = (n : Int)) (h10 : n ≤ 10) (hz : ml 56 0 = 0 ∧ ml 57 0 = 0) (sp : Nat) (hsp : (V 4).toInt = (sp : Int)) (hs1 : 1 ≤ sp) (hs10 : sp ≤ 10) (S EE : Nat) (xs xe : Int32) (hxs : xs.toInt = (S : Int)) (hS40 : S ≤ 40) (hE : xe.toInt = (EE : Int)) (hE1 : 1 ≤ EE) (xm : Int32) (hxm : xm.toInt = 4) : Ct l yX5_countRulers (.code yX5_countRulers cX5_countRulers 4 (some .int)) 8 0 0 [.ref 0, .int xm, .int xs, .int xe] (wl mi ml) (QI (fun r mi9 ml9 => Fr [53, 54, 55] mi mi9 ∧ FLc ml ml9 ∧ (ml9 56 0 = 0 ∧ ml9 57 0 = 0) ∧ CrE V 4 S EE r.toInt mi9 ml9)) noX := by
  refine Ct_of (ini := false) pn_X5 hfl (fun h => nomatch h) (Nat.le_of_ble_eq_true rfl) ?_
  show E l RX5 cX5_countRulers 4 (some .int) false [] (rmE 8 0 0) (wl mi ml) (TgM (wl mi ml) 0 0 (QI (fun r mi9 ml9 => Fr [53, 54, 55] mi mi9 ∧ FLc ml ml9 ∧ (ml9 56 0 = 0 ∧ ml9 57 0 = 0) ∧ CrE V 4 S EE r.toInt mi9 ml9)) noX) 0 0 0 [(0, .ref 0), (1, .int xm), (2, .int xs), (3, .int xe)] [] (wl mi ml)
  refine E_aload_n 0 dX5_countRulers_0 rfl rfl ?_
  refine gf_X5_36 tw_0 rfl dX5_countRulers_1 ?_
  refine E_aload_n 0 dX5_countRulers_4 rfl rfl ?_
  refine gf_X5_10 tw_0 rfl dX5_countRulers_5 ?_
  refine E_callV (c_X0_start l hfl mi ml V hV hD hz) cw_X5_331 (As := [.ref 1]) (st := []) wi_yX0_start we_yX0_start (ci := 0) (q := (RX0, TX0, 10)) rfl rfl (wl_atO tw_53) rfl ⟨Nat.le_of_ble_eq_true rfl, Nat.le_of_ble_eq_true rfl, Nat.le_of_ble_eq_true rfl, Nat.le_of_ble_eq_true rfl⟩ (Nat.le_of_ble_eq_true rfl) dX5_countRulers_8 (fun _ _ h => h) rfl (kV (fun mi_8 ml_8 h_8 => ?_))
  obtain ⟨rfl, h_8⟩ := h_8
  refine E_aload_n 0 dX5_countRulers_11 rfl rfl ?_
  refine gf_X5_36 tw_0 rfl dX5_countRulers_12 ?_
  refine E_iconst 0 (by decide) dX5_countRulers_15 ?_
  refine E_bipush 60 (by decide) dX5_countRulers_16 ?_
  refine E_callV (c_X0_join l hfl mi_8 ml (DS V [0]) (V 3).toInt (V 4).toInt 0 (h_8.2 _ ⟨rfl, rfl, rfl⟩) (RgD_S hV (fun x hx => by rw [List.mem_singleton.mp hx]; omega)) (by decide) 0 rfl 60 rfl) cw_X5_334 (As := [.int 0, .int 60]) (st := []) wi_yX0_join we_yX0_join (ci := 0) (q := (RX0, TX0, 10)) rfl rfl (wl_atO tw_53) rfl ⟨Nat.le_of_ble_eq_true rfl, Nat.le_of_ble_eq_true rfl, Nat.le_of_ble_eq_true rfl, Nat.le_of_ble_eq_true rfl⟩ (Nat.le_of_ble_eq_true rfl) dX5_countRulers_18 (fun _ _ h => h) rfl (kI (fun r_18 mi_18 ml_18 h_18 => ?_))
  obtain ⟨e_18, h_18⟩ := h_18
  subst e_18
  refine E_pop rfl dX5_countRulers_21 ?_
  refine E_iload_n 1 dX5_countRulers_22 rfl rfl ?_
  refine E_iconst 1 (by decide) dX5_countRulers_23 ?_
  refine Z_ne 4 1 hxm (show (1 : Int32).toInt = 1 from rfl) 37 dX5_countRulers_24 (by decide) (fun c_24 => ?_) (fun c_24 => ?_)
  · skip
    refine E_aload_n 0 dX5_countRulers_37 rfl rfl ?_
    refine gf_X5_36 tw_0 rfl dX5_countRulers_38 ?_
    refine E_iload_n 2 dX5_countRulers_41 rfl rfl ?_
    refine E_bipush 60 (by decide) dX5_countRulers_42 ?_
    refine E_callV (c_X0_join l hfl mi_18 ml_18 (DS V ([0] ++ [S])) (V 3).toInt (V 4).toInt 1 (CSI.d (h_18.2.2.resolve_right (fun z => z.1 ClN_1)).2 (eqD_S (R := [0]))) (RgD_S hV (mem_a (fun x hx => by rw [List.mem_singleton.mp hx]; omega) hS40)) (by decide) xs hxs 60 rfl) cw_X5_334 (As := [.int xs, .int 60]) (st := []) wi_yX0_join we_yX0_join (ci := 0) (q := (RX0, TX0, 10)) rfl rfl (wl_atO tw_53) rfl ⟨Nat.le_of_ble_eq_true rfl, Nat.le_of_ble_eq_true rfl, Nat.le_of_ble_eq_true rfl, Nat.le_of_ble_eq_true rfl⟩ (Nat.le_of_ble_eq_true rfl) dX5_countRulers_44 (fun _ _ h => h) rfl (kI (fun r_44 mi_44 ml_44 h_44 => ?_))
    obtain ⟨e_44, h_44⟩ := h_44
    subst e_44
    refine B_ne 52 dX5_countRulers_47 (by decide) (fun c_47 => ?_) (fun c_47 => ?_)
    · skip
      refine E_aload_n 0 dX5_countRulers_52 rfl rfl ?_
      refine gf_X5_36 tw_0 rfl dX5_countRulers_53 ?_
      refine E_iload_n 1 dX5_countRulers_56 rfl rfl ?_
      refine E_iconst 2 (by decide) dX5_countRulers_57 ?_
      refine E_isub dX5_countRulers_58 ?_
      refine E_aload_n 0 dX5_countRulers_59 rfl rfl ?_
      refine gf_X5_10 tw_0 rfl dX5_countRulers_60 ?_
      refine gf_X5_135 (V 4) isD_1.t rfl ((congrFun (h_44.1 1 (by decide)) 4).trans ((congrFun (h_18.1 1 (by decide)) 4).trans ((congrFun (h_8.1 1 (by decide)) 4).trans hD.1.2.2.2.2))) dX5_countRulers_63 ?_
      refine E_iload_n 2 dX5_countRulers_66 rfl rfl ?_
      refine E_iload_n 3 dX5_countRulers_67 rfl rfl ?_
      refine E_callS (c_X5_countInner2 l hfl mi_44 ml_44 V hV sp hsp hs1 hs10 ([0] ++ [S]) S 0 EE (List.mem_append_right _ (List.mem_singleton.mpr rfl)) (List.mem_append_left _ (List.mem_singleton.mpr rfl)) (mem_a (fun x hx => by rw [List.mem_singleton.mp hx]; omega) hS40) (by show 2 + 2 ≤ 6; decide) (h_44.2.2.resolve_right (fun z => z.1 c_47)).2 (xm - 2) (V 4) xs xe ((tI_sub hxm (show (2 : Int32).toInt = 2 from rfl) (by omega)).trans (by omega)) (hsp.trans (by omega)) hxs (hE.trans (by omega)) hE1) cw_X5_341 (As := [.ref 53, .int (xm - 2), .int (V 4), .int xs, .int xe]) (st := []) ws_yX5_countInner rfl ⟨Nat.le_of_ble_eq_true rfl, Nat.le_of_ble_eq_true rfl, Nat.le_of_ble_eq_true rfl, Nat.le_of_ble_eq_true rfl⟩ (Nat.le_of_ble_eq_true rfl) dX5_countRulers_68 (fun _ _ h => h) rfl (kI (fun r_68 mi_68 ml_68 h_68 => ?_))
      refine E_iret rfl (Nat.le_of_ble_eq_true rfl) (Nat.le_of_ble_eq_true rfl) dX5_countRulers_71 ?_
      have hcl9 : ClN V ([0] ++ [S]) := ClN_iff.mpr c_47
      exact okQI ⟨(((Fr.trans h_8.1 h_18.1 (by decide) (fun _ h => h)).trans h_44.1 (fun _ h => h) (fun _ h => h)).trans h_68.1 (fun _ h => h) (fun _ h => h)), (h_18.2.1.trans h_44.2.1).trans h_68.2.1, CnE_z h_68.2.2, CrE_y hsp hs1 (l := 2) rfl hcl9 h_68.2.2⟩
    · skip
      refine E_iconst 0 (by decide) dX5_countRulers_50 ?_
      refine E_iret rfl (Nat.le_of_ble_eq_true rfl) (Nat.le_of_ble_eq_true rfl) dX5_countRulers_51 ?_
      exact okQI ⟨((Fr.trans h_8.1 h_18.1 (by decide) (fun _ h => h)).trans h_44.1 (fun _ h => h) (fun _ h => h)), h_18.2.1.trans h_44.2.1, by rw [← (h_44.2.2.resolve_left (fun z => c_47 z.1)).2.2]; exact ((h_18.2.2.resolve_right (fun z => z.1 ClN_1)).2).z, CrE_n (by decide) hE1 (fun z => c_47 (ClN_iff.mp z))⟩
  · exact absurd c_24 (by omega)
set_option maxHeartbeats 1600000 in
set_option maxRecDepth 100000 in
theorem c_X5_countRulers5 (l : Launch) (hfl : l.stackTraces = false) (mi : MI) (ml : MJ) (V : Nat → Int32) (hV : WFV V) (hD : DR 1 mi V) (n : Nat) (hn : (V 5).toInt = (n : Int)) (h10 : n ≤ 10) (hz : ml 56 0 = 0 ∧ ml 57 0 = 0) (sp : Nat) (hsp : (V 4).toInt = (sp : Int)) (hs1 : 1 ≤ sp) (hs10 : sp ≤ 10) (S EE : Nat) (xs xe : Int32) (hxs : xs.toInt = (S : Int)) (hS40 : S ≤ 40) (hE : xe.toInt = (EE : Int)) (hE1 : 1 ≤ EE) (xm : Int32) (hxm : xm.toInt = 5) : Ct l yX5_countRulers (.code yX5_countRulers cX5_countRulers 4 (some .int)) 8 0 0 [.ref 0, .int xm, .int xs, .int xe] (wl mi ml) (QI (fun r mi9 ml9 => Fr [53, 54, 55] mi mi9 ∧ FLc ml ml9 ∧ (ml9 56 0 = 0 ∧ ml9 57 0 = 0) ∧ CrE V 5 S EE r.toInt mi9 ml9)) noX := by
  refine Ct_of (ini := false) pn_X5 hfl (fun h => nomatch h) (Nat.le_of_ble_eq_true rfl) ?_
  show E l RX5 cX5_countRulers 4 (some .int) false [] (rmE 8 0 0) (wl mi ml) (TgM (wl mi ml) 0 0 (QI (fun r mi9 ml9 => Fr [53, 54, 55] mi mi9 ∧ FLc ml ml9 ∧ (ml9 56 0 = 0 ∧ ml9 57 0 = 0) ∧ CrE V 5 S EE r.toInt mi9 ml9)) noX) 0 0 0 [(0, .ref 0), (1, .int xm), (2, .int xs), (3, .int xe)] [] (wl mi ml)
  refine E_aload_n 0 dX5_countRulers_0 rfl rfl ?_
  refine gf_X5_36 tw_0 rfl dX5_countRulers_1 ?_
  refine E_aload_n 0 dX5_countRulers_4 rfl rfl ?_
  refine gf_X5_10 tw_0 rfl dX5_countRulers_5 ?_
  refine E_callV (c_X0_start l hfl mi ml V hV hD hz) cw_X5_331 (As := [.ref 1]) (st := []) wi_yX0_start we_yX0_start (ci := 0) (q := (RX0, TX0, 10)) rfl rfl (wl_atO tw_53) rfl ⟨Nat.le_of_ble_eq_true rfl, Nat.le_of_ble_eq_true rfl, Nat.le_of_ble_eq_true rfl, Nat.le_of_ble_eq_true rfl⟩ (Nat.le_of_ble_eq_true rfl) dX5_countRulers_8 (fun _ _ h => h) rfl (kV (fun mi_8 ml_8 h_8 => ?_))
  obtain ⟨rfl, h_8⟩ := h_8
  refine E_aload_n 0 dX5_countRulers_11 rfl rfl ?_
  refine gf_X5_36 tw_0 rfl dX5_countRulers_12 ?_
  refine E_iconst 0 (by decide) dX5_countRulers_15 ?_
  refine E_bipush 60 (by decide) dX5_countRulers_16 ?_
  refine E_callV (c_X0_join l hfl mi_8 ml (DS V [0]) (V 3).toInt (V 4).toInt 0 (h_8.2 _ ⟨rfl, rfl, rfl⟩) (RgD_S hV (fun x hx => by rw [List.mem_singleton.mp hx]; omega)) (by decide) 0 rfl 60 rfl) cw_X5_334 (As := [.int 0, .int 60]) (st := []) wi_yX0_join we_yX0_join (ci := 0) (q := (RX0, TX0, 10)) rfl rfl (wl_atO tw_53) rfl ⟨Nat.le_of_ble_eq_true rfl, Nat.le_of_ble_eq_true rfl, Nat.le_of_ble_eq_true rfl, Nat.le_of_ble_eq_true rfl⟩ (Nat.le_of_ble_eq_true rfl) dX5_countRulers_18 (fun _ _ h => h) rfl (kI (fun r_18 mi_18 ml_18 h_18 => ?_))
  obtain ⟨e_18, h_18⟩ := h_18
  subst e_18
  refine E_pop rfl dX5_countRulers_21 ?_
  refine E_iload_n 1 dX5_countRulers_22 rfl rfl ?_
  refine E_iconst 1 (by decide) dX5_countRulers_23 ?_
  refine Z_ne 5 1 hxm (show (1 : Int32).toInt = 1 from rfl) 37 dX5_countRulers_24 (by decide) (fun c_24 => ?_) (fun c_24 => ?_)
  · skip
    refine E_aload_n 0 dX5_countRulers_37 rfl rfl ?_
    refine gf_X5_36 tw_0 rfl dX5_countRulers_38 ?_
    refine E_iload_n 2 dX5_countRulers_41 rfl rfl ?_
    refine E_bipush 60 (by decide) dX5_countRulers_42 ?_
    refine E_callV (c_X0_join l hfl mi_18 ml_18 (DS V ([0] ++ [S])) (V 3).toInt (V 4).toInt 1 (CSI.d (h_18.2.2.resolve_right (fun z => z.1 ClN_1)).2 (eqD_S (R := [0]))) (RgD_S hV (mem_a (fun x hx => by rw [List.mem_singleton.mp hx]; omega) hS40)) (by decide) xs hxs 60 rfl) cw_X5_334 (As := [.int xs, .int 60]) (st := []) wi_yX0_join we_yX0_join (ci := 0) (q := (RX0, TX0, 10)) rfl rfl (wl_atO tw_53) rfl ⟨Nat.le_of_ble_eq_true rfl, Nat.le_of_ble_eq_true rfl, Nat.le_of_ble_eq_true rfl, Nat.le_of_ble_eq_true rfl⟩ (Nat.le_of_ble_eq_true rfl) dX5_countRulers_44 (fun _ _ h => h) rfl (kI (fun r_44 mi_44 ml_44 h_44 => ?_))
    obtain ⟨e_44, h_44⟩ := h_44
    subst e_44
    refine B_ne 52 dX5_countRulers_47 (by decide) (fun c_47 => ?_) (fun c_47 => ?_)
    · skip
      refine E_aload_n 0 dX5_countRulers_52 rfl rfl ?_
      refine gf_X5_36 tw_0 rfl dX5_countRulers_53 ?_
      refine E_iload_n 1 dX5_countRulers_56 rfl rfl ?_
      refine E_iconst 2 (by decide) dX5_countRulers_57 ?_
      refine E_isub dX5_countRulers_58 ?_
      refine E_aload_n 0 dX5_countRulers_59 rfl rfl ?_
      refine gf_X5_10 tw_0 rfl dX5_countRulers_60 ?_
      refine gf_X5_135 (V 4) isD_1.t rfl ((congrFun (h_44.1 1 (by decide)) 4).trans ((congrFun (h_18.1 1 (by decide)) 4).trans ((congrFun (h_8.1 1 (by decide)) 4).trans hD.1.2.2.2.2))) dX5_countRulers_63 ?_
      refine E_iload_n 2 dX5_countRulers_66 rfl rfl ?_
      refine E_iload_n 3 dX5_countRulers_67 rfl rfl ?_
      refine E_callS (c_X5_countInner3 l hfl mi_44 ml_44 V hV sp hsp hs1 hs10 ([0] ++ [S]) S 0 EE (List.mem_append_right _ (List.mem_singleton.mpr rfl)) (List.mem_append_left _ (List.mem_singleton.mpr rfl)) (mem_a (fun x hx => by rw [List.mem_singleton.mp hx]; omega) hS40) (by show 2 + 3 ≤ 6; decide) (h_44.2.2.resolve_right (fun z => z.1 c_47)).2 (xm - 2) (V 4) xs xe ((tI_sub hxm (show (2 : Int32).toInt = 2 from rfl) (by omega)).trans (by omega)) (hsp.trans (by omega)) hxs (hE.trans (by omega)) hE1) cw_X5_341 (As := [.ref 53, .int (xm - 2), .int (V 4), .int xs, .int xe]) (st := []) ws_yX5_countInner rfl ⟨Nat.le_of_ble_eq_true rfl, Nat.le_of_ble_eq_true rfl, Nat.le_of_ble_eq_true rfl, Nat.le_of_ble_eq_true rfl⟩ (Nat.le_of_ble_eq_true rfl) dX5_countRulers_68 (fun _ _ h => h) rfl (kI (fun r_68 mi_68 ml_68 h_68 => ?_))
      refine E_iret rfl (Nat.le_of_ble_eq_true rfl) (Nat.le_of_ble_eq_true rfl) dX5_countRulers_71 ?_
      have hcl9 : ClN V ([0] ++ [S]) := ClN_iff.mpr c_47
      exact okQI ⟨(((Fr.trans h_8.1 h_18.1 (by decide) (fun _ h => h)).trans h_44.1 (fun _ h => h) (fun _ h => h)).trans h_68.1 (fun _ h => h) (fun _ h => h)), (h_18.2.1.trans h_44.2.1).trans h_68.2.1, CnE_z h_68.2.2, CrE_y hsp hs1 (l := 3) rfl hcl9 h_68.2.2⟩
    · skip
      refine E_iconst 0 (by decide) dX5_countRulers_50 ?_
      refine E_iret rfl (Nat.le_of_ble_eq_true rfl) (Nat.le_of_ble_eq_true rfl) dX5_countRulers_51 ?_
      exact okQI ⟨((Fr.trans h_8.1 h_18.1 (by decide) (fun _ h => h)).trans h_44.1 (fun _ h => h) (fun _ h => h)), h_18.2.1.trans h_44.2.1, by rw [← (h_44.2.2.resolve_left (fun z => c_47 z.1)).2.2]; exact ((h_18.2.2.resolve_right (fun z => z.1 ClN_1)).2).z, CrE_n (by decide) hE1 (fun z => c_47 (ClN_iff.mp z))⟩
  · exact absurd c_24 (by omega)
set_option maxHeartbeats 1600000 in
set_option maxRecDepth 100000 in
theorem c_X5_countRulers6 (l : Launch) (hfl : l.stackTraces = false) (mi : MI) (ml : MJ) (V : Nat → Int32) (hV : WFV V) (hD : DR 1 mi V) (n : Nat) (hn : (V 5).toInt = (n : Int)) (h10 : n ≤ 10) (hz : ml 56 0 = 0 ∧ ml 57 0 = 0) (sp : Nat) (hsp : (V 4).toInt = (sp : Int)) (hs1 : 1 ≤ sp) (hs10 : sp ≤ 10) (S EE : Nat) (xs xe : Int32) (hxs : xs.toInt = (S : Int)) (hS40 : S ≤ 40) (hE : xe.toInt = (EE : Int)) (hE1 : 1 ≤ EE) (xm : Int32) (hxm : xm.toInt = 6) : Ct l yX5_countRulers (.code yX5_countRulers cX5_countRulers 4 (some .int)) 8 0 0 [.ref 0, .int xm, .int xs, .int xe] (wl mi ml) (QI (fun r mi9 ml9 => Fr [53, 54, 55] mi mi9 ∧ FLc ml ml9 ∧ (ml9 56 0 = 0 ∧ ml9 57 0 = 0) ∧ CrE V 6 S EE r.toInt mi9 ml9)) noX := by
  refine Ct_of (ini := false) pn_X5 hfl (fun h => nomatch h) (Nat.le_of_ble_eq_true rfl) ?_
  show E l RX5 cX5_countRulers 4 (some .int) false [] (rmE 8 0 0) (wl mi ml) (TgM (wl mi ml) 0 0 (QI (fun r mi9 ml9 => Fr [53, 54, 55] mi mi9 ∧ FLc ml ml9 ∧ (ml9 56 0 = 0 ∧ ml9 57 0 = 0) ∧ CrE V 6 S EE r.toInt mi9 ml9)) noX) 0 0 0 [(0, .ref 0), (1, .int xm), (2, .int xs), (3, .int xe)] [] (wl mi ml)
  refine E_aload_n 0 dX5_countRulers_0 rfl rfl ?_
  refine gf_X5_36 tw_0 rfl dX5_countRulers_1 ?_
  refine E_aload_n 0 dX5_countRulers_4 rfl rfl ?_
  refine gf_X5_10 tw_0 rfl dX5_countRulers_5 ?_
  refine E_callV (c_X0_start l hfl mi ml V hV hD hz) cw_X5_331 (As := [.ref 1]) (st := []) wi_yX0_start we_yX0_start (ci := 0) (q := (RX0, TX0, 10)) rfl rfl (wl_atO tw_53) rfl ⟨Nat.le_of_ble_eq_true rfl, Nat.le_of_ble_eq_true rfl, Nat.le_of_ble_eq_true rfl, Nat.le_of_ble_eq_true rfl⟩ (Nat.le_of_ble_eq_true rfl) dX5_countRulers_8 (fun _ _ h => h) rfl (kV (fun mi_8 ml_8 h_8 => ?_))
  obtain ⟨rfl, h_8⟩ := h_8
  refine E_aload_n 0 dX5_countRulers_11 rfl rfl ?_
  refine gf_X5_36 tw_0 rfl dX5_countRulers_12 ?_
  refine E_iconst 0 (by decide) dX5_countRulers_15 ?_
  refine E_bipush 60 (by decide) dX5_countRulers_16 ?_
  refine E_callV (c_X0_join l hfl mi_8 ml (DS V [0]) (V 3).toInt (V 4).toInt 0 (h_8.2 _ ⟨rfl, rfl, rfl⟩) (RgD_S hV (fun x hx => by rw [List.mem_singleton.mp hx]; omega)) (by decide) 0 rfl 60 rfl) cw_X5_334 (As := [.int 0, .int 60]) (st := []) wi_yX0_join we_yX0_join (ci := 0) (q := (RX0, TX0, 10)) rfl rfl (wl_atO tw_53) rfl ⟨Nat.le_of_ble_eq_true rfl, Nat.le_of_ble_eq_true rfl, Nat.le_of_ble_eq_true rfl, Nat.le_of_ble_eq_true rfl⟩ (Nat.le_of_ble_eq_true rfl) dX5_countRulers_18 (fun _ _ h => h) rfl (kI (fun r_18 mi_18 ml_18 h_18 => ?_))
  obtain ⟨e_18, h_18⟩ := h_18
  subst e_18
  refine E_pop rfl dX5_countRulers_21 ?_
  refine E_iload_n 1 dX5_countRulers_22 rfl rfl ?_
  refine E_iconst 1 (by decide) dX5_countRulers_23 ?_
  refine Z_ne 6 1 hxm (show (1 : Int32).toInt = 1 from rfl) 37 dX5_countRulers_24 (by decide) (fun c_24 => ?_) (fun c_24 => ?_)
  · skip
    refine E_aload_n 0 dX5_countRulers_37 rfl rfl ?_
    refine gf_X5_36 tw_0 rfl dX5_countRulers_38 ?_
    refine E_iload_n 2 dX5_countRulers_41 rfl rfl ?_
    refine E_bipush 60 (by decide) dX5_countRulers_42 ?_
    refine E_callV (c_X0_join l hfl mi_18 ml_18 (DS V ([0] ++ [S])) (V 3).toInt (V 4).toInt 1 (CSI.d (h_18.2.2.resolve_right (fun z => z.1 ClN_1)).2 (eqD_S (R := [0]))) (RgD_S hV (mem_a (fun x hx => by rw [List.mem_singleton.mp hx]; omega) hS40)) (by decide) xs hxs 60 rfl) cw_X5_334 (As := [.int xs, .int 60]) (st := []) wi_yX0_join we_yX0_join (ci := 0) (q := (RX0, TX0, 10)) rfl rfl (wl_atO tw_53) rfl ⟨Nat.le_of_ble_eq_true rfl, Nat.le_of_ble_eq_true rfl, Nat.le_of_ble_eq_true rfl, Nat.le_of_ble_eq_true rfl⟩ (Nat.le_of_ble_eq_true rfl) dX5_countRulers_44 (fun _ _ h => h) rfl (kI (fun r_44 mi_44 ml_44 h_44 => ?_))
    obtain ⟨e_44, h_44⟩ := h_44
    subst e_44
    refine B_ne 52 dX5_countRulers_47 (by decide) (fun c_47 => ?_) (fun c_47 => ?_)
    · skip
      refine E_aload_n 0 dX5_countRulers_52 rfl rfl ?_
      refine gf_X5_36 tw_0 rfl dX5_countRulers_53 ?_
      refine E_iload_n 1 dX5_countRulers_56 rfl rfl ?_
      refine E_iconst 2 (by decide) dX5_countRulers_57 ?_
      refine E_isub dX5_countRulers_58 ?_
      refine E_aload_n 0 dX5_countRulers_59 rfl rfl ?_
      refine gf_X5_10 tw_0 rfl dX5_countRulers_60 ?_
      refine gf_X5_135 (V 4) isD_1.t rfl ((congrFun (h_44.1 1 (by decide)) 4).trans ((congrFun (h_18.1 1 (by decide)) 4).trans ((congrFun (h_8.1 1 (by decide)) 4).trans hD.1.2.2.2.2))) dX5_countRulers_63 ?_
      refine E_iload_n 2 dX5_countRulers_66 rfl rfl ?_
      refine E_iload_n 3 dX5_countRulers_67 rfl rfl ?_
      refine E_callS (c_X5_countInner4 l hfl mi_44 ml_44 V hV sp hsp hs1 hs10 ([0] ++ [S]) S 0 EE (List.mem_append_right _ (List.mem_singleton.mpr rfl)) (List.mem_append_left _ (List.mem_singleton.mpr rfl)) (mem_a (fun x hx => by rw [List.mem_singleton.mp hx]; omega) hS40) (by show 2 + 4 ≤ 6; decide) (h_44.2.2.resolve_right (fun z => z.1 c_47)).2 (xm - 2) (V 4) xs xe ((tI_sub hxm (show (2 : Int32).toInt = 2 from rfl) (by omega)).trans (by omega)) (hsp.trans (by omega)) hxs (hE.trans (by omega)) hE1) cw_X5_341 (As := [.ref 53, .int (xm - 2), .int (V 4), .int xs, .int xe]) (st := []) ws_yX5_countInner rfl ⟨Nat.le_of_ble_eq_true rfl, Nat.le_of_ble_eq_true rfl, Nat.le_of_ble_eq_true rfl, Nat.le_of_ble_eq_true rfl⟩ (Nat.le_of_ble_eq_true rfl) dX5_countRulers_68 (fun _ _ h => h) rfl (kI (fun r_68 mi_68 ml_68 h_68 => ?_))
      refine E_iret rfl (Nat.le_of_ble_eq_true rfl) (Nat.le_of_ble_eq_true rfl) dX5_countRulers_71 ?_
      have hcl9 : ClN V ([0] ++ [S]) := ClN_iff.mpr c_47
      exact okQI ⟨(((Fr.trans h_8.1 h_18.1 (by decide) (fun _ h => h)).trans h_44.1 (fun _ h => h) (fun _ h => h)).trans h_68.1 (fun _ h => h) (fun _ h => h)), (h_18.2.1.trans h_44.2.1).trans h_68.2.1, CnE_z h_68.2.2, CrE_y hsp hs1 (l := 4) rfl hcl9 h_68.2.2⟩
    · skip
      refine E_iconst 0 (by decide) dX5_countRulers_50 ?_
      refine E_iret rfl (Nat.le_of_ble_eq_true rfl) (Nat.le_of_ble_eq_true rfl) dX5_countRulers_51 ?_
      exact okQI ⟨((Fr.trans h_8.1 h_18.1 (by decide) (fun _ h => h)).trans h_44.1 (fun _ h => h) (fun _ h => h)), h_18.2.1.trans h_44.2.1, by rw [← (h_44.2.2.resolve_left (fun z => c_47 z.1)).2.2]; exact ((h_18.2.2.resolve_right (fun z => z.1 ClN_1)).2).z, CrE_n (by decide) hE1 (fun z => c_47 (ClN_iff.mp z))⟩
  · exact absurd c_24 (by omega)
theorem c_X5_countRulers (l : Launch) (hfl : l.stackTraces = false) (mi : MI) (ml : MJ) (V : Nat → Int32) (hV : WFV V) (hD : DR 1 mi V) (n : Nat) (hn : (V 5).toInt = (n : Int)) (h10 : n ≤ 10) (hz : ml 56 0 = 0 ∧ ml 57 0 = 0) (sp : Nat) (hsp : (V 4).toInt = (sp : Int)) (hs1 : 1 ≤ sp) (hs10 : sp ≤ 10) (S EE : Nat) (xs xe : Int32) (hxs : xs.toInt = (S : Int)) (hS40 : S ≤ 40) (hE : xe.toInt = (EE : Int)) (hE1 : 1 ≤ EE) (xm : Int32) (m : Nat) (hxm : xm.toInt = (m : Int)) (hm : 1 ≤ m ∧ m ≤ 6) : Ct l yX5_countRulers (.code yX5_countRulers cX5_countRulers 4 (some .int)) 8 0 0 [.ref 0, .int xm, .int xs, .int xe] (wl mi ml) (QI (fun r mi9 ml9 => Fr [53, 54, 55] mi mi9 ∧ FLc ml ml9 ∧ (ml9 56 0 = 0 ∧ ml9 57 0 = 0) ∧ CrE V m S EE r.toInt mi9 ml9)) noX := by
  rcases (show m = 1 ∨ m = 2 ∨ m = 3 ∨ m = 4 ∨ m = 5 ∨ m = 6 by omega) with q | q | q | q | q | q <;> subst q
  · exact c_X5_countRulers1 l hfl mi ml V hV hD n hn h10 hz sp hsp hs1 hs10 S EE xs xe hxs hS40 hE hE1 xm hxm
  · exact c_X5_countRulers2 l hfl mi ml V hV hD n hn h10 hz sp hsp hs1 hs10 S EE xs xe hxs hS40 hE hE1 xm hxm
  · exact c_X5_countRulers3 l hfl mi ml V hV hD n hn h10 hz sp hsp hs1 hs10 S EE xs xe hxs hS40 hE hE1 xm hxm
  · exact c_X5_countRulers4 l hfl mi ml V hV hD n hn h10 hz sp hsp hs1 hs10 S EE xs xe hxs hS40 hE hE1 xm hxm
  · exact c_X5_countRulers5 l hfl mi ml V hV hD n hn h10 hz sp hsp hs1 hs10 S EE xs xe hxs hS40 hE hE1 xm hxm
  · exact c_X5_countRulers6 l hfl mi ml V hV hD n hn h10 hz sp hsp hs1 hs10 S EE xs xe hxs hS40 hE hE1 xm hxm
end CL5
