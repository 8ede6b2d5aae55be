section MO19
/-- the least span and its ruler -/
def lsE (V : Nat → Int32) (m : Nat) (r : Int32) (v : Int64) : Prop := (∃ (s : Nat) (R : List Nat), s ≤ 40 ∧ r.toInt = (s : Int) ∧ skFA V m s = some R ∧ v = rbF R ∧ ∀ t, t < s → skFA V m t = none) ∨ (r = -1 ∧ ∀ t, t ≤ 40 → skFA V m t = none)
theorem sk_yes {V : Nat → Int32} {m sp : Nat} {r : Int32} {v : Int64} (h : skE V m sp True r v) (c : 0 < r.toInt) : ∃ R, skFA V m sp = some R ∧ v = rbF R := by
  rcases h.2 trivial with q | q
  · exact q.2
  · rw [q.1] at c; exact absurd c (by decide)
theorem sk_not {V : Nat → Int32} {m sp : Nat} {r : Int32} {v : Int64} (h : skE V m sp True r v) (c : r.toInt ≤ 0) : skFA V m sp = none := by
  rcases h.2 trivial with q | q
  · rw [q.1] at c; exact absurd c (by decide)
  · exact q.2
theorem SM_k {mi mj : MI} {c : Int32} (h : Fr [65, 66, 68] (u2 mi 61 5 c) mj) : SM c mi mj :=
  ⟨Fr.trans (F := [61]) (Fr.rfl'.u (by decide)) h (by decide) (by decide), by rw [h 61 (by decide), u2_n (by omega)], by rw [h 61 (by decide), u2_n (by omega)], by rw [h 61 (by decide), u2_s]⟩
theorem c_X6_seekb (l : Launch) (hfl : l.stackTraces = false) (mi : MI) (ml : MJ) (n : Nat) (hn : (mi 62 5).toInt = (n : Int)) (h10 : n ≤ 10) (hwf : WFV (mi 62)) (xm xs : Int32) (m sp : Nat) (hxm : xm.toInt = (m : Int)) (hxs9 : xs.toInt = (sp : Int)) (hm1 : 1 ≤ m) (hm6 : m ≤ 6) (hs40 : sp ≤ 40) (P : Prop) (xb : Int32) (hxb : xb = bI P) : Ct l yX6_seek (.code yX6_seek cX6_seek 6 (some .int)) 4 0 0 [.ref 61, .int xm, .int xs, .int xb] (wl mi ml) (QI (fun r mi9 ml9 => Fr [65, 66, 68] mi mi9 ∧ FJ ml ml9 ∧ skE (mi 62) m sp P r (ml9 61 11))) noX := by
  subst hxb
  exact c_X6_seek l hfl mi ml n hn h10 hwf xm xs m sp hxm hxs9 hm1 hm6 hs40 P
set_option maxHeartbeats 1600000 in
set_option maxRecDepth 100000 in
theorem c_X6_least (l : Launch) (hfl : l.stackTraces = false) (mi : MI) (ml : MJ) (n : Nat) (hn : (mi 62 5).toInt = (n : Int)) (h10 : n ≤ 10) (hwf : WFV (mi 62)) (xm : Int32) (m : Nat) (hxm : xm.toInt = (m : Int)) (hm1 : 1 ≤ m) (hm6 : m ≤ 6) : Ct l yX6_least (.code yX6_least cX6_least 3 (some .int)) 5 0 0 [.ref 61, .int xm] (wl mi ml) (QI (fun r mi9 ml9 => Fr [65, 66, 68] mi mi9 ∧ FJ ml ml9 ∧ lsE (mi 62) m r (ml9 61 11))) noX := by
  refine Ct_of (ini := false) pn_X6 hfl (fun h => nomatch h) (Nat.le_of_ble_eq_true rfl) ?_
  show E l RX6 cX6_least 3 (some .int) false [] (rmE 5 0 0) (wl mi ml) (TgM (wl mi ml) 0 0 (QI (fun r mi9 ml9 => Fr [65, 66, 68] mi mi9 ∧ FJ ml ml9 ∧ lsE (mi 62) m r (ml9 61 11))) noX) 0 0 0 [(0, .ref 61), (1, .int xm)] [] (wl mi ml)
  refine E_iconst 0 (by decide) dX6_least_0 ?_
  refine E_istore_n [(2, .int 0), (0, .ref 61), (1, .int xm)] dX6_least_1 rfl (by decide) rfl ?_
  have J2 : ∀ (Nm : Nat) (xs : Int32) (sp : Nat) (mj : MI) (mk : MJ), 41 - sp < Nm → xs.toInt = (sp : Int) → sp ≤ 41 → Fr [65, 66, 68] mi mj → FJ ml mk → (∀ t, t < sp → skFA (mi 62) m t = none) → E l RX6 cX6_least 3 (some .int) false [] (rmE 5 0 0) (wl mi ml) (TgM (wl mi ml) 0 0 (QI (fun r mi9 ml9 => Fr [65, 66, 68] mi mi9 ∧ FJ ml ml9 ∧ lsE (mi 62) m r (ml9 61 11))) noX) 0 0 2 [(0, .ref 61), (1, .int xm), (2, .int xs)] [] (wl mj mk) := by
    intro Nm
    induction Nm with
    | zero => intros; omega
    | succ Nm ih2 =>
      intro xs sp mj mk hN2 hxs hs hF hJ hno
      refine E_iload_n 2 dX6_least_2 rfl rfl ?_
      refine E_bipush 40 (by decide) dX6_least_3 ?_
      refine Z_gt (sp : Int) 40 hxs (show (40 : Int32).toInt = 40 from rfl) 26 dX6_least_5 (by decide) (fun c_5 => ?_) (fun c_5 => ?_)
      · skip
        refine E_iconst (-1) (by decide) dX6_least_26 ?_
        refine E_iret rfl (Nat.le_of_ble_eq_true rfl) (Nat.le_of_ble_eq_true rfl) dX6_least_27 ?_
        exact okQI ⟨hF, hJ, Or.inr ⟨rfl, fun t ht => hno t (by omega)⟩⟩
      · skip
        refine E_aload_n 0 dX6_least_8 rfl rfl ?_
        refine E_iload_n 1 dX6_least_9 rfl rfl ?_
        refine E_iload_n 2 dX6_least_10 rfl rfl ?_
        refine E_iconst 1 (by decide) dX6_least_11 ?_
        refine E_callV (c_X6_seekb l hfl mj mk n ((congrArg Int32.toInt (congrFun (hF 62 (by decide)) 5)).trans hn) (by omega) (by rw [show mj 62 = mi 62 from (hF 62 (by decide))]; exact hwf) xm xs m sp (hxm.trans (by omega)) (hxs.trans (by omega)) (by omega) (by omega) (by omega) (True) 1 (b1 trivial)) cw_X6_148 (As := [.int xm, .int xs, .int 1]) (st := []) wi_yX6_seek we_yX6_seek (ci := 6) (q := (RX6, TX6, 23)) rfl rfl (wl_atO tw_61) rfl ⟨Nat.le_of_ble_eq_true rfl, Nat.le_of_ble_eq_true rfl, Nat.le_of_ble_eq_true rfl, Nat.le_of_ble_eq_true rfl⟩ (Nat.le_of_ble_eq_true rfl) dX6_least_12 (fun _ _ h => h) rfl (kI (fun r_12 mi_12 ml_12 h_12 => ?_))
        obtain ⟨hFr_12, hFJ_12, hsk_12⟩ := h_12
        rw [show mj 62 = mi 62 from (hF 62 (by decide))] at hsk_12
        refine Y_le r_12.toInt rfl 20 dX6_least_15 (by decide) (fun c_15 => ?_) (fun c_15 => ?_)
        · skip
          refine E_iinc 2 (xs + 1) [(2, .int (xs + 1)), (0, .ref 61), (1, .int xm)] dX6_least_20 rfl rfl (by decide) rfl ?_
          refine E_goto 2 dX6_least_23 (by decide) ?_
          refine E_sub [1, 2, 0] rfl ?_
          exact ih2 (xs + 1) (sp + 1) mi_12 ml_12 (by omega) ((tI_add hxs (show (1 : Int32).toInt = 1 from rfl) (by omega)).trans (by omega)) (by omega) (hF.trans hFr_12 (by decide) (by decide)) (hJ.t hFJ_12) (lt_s hno (sk_not hsk_12 (by omega)))
        · skip
          refine E_iload_n 2 dX6_least_18 rfl rfl ?_
          refine E_iret rfl (Nat.le_of_ble_eq_true rfl) (Nat.le_of_ble_eq_true rfl) dX6_least_19 ?_
          obtain ⟨R9, hR9, hv9⟩ := sk_yes hsk_12 (by omega)
          exact okQI ⟨hF.trans hFr_12 (by decide) (by decide), hJ.t hFJ_12, Or.inl ⟨sp, R9, by omega, hxs, hR9, hv9, hno⟩⟩
  refine E_sub [1, 2, 0] rfl ?_
  exact J2 _ 0 0 mi ml (Nat.lt_succ_self _) (show (0 : Int32).toInt = 0 from rfl) (by omega) Fr.rfl' FJ.r (fun t h => absurd h (Nat.not_lt_zero t))
set_option maxHeartbeats 1600000 in
set_option maxRecDepth 100000 in
theorem c_X6_leastSpan (l : Launch) (hfl : l.stackTraces = false) (mi : MI) (ml : MJ) (n : Nat) (hn : (mi 62 5).toInt = (n : Int)) (h10 : n ≤ 10) (hwf : WFV (mi 62)) (a : Int32) (A : Int) (hA : a.toInt = A) : Ct l yX6_leastSpan (.code yX6_leastSpan cX6_leastSpan 2 (some .int)) 6 0 0 [.ref 61, .int a] (wl mi ml) (QI (fun r mi9 ml9 => FJ ml ml9 ∧ ((¬ (1 ≤ A ∧ A ≤ 6) ∧ SM 1 mi mi9) ∨ ((1 ≤ A ∧ A ≤ 6) ∧ ∃ m : Nat, A = (m : Int) ∧ SM 0 mi mi9 ∧ lsE (mi 62) m r (ml9 61 11))))) noX := by
  refine Ct_of (ini := false) pn_X6 hfl (fun h => nomatch h) (Nat.le_of_ble_eq_true rfl) ?_
  show E l RX6 cX6_leastSpan 2 (some .int) false [] (rmE 6 0 0) (wl mi ml) (TgM (wl mi ml) 0 0 (QI (fun r mi9 ml9 => FJ ml ml9 ∧ ((¬ (1 ≤ A ∧ A ≤ 6) ∧ SM 1 mi mi9) ∨ ((1 ≤ A ∧ A ≤ 6) ∧ ∃ m : Nat, A = (m : Int) ∧ SM 0 mi mi9 ∧ lsE (mi 62) m r (ml9 61 11))))) noX) 0 0 0 [(0, .ref 61), (1, .int a)] [] (wl mi ml)
  refine E_aload_n 0 dX6_leastSpan_0 rfl rfl ?_
  refine E_iload_n 1 dX6_leastSpan_1 rfl rfl ?_
  refine E_iconst 1 (by decide) dX6_leastSpan_2 ?_
  refine E_bipush 6 (by decide) dX6_leastSpan_3 ?_
  refine E_callS (c_X6_in l hfl mi ml a 1 6 A 1 6 hA (show (1 : Int32).toInt = 1 from rfl) (show (6 : Int32).toInt = 6 from rfl)) cw_X6_53 (As := [.int a, .int 1, .int 6]) (st := [.ref 61]) ws_yX6_in rfl ⟨Nat.le_of_ble_eq_true rfl, Nat.le_of_ble_eq_true rfl, Nat.le_of_ble_eq_true rfl, Nat.le_of_ble_eq_true rfl⟩ (Nat.le_of_ble_eq_true rfl) dX6_leastSpan_5 (fun _ _ h => h) rfl (kE ?_)
  refine B_eq 15 dX6_leastSpan_8 (by decide) (fun c_8 => ?_) (fun c_8 => ?_)
  · skip
    refine E_iconst 1 (by decide) dX6_leastSpan_15 ?_
    refine pf_X6_43 tw_61 rfl dX6_leastSpan_16 ?_
    refine E_aload_n 0 dX6_leastSpan_19 rfl rfl ?_
    refine gf_X6_43 1 tw_61 rfl (u2_s _ _ _ _) dX6_leastSpan_20 ?_
    refine Y_eq 1 (show (1 : Int32).toInt = 1 from rfl) 30 dX6_leastSpan_23 (by decide) (fun c_23 => ?_) (fun c_23 => ?_)
    · exact absurd c_23 (by decide)
    · skip
      refine E_iconst 0 (by decide) dX6_leastSpan_26 ?_
      refine E_goto 35 dX6_leastSpan_27 (by decide) ?_
      refine E_iret rfl (Nat.le_of_ble_eq_true rfl) (Nat.le_of_ble_eq_true rfl) dX6_leastSpan_35 ?_
      exact okQI ⟨FJ.r, Or.inl ⟨c_8, SM_0⟩⟩
  · skip
    refine E_iconst 0 (by decide) dX6_leastSpan_11 ?_
    refine E_goto 16 dX6_leastSpan_12 (by decide) ?_
    refine pf_X6_43 tw_61 rfl dX6_leastSpan_16 ?_
    refine E_aload_n 0 dX6_leastSpan_19 rfl rfl ?_
    refine gf_X6_43 0 tw_61 rfl (u2_s _ _ _ _) dX6_leastSpan_20 ?_
    refine Y_eq 0 (show (0 : Int32).toInt = 0 from rfl) 30 dX6_leastSpan_23 (by decide) (fun c_23 => ?_) (fun c_23 => ?_)
    · skip
      obtain ⟨m, hm9⟩ : ∃ m : Nat, A = (m : Int) := ⟨A.toNat, by omega⟩
      refine E_aload_n 0 dX6_leastSpan_30 rfl rfl ?_
      refine E_iload_n 1 dX6_leastSpan_31 rfl rfl ?_
      refine E_callV (c_X6_least l hfl (u2 mi 61 5 0) ml n ((congrArg Int32.toInt ((u2_n (by omega)).trans rfl)).trans hn) (by omega) (by rw [show (u2 mi 61 5 0) 62 = mi 62 from (u2_p (by decide))]; exact hwf) a m (hA.trans hm9) (by omega) (by omega)) cw_X6_152 (As := [.int a]) (st := []) wi_yX6_least we_yX6_least (ci := 6) (q := (RX6, TX6, 23)) rfl rfl (wl_atO tw_61) rfl ⟨Nat.le_of_ble_eq_true rfl, Nat.le_of_ble_eq_true rfl, Nat.le_of_ble_eq_true rfl, Nat.le_of_ble_eq_true rfl⟩ (Nat.le_of_ble_eq_true rfl) dX6_leastSpan_32 (fun _ _ h => h) rfl (kI (fun r_32 mi_32 ml_32 h_32 => ?_))
      obtain ⟨hFr_32, hFJ_32, hle_32⟩ := h_32
      rw [show (u2 mi 61 5 0) 62 = mi 62 from (u2_p (by decide))] at hle_32
      refine E_iret rfl (Nat.le_of_ble_eq_true rfl) (Nat.le_of_ble_eq_true rfl) dX6_leastSpan_35 ?_
      exact okQI ⟨hFJ_32, Or.inr ⟨c_8, m, hm9, SM_k hFr_32, hle_32⟩⟩
    · exact absurd c_23 (by decide)
set_option maxHeartbeats 1600000 in
set_option maxRecDepth 100000 in
theorem c_X6_bestRuler (l : Launch) (hfl : l.stackTraces = false) (mi : MI) (ml : MJ) (n : Nat) (hn : (mi 62 5).toInt = (n : Int)) (h10 : n ≤ 10) (hwf : WFV (mi 62)) (a : Int32) (A : Int) (hA : a.toInt = A) : Ct l yX6_bestRuler (.code yX6_bestRuler cX6_bestRuler 2 (some .long)) 6 0 0 [.ref 61, .int a] (wl mi ml) (QJ (fun r mi9 ml9 => FJ ml ml9 ∧ ((¬ (1 ≤ A ∧ A ≤ 6) ∧ SM 1 mi mi9) ∨ ((1 ≤ A ∧ A ≤ 6) ∧ ∃ m : Nat, A = (m : Int) ∧ SM 0 mi mi9 ∧ ∃ x : Int32, lsE (mi 62) m x (ml9 61 11) ∧ ((x.toInt = -1 ∧ r = 0) ∨ (x.toInt ≠ -1 ∧ r = ml9 61 11)))))) noX := by
  refine Ct_of (ini := false) pn_X6 hfl (fun h => nomatch h) (Nat.le_of_ble_eq_true rfl) ?_
  show E l RX6 cX6_bestRuler 2 (some .long) false [] (rmE 6 0 0) (wl mi ml) (TgM (wl mi ml) 0 0 (QJ (fun r mi9 ml9 => FJ ml ml9 ∧ ((¬ (1 ≤ A ∧ A ≤ 6) ∧ SM 1 mi mi9) ∨ ((1 ≤ A ∧ A ≤ 6) ∧ ∃ m : Nat, A = (m : Int) ∧ SM 0 mi mi9 ∧ ∃ x : Int32, lsE (mi 62) m x (ml9 61 11) ∧ ((x.toInt = -1 ∧ r = 0) ∨ (x.toInt ≠ -1 ∧ r = ml9 61 11)))))) noX) 0 0 0 [(0, .ref 61), (1, .int a)] [] (wl mi ml)
  refine E_aload_n 0 dX6_bestRuler_0 rfl rfl ?_
  refine E_iload_n 1 dX6_bestRuler_1 rfl rfl ?_
  refine E_iconst 1 (by decide) dX6_bestRuler_2 ?_
  refine E_bipush 6 (by decide) dX6_bestRuler_3 ?_
  refine E_callS (c_X6_in l hfl mi ml a 1 6 A 1 6 hA (show (1 : Int32).toInt = 1 from rfl) (show (6 : Int32).toInt = 6 from rfl)) cw_X6_53 (As := [.int a, .int 1, .int 6]) (st := [.ref 61]) ws_yX6_in rfl ⟨Nat.le_of_ble_eq_true rfl, Nat.le_of_ble_eq_true rfl, Nat.le_of_ble_eq_true rfl, Nat.le_of_ble_eq_true rfl⟩ (Nat.le_of_ble_eq_true rfl) dX6_bestRuler_5 (fun _ _ h => h) rfl (kE ?_)
  refine B_eq 15 dX6_bestRuler_8 (by decide) (fun c_8 => ?_) (fun c_8 => ?_)
  · skip
    refine E_iconst 1 (by decide) dX6_bestRuler_15 ?_
    refine pf_X6_43 tw_61 rfl dX6_bestRuler_16 ?_
    refine E_aload_n 0 dX6_bestRuler_19 rfl rfl ?_
    refine gf_X6_43 1 tw_61 rfl (u2_s _ _ _ _) dX6_bestRuler_20 ?_
    refine Y_eq 1 (show (1 : Int32).toInt = 1 from rfl) 28 dX6_bestRuler_23 (by decide) (fun c_23 => ?_) (fun c_23 => ?_)
    · exact absurd c_23 (by decide)
    · skip
      refine E_lconst 0 rfl dX6_bestRuler_26 ?_
      refine E_lret rfl (Nat.le_of_ble_eq_true rfl) (Nat.le_of_ble_eq_true rfl) dX6_bestRuler_27 ?_
      exact okQJ ⟨FJ.r, Or.inl ⟨c_8, SM_0⟩⟩
  · skip
    refine E_iconst 0 (by decide) dX6_bestRuler_11 ?_
    refine E_goto 16 dX6_bestRuler_12 (by decide) ?_
    refine pf_X6_43 tw_61 rfl dX6_bestRuler_16 ?_
    refine E_aload_n 0 dX6_bestRuler_19 rfl rfl ?_
    refine gf_X6_43 0 tw_61 rfl (u2_s _ _ _ _) dX6_bestRuler_20 ?_
    refine Y_eq 0 (show (0 : Int32).toInt = 0 from rfl) 28 dX6_bestRuler_23 (by decide) (fun c_23 => ?_) (fun c_23 => ?_)
    · skip
      obtain ⟨m, hm9⟩ : ∃ m : Nat, A = (m : Int) := ⟨A.toNat, by omega⟩
      refine E_aload_n 0 dX6_bestRuler_28 rfl rfl ?_
      refine E_iload_n 1 dX6_bestRuler_29 rfl rfl ?_
      refine E_callV (c_X6_least l hfl (u2 mi 61 5 0) ml n ((congrArg Int32.toInt ((u2_n (by omega)).trans rfl)).trans hn) (by omega) (by rw [show (u2 mi 61 5 0) 62 = mi 62 from (u2_p (by decide))]; exact hwf) a m (hA.trans hm9) (by omega) (by omega)) cw_X6_152 (As := [.int a]) (st := []) wi_yX6_least we_yX6_least (ci := 6) (q := (RX6, TX6, 23)) rfl rfl (wl_atO tw_61) rfl ⟨Nat.le_of_ble_eq_true rfl, Nat.le_of_ble_eq_true rfl, Nat.le_of_ble_eq_true rfl, Nat.le_of_ble_eq_true rfl⟩ (Nat.le_of_ble_eq_true rfl) dX6_bestRuler_30 (fun _ _ h => h) rfl (kI (fun r_30 mi_30 ml_30 h_30 => ?_))
      obtain ⟨hFr_30, hFJ_30, hle_30⟩ := h_30
      rw [show (u2 mi 61 5 0) 62 = mi 62 from (u2_p (by decide))] at hle_30
      refine E_iconst (-1) (by decide) dX6_bestRuler_33 ?_
      refine Z_ne r_30.toInt (-1) rfl (show ((-1) : Int32).toInt = (-1) from rfl) 41 dX6_bestRuler_34 (by decide) (fun c_34 => ?_) (fun c_34 => ?_)
      · skip
        refine E_aload_n 0 dX6_bestRuler_41 rfl rfl ?_
        refine gf_X6_141 (ml_30 61 11) tw_61 rfl rfl dX6_bestRuler_42 ?_
        refine E_lret rfl (Nat.le_of_ble_eq_true rfl) (Nat.le_of_ble_eq_true rfl) dX6_bestRuler_45 ?_
        exact okQJ ⟨hFJ_30, Or.inr ⟨c_8, m, hm9, SM_k hFr_30, r_30, hle_30, Or.inr ⟨c_34, rfl⟩⟩⟩
      · skip
        refine E_lconst 0 rfl dX6_bestRuler_37 ?_
        refine E_goto 45 dX6_bestRuler_38 (by decide) ?_
        refine E_lret rfl (Nat.le_of_ble_eq_true rfl) (Nat.le_of_ble_eq_true rfl) dX6_bestRuler_45 ?_
        exact okQJ ⟨hFJ_30, Or.inr ⟨c_8, m, hm9, SM_k hFr_30, r_30, hle_30, Or.inl ⟨c_34, rfl⟩⟩⟩
    · exact absurd c_23 (by decide)
set_option maxHeartbeats 1600000 in
set_option maxRecDepth 100000 in
theorem c_X6_rulers (l : Launch) (hfl : l.stackTraces = false) (mi : MI) (ml : MJ) (n : Nat) (hn : (mi 62 5).toInt = (n : Int)) (h10 : n ≤ 10) (hwf : WFV (mi 62)) (a b : Int32) (A S : Int) (hA : a.toInt = A) (hB : b.toInt = S) : Ct l yX6_rulers (.code yX6_rulers cX6_rulers 3 (some .int)) 5 0 0 [.ref 61, .int a, .int b] (wl mi ml) (QI (fun r mi9 ml9 => FJ ml ml9 ∧ ((¬ ((1 ≤ A ∧ A ≤ 5) ∧ (0 ≤ S ∧ S ≤ 40)) ∧ SM 1 mi mi9) ∨ (((1 ≤ A ∧ A ≤ 5) ∧ (0 ≤ S ∧ S ≤ 40)) ∧ ∃ m sp : Nat, A = (m : Int) ∧ S = (sp : Int) ∧ SM 0 mi mi9 ∧ r.toInt = (skCA (mi 62) m sp : Int))))) noX := by
  refine Ct_of (ini := false) pn_X6 hfl (fun h => nomatch h) (Nat.le_of_ble_eq_true rfl) ?_
  show E l RX6 cX6_rulers 3 (some .int) false [] (rmE 5 0 0) (wl mi ml) (TgM (wl mi ml) 0 0 (QI (fun r mi9 ml9 => FJ ml ml9 ∧ ((¬ ((1 ≤ A ∧ A ≤ 5) ∧ (0 ≤ S ∧ S ≤ 40)) ∧ SM 1 mi mi9) ∨ (((1 ≤ A ∧ A ≤ 5) ∧ (0 ≤ S ∧ S ≤ 40)) ∧ ∃ m sp : Nat, A = (m : Int) ∧ S = (sp : Int) ∧ SM 0 mi mi9 ∧ r.toInt = (skCA (mi 62) m sp : Int))))) noX) 0 0 0 [(0, .ref 61), (1, .int a), (2, .int b)] [] (wl mi ml)
  refine E_aload_n 0 dX6_rulers_0 rfl rfl ?_
  refine E_iload_n 1 dX6_rulers_1 rfl rfl ?_
  refine E_iconst 1 (by decide) dX6_rulers_2 ?_
  refine E_iconst 5 (by decide) dX6_rulers_3 ?_
  refine E_callS (c_X6_in l hfl mi ml a 1 5 A 1 5 hA (show (1 : Int32).toInt = 1 from rfl) (show (5 : Int32).toInt = 5 from rfl)) cw_X6_53 (As := [.int a, .int 1, .int 5]) (st := [.ref 61]) ws_yX6_in rfl ⟨Nat.le_of_ble_eq_true rfl, Nat.le_of_ble_eq_true rfl, Nat.le_of_ble_eq_true rfl, Nat.le_of_ble_eq_true rfl⟩ (Nat.le_of_ble_eq_true rfl) dX6_rulers_4 (fun _ _ h => h) rfl (kE ?_)
  refine B_eq 24 dX6_rulers_7 (by decide) (fun c_7 => ?_) (fun c_7 => ?_)
  · skip
    refine E_iconst 1 (by decide) dX6_rulers_24 ?_
    refine pf_X6_43 tw_61 rfl dX6_rulers_25 ?_
    refine E_aload_n 0 dX6_rulers_28 rfl rfl ?_
    refine gf_X6_43 1 tw_61 rfl (u2_s _ _ _ _) dX6_rulers_29 ?_
    refine Y_eq 1 (show (1 : Int32).toInt = 1 from rfl) 39 dX6_rulers_32 (by decide) (fun c_32 => ?_) (fun c_32 => ?_)
    · exact absurd c_32 (by decide)
    · skip
      refine E_iconst 0 (by decide) dX6_rulers_35 ?_
      refine E_goto 46 dX6_rulers_36 (by decide) ?_
      refine E_iret rfl (Nat.le_of_ble_eq_true rfl) (Nat.le_of_ble_eq_true rfl) dX6_rulers_46 ?_
      exact okQI ⟨FJ.r, Or.inl ⟨by first | exact fun q => c_7 q.1 | exact fun q => c_17 q.2, SM_0⟩⟩
  · skip
    refine E_iload_n 2 dX6_rulers_10 rfl rfl ?_
    refine E_iconst 0 (by decide) dX6_rulers_11 ?_
    refine E_bipush 40 (by decide) dX6_rulers_12 ?_
    refine E_callS (c_X6_in l hfl mi ml b 0 40 S 0 40 hB (show (0 : Int32).toInt = 0 from rfl) (show (40 : Int32).toInt = 40 from rfl)) cw_X6_53 (As := [.int b, .int 0, .int 40]) (st := [.ref 61]) ws_yX6_in rfl ⟨Nat.le_of_ble_eq_true rfl, Nat.le_of_ble_eq_true rfl, Nat.le_of_ble_eq_true rfl, Nat.le_of_ble_eq_true rfl⟩ (Nat.le_of_ble_eq_true rfl) dX6_rulers_14 (fun _ _ h => h) rfl (kE ?_)
    refine B_eq 24 dX6_rulers_17 (by decide) (fun c_17 => ?_) (fun c_17 => ?_)
    · skip
      refine E_iconst 1 (by decide) dX6_rulers_24 ?_
      refine pf_X6_43 tw_61 rfl dX6_rulers_25 ?_
      refine E_aload_n 0 dX6_rulers_28 rfl rfl ?_
      refine gf_X6_43 1 tw_61 rfl (u2_s _ _ _ _) dX6_rulers_29 ?_
      refine Y_eq 1 (show (1 : Int32).toInt = 1 from rfl) 39 dX6_rulers_32 (by decide) (fun c_32 => ?_) (fun c_32 => ?_)
      · exact absurd c_32 (by decide)
      · skip
        refine E_iconst 0 (by decide) dX6_rulers_35 ?_
        refine E_goto 46 dX6_rulers_36 (by decide) ?_
        refine E_iret rfl (Nat.le_of_ble_eq_true rfl) (Nat.le_of_ble_eq_true rfl) dX6_rulers_46 ?_
        exact okQI ⟨FJ.r, Or.inl ⟨by first | exact fun q => c_7 q.1 | exact fun q => c_17 q.2, SM_0⟩⟩
    · skip
      refine E_iconst 0 (by decide) dX6_rulers_20 ?_
      refine E_goto 25 dX6_rulers_21 (by decide) ?_
      refine pf_X6_43 tw_61 rfl dX6_rulers_25 ?_
      refine E_aload_n 0 dX6_rulers_28 rfl rfl ?_
      refine gf_X6_43 0 tw_61 rfl (u2_s _ _ _ _) dX6_rulers_29 ?_
      refine Y_eq 0 (show (0 : Int32).toInt = 0 from rfl) 39 dX6_rulers_32 (by decide) (fun c_32 => ?_) (fun c_32 => ?_)
      · skip
        obtain ⟨m, hm9⟩ : ∃ m : Nat, A = (m : Int) := ⟨A.toNat, by omega⟩
        obtain ⟨sp, hs9⟩ : ∃ q : Nat, S = (q : Int) := ⟨S.toNat, by omega⟩
        refine E_aload_n 0 dX6_rulers_39 rfl rfl ?_
        refine E_iload_n 1 dX6_rulers_40 rfl rfl ?_
        refine E_iload_n 2 dX6_rulers_41 rfl rfl ?_
        refine E_iconst 0 (by decide) dX6_rulers_42 ?_
        refine E_callV (c_X6_seekb l hfl (u2 mi 61 5 0) ml n ((congrArg Int32.toInt ((u2_n (by omega)).trans rfl)).trans hn) (by omega) (by rw [show (u2 mi 61 5 0) 62 = mi 62 from (u2_p (by decide))]; exact hwf) a b m sp (hA.trans hm9) (hB.trans hs9) (by omega) (by omega) (by omega) (False) 0 (b0 not_false)) cw_X6_148 (As := [.int a, .int b, .int 0]) (st := []) wi_yX6_seek we_yX6_seek (ci := 6) (q := (RX6, TX6, 23)) rfl rfl (wl_atO tw_61) rfl ⟨Nat.le_of_ble_eq_true rfl, Nat.le_of_ble_eq_true rfl, Nat.le_of_ble_eq_true rfl, Nat.le_of_ble_eq_true rfl⟩ (Nat.le_of_ble_eq_true rfl) dX6_rulers_43 (fun _ _ h => h) rfl (kI (fun r_43 mi_43 ml_43 h_43 => ?_))
        obtain ⟨hFr_43, hFJ_43, hsk_43⟩ := h_43
        rw [show (u2 mi 61 5 0) 62 = mi 62 from (u2_p (by decide))] at hsk_43
        refine E_iret rfl (Nat.le_of_ble_eq_true rfl) (Nat.le_of_ble_eq_true rfl) dX6_rulers_46 ?_
        exact okQI ⟨hFJ_43, Or.inr ⟨⟨c_7, c_17⟩, m, sp, hm9, hs9, SM_k hFr_43, hsk_43.1 not_false⟩⟩
      · exact absurd c_32 (by decide)
end MO19
