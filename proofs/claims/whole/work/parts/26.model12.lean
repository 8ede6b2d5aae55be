section MO12
theorem lg_0 {a b : Int64} (h : (lg_cmp a b).toInt = 0) : a = b := (lg_cmp_eq a b).mp (Int32.toInt_inj.mp h)
theorem lg_1 {a b : Int64} (h : (lg_cmp a b).toInt ≠ 0) : a ≠ b := fun q => h (congrArg Int32.toInt ((lg_cmp_eq a b).mpr q))
/-- does mixer k make a product on the channel, with these carriers active -/
def hbP (V : Nat → Int32) (n act ch k : Nat) : Prop := ((foA (DV V) (prV V ((V (27 + k)).toInt.toNat &&& act) n) (prV V ((V (27 + k)).toInt.toNat &&& act) n).length >>> ((nI ch).toInt64 &&& 63)) &&& 1) = 1
noncomputable def hbS (V : Nat → Int32) (n act ch : Nat) : Nat → Nat
  | 0 => 0
  | k + 1 => hbS V n act ch k + ifp (hbP V n act ch k) (2 ^ k) 0
theorem hbS_lt (V : Nat → Int32) (n act ch : Nat) : ∀ k, hbS V n act ch k < 2 ^ k
  | 0 => Nat.lt_succ_self 0
  | k + 1 => by
    have ih := hbS_lt V n act ch k
    rw [hbS, Nat.pow_succ]
    rcases Classical.em (hbP V n act ch k) with h | h
    · rw [ifp_t h]; omega
    · rw [ifp_f h]; omega
theorem hb_or : ∀ k, k < 5 → ∀ a, a < 2 ^ k → (nI a ||| ((1 : Int32) <<< (nI k &&& 31))) = nI (a + 2 ^ k) := by decide +kernel
theorem hb_or0 : ∀ a, a < 32 → (nI a ||| (0 : Int32)) = nI (a + 0) := by decide +kernel
theorem p2_5 {k : Nat} (h : k ≤ 5) : 2 ^ k ≤ 32 := Nat.pow_le_pow_right (by omega) h
theorem hb_y {V : Nat → Int32} {n act ch k : Nat} {x y : Int32} (hx : x.toInt = (hbS V n act ch k : Int)) (hy : y.toInt = (k : Int)) (hk : k < 5) (h : hbP V n act ch k) : (x ||| ((1 : Int32) <<< (y &&& 31))).toInt = (hbS V n act ch (k + 1) : Int) := by
  rw [tI_nIx hx, tI_nIx hy, hb_or k hk _ (hbS_lt V n act ch k), hbS, ifp_t h]
  have h1 := hbS_lt V n act ch k
  have h2 := p2_5 (show k ≤ 5 by omega)
  exact tI_nI (by omega)
theorem hb_n {V : Nat → Int32} {n act ch k : Nat} {x : Int32} (hx : x.toInt = (hbS V n act ch k : Int)) (hk : k < 5) (h : ¬ hbP V n act ch k) : (x ||| (0 : Int32)).toInt = (hbS V n act ch (k + 1) : Int) := by
  have h1 := hbS_lt V n act ch k
  have h2 := p2_5 (show k ≤ 5 by omega)
  rw [tI_nIx hx, hb_or0 _ (by omega), hbS, ifp_f h]
  exact tI_nI (by omega)
theorem hbP_iff {V : Nat → Int32} {n act ch k mk : Nat} {x : Int32} {r : Int64} (hx : x.toInt = (ch : Int)) (hmk : (V (27 + k)).toInt = (mk : Int)) (hr : r = foA (DV V) (prV V (mk &&& act) n) (prV V (mk &&& act) n).length) : ((r >>> (x.toInt64 &&& 63)) &&& 1) = 1 ↔ hbP V n act ch k := by
  have e : (V (27 + k)).toInt.toNat = mk := by omega
  subst hr
  rw [tI_nIx hx, hbP, e]
set_option maxHeartbeats 1600000 in
set_option maxRecDepth 100000 in
theorem c_X6_heardBy (l : Launch) (hfl : l.stackTraces = false) (mi : MI) (ml : MJ) (n : Nat) (hn : (mi 62 5).toInt = (n : Int)) (h10 : n ≤ 10) (hwf : WFV (mi 62)) (nm : Nat) (hnm : (mi 62 26).toInt = (nm : Int)) (hm5 : nm ≤ 5) (xa xc : Int32) (act ch : Nat) (hxa : xa.toInt = (act : Int)) (hxc : xc.toInt = (ch : Int)) (ha : act < 1024) (hc : ch < 64) : Ct l yX6_heardBy (.code yX6_heardBy cX6_heardBy 5 (some .int)) 6 0 0 [.ref 61, .int xa, .int xc] (wl mi ml) (QI (fun r mi9 ml9 => ml = ml9 ∧ Fr [61, 65, 66, 67] mi mi9 ∧ (∀ k, k ≠ 9 → mi9 61 k = mi 61 k) ∧ r.toInt = (hbS (mi 62) n act ch nm : Int))) noX := by
  refine Ct_of (ini := false) pn_X6 hfl (fun h => nomatch h) (Nat.le_of_ble_eq_true rfl) ?_
  show E l RX6 cX6_heardBy 5 (some .int) false [] (rmE 6 0 0) (wl mi ml) (TgM (wl mi ml) 0 0 (QI (fun r mi9 ml9 => ml = ml9 ∧ Fr [61, 65, 66, 67] mi mi9 ∧ (∀ k, k ≠ 9 → mi9 61 k = mi 61 k) ∧ r.toInt = (hbS (mi 62) n act ch nm : Int))) noX) 0 0 0 [(0, .ref 61), (1, .int xa), (2, .int xc)] [] (wl mi ml)
  refine E_iconst 0 (by decide) dX6_heardBy_0 ?_
  refine E_istore_n [(3, .int 0), (0, .ref 61), (1, .int xa), (2, .int xc)] dX6_heardBy_1 rfl (by decide) rfl ?_
  refine E_iconst 0 (by decide) dX6_heardBy_2 ?_
  refine E_istore [(4, .int 0), (3, .int 0), (0, .ref 61), (1, .int xa), (2, .int xc)] dX6_heardBy_3 (by decide) rfl ?_
  have J5 : ∀ (Nm : Nat) (xi xs : Int32) (i : Nat) (mj : MI), nm - i < Nm → xi.toInt = (i : Int) → xs.toInt = (hbS (mi 62) n act ch i : Int) → i ≤ nm → Fr [61, 65, 66, 67] mi mj → (∀ k, k ≠ 9 → mj 61 k = mi 61 k) → E l RX6 cX6_heardBy 5 (some .int) false [] (rmE 6 0 0) (wl mi ml) (TgM (wl mi ml) 0 0 (QI (fun r mi9 ml9 => ml = ml9 ∧ Fr [61, 65, 66, 67] mi mi9 ∧ (∀ k, k ≠ 9 → mi9 61 k = mi 61 k) ∧ r.toInt = (hbS (mi 62) n act ch nm : Int))) noX) 0 0 5 [(0, .ref 61), (1, .int xa), (2, .int xc), (3, .int xs), (4, .int xi)] [] (wl mj ml) := by
    intro Nm
    induction Nm with
    | zero => intros; omega
    | succ Nm ih5 =>
      intro xi xs i mj hN5 hxi hxs hi hF h61
      refine E_iload 4 dX6_heardBy_5 rfl ?_
      refine E_aload_n 0 dX6_heardBy_7 rfl rfl ?_
      refine gf_X6_7 tw_61 rfl dX6_heardBy_8 ?_
      refine E_bipush 26 (by decide) dX6_heardBy_11 ?_
      refine S_iald 26 (mi 62 26) tw_62 rfl (by decide) (congrFun (hF 62 (by decide)) 26) dX6_heardBy_13 ?_
      refine Z_ge (i : Int) (nm : Int) hxi hnm 59 dX6_heardBy_14 (by decide) (fun c_14 => ?_) (fun c_14 => ?_)
      · skip
        refine E_iload_n 3 dX6_heardBy_59 rfl rfl ?_
        refine E_iret rfl (Nat.le_of_ble_eq_true rfl) (Nat.le_of_ble_eq_true rfl) dX6_heardBy_60 ?_
        exact okQI ⟨rfl, hF, h61, hxs.trans (by rw [show i = nm by omega])⟩
      · skip
        have bm := hwf.2.2.2.2.1 i (by omega)
        have h1024 := Nat.pow_le_pow_right (show 0 < 2 by omega) h10
        obtain ⟨mk9, hmk9⟩ : ∃ q : Nat, (mi 62 (27 + i)).toInt = (q : Int) := ⟨(mi 62 (27 + i)).toInt.toNat, by omega⟩
        have hmk8 : mk9 < 1024 := by rw [hn] at bm; simp only [Int.toNat_natCast] at bm; omega
        refine E_iload_n 3 dX6_heardBy_17 rfl rfl ?_
        refine E_aload_n 0 dX6_heardBy_18 rfl rfl ?_
        refine E_aload_n 0 dX6_heardBy_19 rfl rfl ?_
        refine gf_X6_7 tw_61 rfl dX6_heardBy_20 ?_
        refine E_bipush 27 (by decide) dX6_heardBy_23 ?_
        refine E_iload 4 dX6_heardBy_25 rfl ?_
        refine E_iadd dX6_heardBy_27 ?_
        refine S_iald (27 + i) (mi 62 (27 + i)) tw_62 ((tI_add (show (27 : Int32).toInt = 27 from rfl) hxi (by omega)).trans (by omega)) (by omega) (congrFun (hF 62 (by decide)) (27 + i)) dX6_heardBy_28 ?_
        refine E_iload_n 1 dX6_heardBy_29 rfl rfl ?_
        refine E_iand dX6_heardBy_30 ?_
        rw [show ((mi 62 (27 + i)) &&& xa) = (nI (mk9 &&& act)) from (by rw [tI_nIx hmk9, tI_nIx hxa]; exact nx_and _ _)]
        refine E_callV (c_X6_falloutOf l hfl mj ml n ((congrArg Int32.toInt (congrFun (hF 62 (by decide)) 5)).trans hn) (by omega) (by rw [show mj 62 = mi 62 from (hF 62 (by decide))]; exact hwf) (nI (mk9 &&& act)) (mk9 &&& act) ((tI_nI (Nat.lt_of_le_of_lt Nat.and_le_left (by omega))).trans (by omega)) (Nat.lt_of_le_of_lt Nat.and_le_left hmk8)) cw_X6_116 (As := [.int (nI (mk9 &&& act))]) (st := [.int xs]) wi_yX6_falloutOf we_yX6_falloutOf (ci := 6) (q := (RX6, TX6, 23)) rfl rfl (wl_atO tw_61) rfl ⟨Nat.le_of_ble_eq_true rfl, Nat.le_of_ble_eq_true rfl, Nat.le_of_ble_eq_true rfl, Nat.le_of_ble_eq_true rfl⟩ (Nat.le_of_ble_eq_true rfl) dX6_heardBy_31 (fun _ _ h => h) rfl (kJ (fun r_31 mi_31 ml_31 h_31 => ?_))
        obtain ⟨hl9_31, hFr_31, h61_31, hfo_31⟩ := h_31
        subst hl9_31
        rw [show mj 62 = mi 62 from (hF 62 (by decide))] at hfo_31
        have hP9 := hbP_iff hxc hmk9 hfo_31
        refine E_iload_n 2 dX6_heardBy_34 rfl rfl ?_
        refine E_lshr dX6_heardBy_35 ?_
        refine E_lconst 1 rfl dX6_heardBy_36 ?_
        refine E_land dX6_heardBy_37 ?_
        refine E_lconst 1 rfl dX6_heardBy_38 ?_
        refine E_lcmp dX6_heardBy_39 ?_
        refine Y_ne ((lg_cmp ((r_31 >>> (xc.toInt64 &&& 63)) &&& 1) 1).toInt) rfl 50 dX6_heardBy_40 (by decide) (fun c_40 => ?_) (fun c_40 => ?_)
        · skip
          refine E_iconst 0 (by decide) dX6_heardBy_50 ?_
          refine E_ior dX6_heardBy_51 ?_
          refine E_istore_n [(3, .int (xs ||| (0 : Int32))), (0, .ref 61), (1, .int xa), (2, .int xc), (4, .int xi)] dX6_heardBy_52 rfl (by decide) rfl ?_
          refine E_iinc 4 (xi + 1) [(4, .int (xi + 1)), (3, .int (xs ||| (0 : Int32))), (0, .ref 61), (1, .int xa), (2, .int xc)] dX6_heardBy_53 rfl rfl (by decide) rfl ?_
          refine E_goto 5 dX6_heardBy_56 (by decide) ?_
          refine E_sub [2, 3, 4, 1, 0] rfl ?_
          exact ih5 (xi + 1) (xs ||| (0 : Int32)) (i + 1) mi_31 (by omega) ((tI_add hxi (show (1 : Int32).toInt = 1 from rfl) (by omega)).trans (by omega)) (hb_n hxs (by omega) (fun q => lg_1 c_40 (hP9.mpr q))) (by omega) (hF.trans hFr_31 (by decide) (by decide)) (fun k hk => (h61_31 k hk).trans (h61 k hk))
        · skip
          refine E_iconst 1 (by decide) dX6_heardBy_43 ?_
          refine E_iload 4 dX6_heardBy_44 rfl ?_
          refine E_ishl dX6_heardBy_46 ?_
          refine E_goto 51 dX6_heardBy_47 (by decide) ?_
          refine E_ior dX6_heardBy_51 ?_
          refine E_istore_n [(3, .int (xs ||| ((1 : Int32) <<< (xi &&& 31)))), (0, .ref 61), (1, .int xa), (2, .int xc), (4, .int xi)] dX6_heardBy_52 rfl (by decide) rfl ?_
          refine E_iinc 4 (xi + 1) [(4, .int (xi + 1)), (3, .int (xs ||| ((1 : Int32) <<< (xi &&& 31)))), (0, .ref 61), (1, .int xa), (2, .int xc)] dX6_heardBy_53 rfl rfl (by decide) rfl ?_
          refine E_goto 5 dX6_heardBy_56 (by decide) ?_
          refine E_sub [2, 3, 4, 1, 0] rfl ?_
          exact ih5 (xi + 1) (xs ||| ((1 : Int32) <<< (xi &&& 31))) (i + 1) mi_31 (by omega) ((tI_add hxi (show (1 : Int32).toInt = 1 from rfl) (by omega)).trans (by omega)) (hb_y hxs hxi (by omega) (hP9.mp (lg_0 c_40))) (by omega) (hF.trans hFr_31 (by decide) (by decide)) (fun k hk => (h61_31 k hk).trans (h61 k hk))
  refine E_sub [2, 3, 4, 1, 0] rfl ?_
  exact J5 _ 0 0 0 mi (Nat.lt_succ_self _) (show (0 : Int32).toInt = 0 from rfl) (show (0 : Int32).toInt = 0 from rfl) (Nat.zero_le _) Fr.rfl' (fun _ _ => rfl)
set_option maxHeartbeats 1600000 in
set_option maxRecDepth 100000 in
theorem c_X6_heard (l : Launch) (hfl : l.stackTraces = false) (mi : MI) (ml : MJ) (n : Nat) (hn : (mi 62 5).toInt = (n : Int)) (h10 : n ≤ 10) (hwf : WFV (mi 62)) (nm : Nat) (hnm : (mi 62 26).toInt = (nm : Int)) (hm5 : nm ≤ 5) (a c : Int32) (A C : Int) (hA : a.toInt = A) (hC : c.toInt = C) : Ct l yX6_heard (.code yX6_heard cX6_heard 3 (some .int)) 7 0 0 [.ref 61, .int a, .int c] (wl mi ml) (QI (fun r mi9 ml9 => ml = ml9 ∧ ((¬ ((0 ≤ A ∧ A ≤ ((2 ^ n - 1 : Nat) : Int)) ∧ (0 ≤ C ∧ C ≤ 63)) ∧ SM 1 mi mi9) ∨ ((0 ≤ A ∧ A ≤ ((2 ^ n - 1 : Nat) : Int)) ∧ ∃ (s h : Nat), A = (s : Int) ∧ C = (h : Int) ∧ h < 64 ∧ SM 0 mi mi9 ∧ r.toInt = (hbS (mi 62) n s h nm : Int))))) noX := by
  refine Ct_of (ini := false) pn_X6 hfl (fun h => nomatch h) (Nat.le_of_ble_eq_true rfl) ?_
  show E l RX6 cX6_heard 3 (some .int) false [] (rmE 7 0 0) (wl mi ml) (TgM (wl mi ml) 0 0 (QI (fun r mi9 ml9 => ml = ml9 ∧ ((¬ ((0 ≤ A ∧ A ≤ ((2 ^ n - 1 : Nat) : Int)) ∧ (0 ≤ C ∧ C ≤ 63)) ∧ SM 1 mi mi9) ∨ ((0 ≤ A ∧ A ≤ ((2 ^ n - 1 : Nat) : Int)) ∧ ∃ (s h : Nat), A = (s : Int) ∧ C = (h : Int) ∧ h < 64 ∧ SM 0 mi mi9 ∧ r.toInt = (hbS (mi 62) n s h nm : Int))))) noX) 0 0 0 [(0, .ref 61), (1, .int a), (2, .int c)] [] (wl mi ml)
  refine E_aload_n 0 dX6_heard_0 rfl rfl ?_
  refine E_aload_n 0 dX6_heard_1 rfl rfl ?_
  refine E_iload_n 1 dX6_heard_2 rfl rfl ?_
  refine E_callV (c_X6_isSet l hfl mi ml n hn (by omega) a A hA) cw_X6_113 (As := [.int a]) (st := [.ref 61]) wi_yX6_isSet we_yX6_isSet (ci := 6) (q := (RX6, TX6, 23)) rfl rfl (wl_atO tw_61) rfl ⟨Nat.le_of_ble_eq_true rfl, Nat.le_of_ble_eq_true rfl, Nat.le_of_ble_eq_true rfl, Nat.le_of_ble_eq_true rfl⟩ (Nat.le_of_ble_eq_true rfl) dX6_heard_3 (fun _ _ h => h) rfl (kE ?_)
  refine B_eq 20 dX6_heard_6 (by decide) (fun c_6 => ?_) (fun c_6 => ?_)
  · skip
    refine E_iconst 1 (by decide) dX6_heard_20 ?_
    refine pf_X6_43 tw_61 rfl dX6_heard_21 ?_
    refine E_aload_n 0 dX6_heard_24 rfl rfl ?_
    refine gf_X6_43 1 tw_61 rfl (u2_s _ _ _ _) dX6_heard_25 ?_
    refine Y_eq 1 (show (1 : Int32).toInt = 1 from rfl) 35 dX6_heard_28 (by decide) (fun c_28 => ?_) (fun c_28 => ?_)
    · exact absurd c_28 (by decide)
    · skip
      refine E_iconst 0 (by decide) dX6_heard_31 ?_
      refine E_goto 41 dX6_heard_32 (by decide) ?_
      refine E_iret rfl (Nat.le_of_ble_eq_true rfl) (Nat.le_of_ble_eq_true rfl) dX6_heard_41 ?_
      exact okQI ⟨rfl, Or.inl ⟨by first | exact fun q => c_6 q.1 | exact fun q => c_13 q.2, SM_0⟩⟩
  · skip
    refine E_iload_n 2 dX6_heard_9 rfl rfl ?_
    refine E_callS (c_X6_isChannel l hfl mi ml c C hC) cw_X6_61 (As := [.int c]) (st := [.ref 61]) ws_yX6_isChannel rfl ⟨Nat.le_of_ble_eq_true rfl, Nat.le_of_ble_eq_true rfl, Nat.le_of_ble_eq_true rfl, Nat.le_of_ble_eq_true rfl⟩ (Nat.le_of_ble_eq_true rfl) dX6_heard_10 (fun _ _ h => h) rfl (kE ?_)
    refine B_eq 20 dX6_heard_13 (by decide) (fun c_13 => ?_) (fun c_13 => ?_)
    · skip
      refine E_iconst 1 (by decide) dX6_heard_20 ?_
      refine pf_X6_43 tw_61 rfl dX6_heard_21 ?_
      refine E_aload_n 0 dX6_heard_24 rfl rfl ?_
      refine gf_X6_43 1 tw_61 rfl (u2_s _ _ _ _) dX6_heard_25 ?_
      refine Y_eq 1 (show (1 : Int32).toInt = 1 from rfl) 35 dX6_heard_28 (by decide) (fun c_28 => ?_) (fun c_28 => ?_)
      · exact absurd c_28 (by decide)
      · skip
        refine E_iconst 0 (by decide) dX6_heard_31 ?_
        refine E_goto 41 dX6_heard_32 (by decide) ?_
        refine E_iret rfl (Nat.le_of_ble_eq_true rfl) (Nat.le_of_ble_eq_true rfl) dX6_heard_41 ?_
        exact okQI ⟨rfl, Or.inl ⟨by first | exact fun q => c_6 q.1 | exact fun q => c_13 q.2, SM_0⟩⟩
    · skip
      refine E_iconst 0 (by decide) dX6_heard_16 ?_
      refine E_goto 21 dX6_heard_17 (by decide) ?_
      refine pf_X6_43 tw_61 rfl dX6_heard_21 ?_
      refine E_aload_n 0 dX6_heard_24 rfl rfl ?_
      refine gf_X6_43 0 tw_61 rfl (u2_s _ _ _ _) dX6_heard_25 ?_
      refine Y_eq 0 (show (0 : Int32).toInt = 0 from rfl) 35 dX6_heard_28 (by decide) (fun c_28 => ?_) (fun c_28 => ?_)
      · skip
        obtain ⟨s, hs9⟩ : ∃ s : Nat, A = (s : Int) := ⟨A.toNat, by omega⟩
        obtain ⟨h, hh9⟩ : ∃ h : Nat, C = (h : Int) := ⟨C.toNat, by omega⟩
        have hs10 : s < 1024 := by have := Nat.pow_le_pow_right (show 0 < 2 by omega) h10; omega
        refine E_aload_n 0 dX6_heard_35 rfl rfl ?_
        refine E_iload_n 1 dX6_heard_36 rfl rfl ?_
        refine E_iload_n 2 dX6_heard_37 rfl rfl ?_
        refine E_callV (c_X6_heardBy l hfl (u2 mi 61 5 0) ml n ((congrArg Int32.toInt ((u2_n (by omega)).trans rfl)).trans hn) (by omega) (by rw [show (u2 mi 61 5 0) 62 = mi 62 from (u2_p (by decide))]; exact hwf) nm ((congrArg Int32.toInt ((u2_n (by omega)).trans rfl)).trans hnm) (by omega) a c s h (hA.trans (by omega)) (hC.trans (by omega)) hs10 (by omega)) cw_X6_161 (As := [.int a, .int c]) (st := []) wi_yX6_heardBy we_yX6_heardBy (ci := 6) (q := (RX6, TX6, 23)) rfl rfl (wl_atO tw_61) rfl ⟨Nat.le_of_ble_eq_true rfl, Nat.le_of_ble_eq_true rfl, Nat.le_of_ble_eq_true rfl, Nat.le_of_ble_eq_true rfl⟩ (Nat.le_of_ble_eq_true rfl) dX6_heard_38 (fun _ _ h => h) rfl (kI (fun r_38 mi_38 ml_38 h_38 => ?_))
        obtain ⟨hl9_38, hFr_38, h61_38, hhb_38⟩ := h_38
        subst hl9_38
        rw [show (u2 mi 61 5 0) 62 = mi 62 from (u2_p (by decide))] at hhb_38
        refine E_iret rfl (Nat.le_of_ble_eq_true rfl) (Nat.le_of_ble_eq_true rfl) dX6_heard_41 ?_
        exact okQI ⟨rfl, Or.inr ⟨c_6, s, h, hs9, hh9, by omega, SM_l hFr_38 h61_38, hhb_38⟩⟩
      · exact absurd c_28 (by decide)
end MO12
