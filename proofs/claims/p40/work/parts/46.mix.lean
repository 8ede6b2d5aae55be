section MIX
theorem ii_bit {w : Int64} {x : Int32} {j : Nat} (hx : x.toInt = (j : Int)) (hj : j < 64) : ((w.toUInt64 >>> (x.toInt64.toUInt64 &&& Int64.toUInt64 63)).toInt64 &&& 1) = 0 ↔ lb w j = false := by
  rw [tI_nIx hx, wb_cu j hj]
  exact ts_bit hj (u_tn (by omega))
theorem lb_i2l {x : Int32} {s j : Nat} (hx : x.toInt = (s : Int)) (hj : j < 64) : lb x.toInt64 j = s.testBit j := by
  have h9 := tI_rng x
  have e : x.toInt64 = lN s := by
    rw [tI_nIx hx]
    apply Int64.toInt_inj.mp
    rw [lN_toInt (by omega), Int32.toInt_toInt64, tI_nI (by omega)]
  rw [e]
  unfold lb
  rw [wb_tb, BitVec.getLsbD_ofNat]
  simp [hj]
set_option maxHeartbeats 1600000 in
set_option maxRecDepth 100000 in
theorem c_X5_isIn (l : Launch) (hfl : l.stackTraces = false) (mi : MI) (ml : MJ) (xj : Int32) (w : Int64) (j : Nat) (hj : xj.toInt = (j : Int)) (h6 : j < 64) : Ct l yX5_isIn (.code yX5_isIn cX5_isIn 3 (some .boolean)) 0 0 0 [.int xj, .long w] (wl mi ml) (QP (some (.int (bI (lb w j = true)))) (wl mi ml)) noX := by
  refine Ct_of (ini := false) pn_X5 hfl (fun h => nomatch h) (Nat.le_of_ble_eq_true rfl) ?_
  show E l RX5 cX5_isIn 3 (some .boolean) false [] (rmE 0 0 0) (wl mi ml) (TgM (wl mi ml) 0 0 (QP (some (.int (bI (lb w j = true)))) (wl mi ml)) noX) 0 0 0 [(0, .int xj), (1, .long w)] [] (wl mi ml)
  refine E_lload_n 1 dX5_isIn_0 rfl rfl ?_
  refine E_iload_n 0 dX5_isIn_1 rfl rfl ?_
  refine E_lushr dX5_isIn_2 ?_
  refine E_lconst 1 rfl dX5_isIn_3 ?_
  refine E_land dX5_isIn_4 ?_
  refine E_lconst 0 rfl dX5_isIn_5 ?_
  refine E_lcmp dX5_isIn_6 ?_
  refine Y_eq ((lg_cmp (((w.toUInt64 >>> (xj.toInt64.toUInt64 &&& Int64.toUInt64 63)).toInt64) &&& 1) 0).toInt) rfl 14 dX5_isIn_7 (by decide) (fun c_7 => ?_) (fun c_7 => ?_)
  · skip
    refine E_iconst 0 (by decide) dX5_isIn_14 ?_
    refine E_zret rfl rfl (Nat.le_of_ble_eq_true rfl) (Nat.le_of_ble_eq_true rfl) dX5_isIn_15 ?_
    exact okP (b0 (by rw [(ii_bit hj h6).mp (lg_0 c_7)]; decide))
  · skip
    refine E_iconst 1 (by decide) dX5_isIn_10 ?_
    refine E_goto 15 dX5_isIn_11 (by decide) ?_
    refine E_zret rfl rfl (Nat.le_of_ble_eq_true rfl) (Nat.le_of_ble_eq_true rfl) dX5_isIn_15 ?_
    exact okP (b1 (Decidable.byContradiction fun q => lg_1 c_7 ((ii_bit hj h6).mpr (by simpa using q))))
set_option maxHeartbeats 1600000 in
set_option maxRecDepth 100000 in
theorem c_X5_isChannel (l : Launch) (hfl : l.stackTraces = false) (mi : MI) (ml : MJ) (x0 : Int32) (X0 : Int) (h0 : x0.toInt = X0) : Ct l yX5_isChannel (.code yX5_isChannel cX5_isChannel 1 (some .boolean)) 0 0 0 [.int x0] (wl mi ml) (QP (some (.int (bI (0 ≤ X0 ∧ X0 < 64)))) (wl mi ml)) noX := by
  refine Ct_of (ini := false) pn_X5 hfl (fun h => nomatch h) (Nat.le_of_ble_eq_true rfl) ?_
  show E l RX5 cX5_isChannel 1 (some .boolean) false [] (rmE 0 0 0) (wl mi ml) (TgM (wl mi ml) 0 0 (QP (some (.int (bI (0 ≤ X0 ∧ X0 < 64)))) (wl mi ml)) noX) 0 0 0 [(0, .int x0)] [] (wl mi ml)
  refine E_iload_n 0 dX5_isChannel_0 rfl rfl ?_
  refine Y_lt X0 h0 14 dX5_isChannel_1 (by decide) (fun c_1 => ?_) (fun c_1 => ?_)
  · skip
    refine E_iconst 0 (by decide) dX5_isChannel_14 ?_
    refine E_zret rfl rfl (Nat.le_of_ble_eq_true rfl) (Nat.le_of_ble_eq_true rfl) dX5_isChannel_15 ?_
    exact okP (b0 (by omega))
  · skip
    refine E_iload_n 0 dX5_isChannel_4 rfl rfl ?_
    refine E_bipush 64 (by decide) dX5_isChannel_5 ?_
    refine Z_ge X0 64 h0 (show (64 : Int32).toInt = 64 from rfl) 14 dX5_isChannel_7 (by decide) (fun c_7 => ?_) (fun c_7 => ?_)
    · skip
      refine E_iconst 0 (by decide) dX5_isChannel_14 ?_
      refine E_zret rfl rfl (Nat.le_of_ble_eq_true rfl) (Nat.le_of_ble_eq_true rfl) dX5_isChannel_15 ?_
      exact okP (b0 (by omega))
    · skip
      refine E_iconst 1 (by decide) dX5_isChannel_10 ?_
      refine E_goto 15 dX5_isChannel_11 (by decide) ?_
      refine E_zret rfl rfl (Nat.le_of_ble_eq_true rfl) (Nat.le_of_ble_eq_true rfl) dX5_isChannel_15 ?_
      exact okP (b1 (by omega))
set_option maxHeartbeats 1600000 in
set_option maxRecDepth 100000 in
theorem c_X5_isLevel (l : Launch) (hfl : l.stackTraces = false) (mi : MI) (ml : MJ) (x0 : Int32) (X0 : Int) (h0 : x0.toInt = X0) : Ct l yX5_isLevel (.code yX5_isLevel cX5_isLevel 1 (some .boolean)) 0 0 0 [.int x0] (wl mi ml) (QP (some (.int (bI (0 ≤ X0 ∧ X0 ≤ 60)))) (wl mi ml)) noX := by
  refine Ct_of (ini := false) pn_X5 hfl (fun h => nomatch h) (Nat.le_of_ble_eq_true rfl) ?_
  show E l RX5 cX5_isLevel 1 (some .boolean) false [] (rmE 0 0 0) (wl mi ml) (TgM (wl mi ml) 0 0 (QP (some (.int (bI (0 ≤ X0 ∧ X0 ≤ 60)))) (wl mi ml)) noX) 0 0 0 [(0, .int x0)] [] (wl mi ml)
  refine E_iload_n 0 dX5_isLevel_0 rfl rfl ?_
  refine Y_lt X0 h0 14 dX5_isLevel_1 (by decide) (fun c_1 => ?_) (fun c_1 => ?_)
  · skip
    refine E_iconst 0 (by decide) dX5_isLevel_14 ?_
    refine E_zret rfl rfl (Nat.le_of_ble_eq_true rfl) (Nat.le_of_ble_eq_true rfl) dX5_isLevel_15 ?_
    exact okP (b0 (by omega))
  · skip
    refine E_iload_n 0 dX5_isLevel_4 rfl rfl ?_
    refine E_bipush 60 (by decide) dX5_isLevel_5 ?_
    refine Z_gt X0 60 h0 (show (60 : Int32).toInt = 60 from rfl) 14 dX5_isLevel_7 (by decide) (fun c_7 => ?_) (fun c_7 => ?_)
    · skip
      refine E_iconst 0 (by decide) dX5_isLevel_14 ?_
      refine E_zret rfl rfl (Nat.le_of_ble_eq_true rfl) (Nat.le_of_ble_eq_true rfl) dX5_isLevel_15 ?_
      exact okP (b0 (by omega))
    · skip
      refine E_iconst 1 (by decide) dX5_isLevel_10 ?_
      refine E_goto 15 dX5_isLevel_11 (by decide) ?_
      refine E_zret rfl rfl (Nat.le_of_ble_eq_true rfl) (Nat.le_of_ble_eq_true rfl) dX5_isLevel_15 ?_
      exact okP (b1 (by omega))
set_option maxHeartbeats 1600000 in
set_option maxRecDepth 100000 in
theorem c_X5_isWithin (l : Launch) (hfl : l.stackTraces = false) (mi : MI) (ml : MJ) (x0 : Int32) (X0 : Int) (h0 : x0.toInt = X0) (x1 : Int32) (X1 : Int) (h1 : x1.toInt = X1) (x2 : Int32) (X2 : Int) (h2 : x2.toInt = X2) : Ct l yX5_isWithin (.code yX5_isWithin cX5_isWithin 3 (some .boolean)) 0 0 0 [.int x0, .int x1, .int x2] (wl mi ml) (QP (some (.int (bI (X1 ≤ X0 ∧ X0 ≤ X2)))) (wl mi ml)) noX := by
  refine Ct_of (ini := false) pn_X5 hfl (fun h => nomatch h) (Nat.le_of_ble_eq_true rfl) ?_
  show E l RX5 cX5_isWithin 3 (some .boolean) false [] (rmE 0 0 0) (wl mi ml) (TgM (wl mi ml) 0 0 (QP (some (.int (bI (X1 ≤ X0 ∧ X0 ≤ X2)))) (wl mi ml)) noX) 0 0 0 [(0, .int x0), (1, .int x1), (2, .int x2)] [] (wl mi ml)
  refine E_iload_n 0 dX5_isWithin_0 rfl rfl ?_
  refine E_iload_n 1 dX5_isWithin_1 rfl rfl ?_
  refine Z_lt X0 X1 h0 h1 14 dX5_isWithin_2 (by decide) (fun c_2 => ?_) (fun c_2 => ?_)
  · skip
    refine E_iconst 0 (by decide) dX5_isWithin_14 ?_
    refine E_zret rfl rfl (Nat.le_of_ble_eq_true rfl) (Nat.le_of_ble_eq_true rfl) dX5_isWithin_15 ?_
    exact okP (b0 (by omega))
  · skip
    refine E_iload_n 0 dX5_isWithin_5 rfl rfl ?_
    refine E_iload_n 2 dX5_isWithin_6 rfl rfl ?_
    refine Z_gt X0 X2 h0 h2 14 dX5_isWithin_7 (by decide) (fun c_7 => ?_) (fun c_7 => ?_)
    · skip
      refine E_iconst 0 (by decide) dX5_isWithin_14 ?_
      refine E_zret rfl rfl (Nat.le_of_ble_eq_true rfl) (Nat.le_of_ble_eq_true rfl) dX5_isWithin_15 ?_
      exact okP (b0 (by omega))
    · skip
      refine E_iconst 1 (by decide) dX5_isWithin_10 ?_
      refine E_goto 15 dX5_isWithin_11 (by decide) ?_
      refine E_zret rfl rfl (Nat.le_of_ble_eq_true rfl) (Nat.le_of_ble_eq_true rfl) dX5_isWithin_15 ?_
      exact okP (b1 (by omega))
/-- the products that stand in the mix -/
def MxL (D : RD) (mi mj : MI) (L : List Q4) : Prop := Fr [51, 52] mi mj ∧ (mj 51 1).toInt = (L.length : Int) ∧ encd D (mj 52) L
theorem MxL_0 {D : RD} {mi : MI} {x : Int32} (hx : x = 0) : MxL D mi (u2 mi 51 1 x) [] := ⟨Fr.rfl'.u (by decide), by rw [u2_s, hx]; rfl, encd_nil _ _⟩
theorem MxL_p {D : RD} {m0 mi : MI} {L : List Q4} {kd a b c p0 p1 p2 p3 p4 p5 : Nat} {xk xa xb xc xh xv xs : Int32} (H : MxL D m0 mi L) (hs : Sg D kd a b c) (hk : xk.toInt = (kd : Int)) (ha : xa.toInt = (a : Int)) (hb : xb.toInt = (b : Int)) (hc : xc.toInt = if kd = 1 then (c : Int) else -1) (hh : xh.toInt = pCh D kd a b c) (hv : xv.toInt = pLv D kd a b c)
    (q0 : p0 = 6 * L.length) (q1 : p1 = 6 * L.length + 1) (q2 : p2 = 6 * L.length + 2) (q3 : p3 = 6 * L.length + 3) (q4 : p4 = 6 * L.length + 4) (q5 : p5 = 6 * L.length + 5) (hx : xs.toInt = (L.length : Int) + 1) :
    MxL D m0 (u2 (u2 (u2 (u2 (u2 (u2 (u2 mi 52 p0 xk) 52 p1 xa) 52 p2 xb) 52 p3 xc) 52 p4 xh) 52 p5 xv) 51 1 xs) (L ++ ifp (Sg D kd a b c) [(kd, a, b, c)] []) := by
  subst q0 q1 q2 q3 q4 q5
  rw [ifp_t hs]
  refine ⟨((((((H.1.u (by decide)).u (by decide)).u (by decide)).u (by decide)).u (by decide)).u (by decide)).u (by decide), by rw [u2_s, hx, List.length_append]; rfl, encd_add H.2.2 (fun k hk => ?_) ⟨?_, ?_, ?_, ?_, ?_, ?_⟩⟩
  · rw [u2_n (Or.inl (by decide)), u2_n (Or.inr (by omega)), u2_n (Or.inr (by omega)), u2_n (Or.inr (by omega)), u2_n (Or.inr (by omega)), u2_n (Or.inr (by omega)), u2_n (Or.inr (by omega))]
  · rw [u2_n (Or.inl (by decide)), u2_n (Or.inr (by omega)), u2_n (Or.inr (by omega)), u2_n (Or.inr (by omega)), u2_n (Or.inr (by omega)), u2_n (Or.inr (by omega)), u2_s]
    exact hk
  · rw [u2_n (Or.inl (by decide)), u2_n (Or.inr (by omega)), u2_n (Or.inr (by omega)), u2_n (Or.inr (by omega)), u2_n (Or.inr (by omega)), u2_s]
    exact ha
  · rw [u2_n (Or.inl (by decide)), u2_n (Or.inr (by omega)), u2_n (Or.inr (by omega)), u2_n (Or.inr (by omega)), u2_s]
    exact hb
  · rw [u2_n (Or.inl (by decide)), u2_n (Or.inr (by omega)), u2_n (Or.inr (by omega)), u2_s]
    exact hc
  · rw [u2_n (Or.inl (by decide)), u2_n (Or.inr (by omega)), u2_s]
    exact hh
  · rw [u2_n (Or.inl (by decide)), u2_s]
    exact hv
theorem MxL_n {D : RD} {m0 mi : MI} {L : List Q4} {kd a b c : Nat} (H : MxL D m0 mi L) (hs : ¬ Sg D kd a b c) : MxL D m0 mi (L ++ ifp (Sg D kd a b c) [(kd, a, b, c)] []) := by
  rw [ifp_f hs, List.append_nil]; exact H
set_option maxHeartbeats 1600000 in
set_option maxRecDepth 100000 in
theorem c_X3_put (l : Launch) (hfl : l.stackTraces = false) (mi : MI) (ml : MJ) (D : RD) (m0 : MI) (L : List Q4) (kd a b c : Nat) (xk xa xb xc xh xv : Int32) (hk : xk.toInt = (kd : Int)) (ha : xa.toInt = (a : Int)) (hb : xb.toInt = (b : Int)) (hc : xc.toInt = if kd = 1 then (c : Int) else -1) (hh : xh.toInt = pCh D kd a b c) (hv : xv.toInt = pLv D kd a b c) (hbt : D.1.testBit kd = true) (H : MxL D m0 mi L) (hL : L.length < 540) : Ct l yX3_put (.code yX3_put cX3_put 8 none) 1 0 0 [.ref 51, .int xk, .int xa, .int xb, .int xc, .int xh, .int xv] (wl mi ml) (QV (fun mi9 ml9 => ml = ml9 ∧ MxL D m0 mi9 (L ++ ifp (Sg D kd a b c) [(kd, a, b, c)] []) ∧ Fr [51, 52] mi mi9)) noX := by
  refine Ct_of (ini := false) pn_X3 hfl (fun h => nomatch h) (Nat.le_of_ble_eq_true rfl) ?_
  show E l RX3 cX3_put 8 none false [] (rmE 1 0 0) (wl mi ml) (TgM (wl mi ml) 0 0 (QV (fun mi9 ml9 => ml = ml9 ∧ MxL D m0 mi9 (L ++ ifp (Sg D kd a b c) [(kd, a, b, c)] []) ∧ Fr [51, 52] mi mi9)) noX) 0 0 0 [(0, .ref 51), (1, .int xk), (2, .int xa), (3, .int xb), (4, .int xc), (5, .int xh), (6, .int xv)] [] (wl mi ml)
  refine E_iload 5 dX3_put_0 rfl ?_
  refine E_callSN (c_X5_isChannel l hfl mi ml xh (pCh D kd a b c) hh) cw_X3_56 (As := [.int xh]) (st := []) ws_yX5_isChannel rfl ⟨Nat.le_of_ble_eq_true rfl, Nat.le_of_ble_eq_true rfl, Nat.le_of_ble_eq_true rfl, Nat.le_of_ble_eq_true rfl⟩ (Nat.le_of_ble_eq_true rfl) dX3_put_2 (fun _ _ h => h) rfl (kE ?_)
  refine B_eq 30 dX3_put_5 (by decide) (fun c_5 => ?_) (fun c_5 => ?_)
  · skip
    refine E_vret rfl (Nat.le_of_ble_eq_true rfl) (Nat.le_of_ble_eq_true rfl) dX3_put_30 ?_
    exact okQV ⟨rfl, MxL_n H (fun q => c_5 ⟨q.1.1, by have := q.1.2; omega⟩), Fr_r⟩
  · skip
    refine E_iload 6 dX3_put_8 rfl ?_
    refine Y_lt (pLv D kd a b c) hv 30 dX3_put_10 (by decide) (fun c_10 => ?_) (fun c_10 => ?_)
    · skip
      refine E_vret rfl (Nat.le_of_ble_eq_true rfl) (Nat.le_of_ble_eq_true rfl) dX3_put_30 ?_
      exact okQV ⟨rfl, MxL_n H (fun q => absurd q.2.2 (by omega)), Fr_r⟩
    · skip
      refine E_aload_n 0 dX3_put_13 rfl rfl ?_
      refine gf_X3_15 (mi 51 1) tw_51 rfl rfl dX3_put_14 ?_
      refine Y_lt ((L.length : Nat) : Int) H.2.1 30 dX3_put_17 (by decide) (fun c_17 => ?_) (fun c_17 => ?_)
      · exact absurd c_17 (by omega)
      · skip
        refine E_aload_n 0 dX3_put_20 rfl rfl ?_
        refine gf_X3_15 (mi 51 1) tw_51 rfl rfl dX3_put_21 ?_
        refine E_sipush 540 (by decide) dX3_put_24 ?_
        refine Z_lt ((L.length : Nat) : Int) 540 H.2.1 (show (540 : Int32).toInt = 540 from rfl) 31 dX3_put_27 (by decide) (fun c_27 => ?_) (fun c_27 => ?_)
        · skip
          refine E_bipush 6 (by decide) dX3_put_31 ?_
          refine E_aload_n 0 dX3_put_33 rfl rfl ?_
          refine gf_X3_15 (mi 51 1) tw_51 rfl rfl dX3_put_34 ?_
          refine E_imul dX3_put_37 ?_
          refine E_istore [(7, .int (6 * (mi 51 1))), (0, .ref 51), (1, .int xk), (2, .int xa), (3, .int xb), (4, .int xc), (5, .int xh), (6, .int xv)] dX3_put_38 (by decide) rfl ?_
          refine E_aload_n 1 dX3_put_40 rfl rfl ?_
          refine gf_X3_11 tw_51 rfl dX3_put_41 ?_
          refine E_iload 0 dX3_put_44 rfl ?_
          refine E_iload_n 2 dX3_put_46 rfl rfl ?_
          refine S_iast (6 * L.length) tw_52 ((tI_mul (show (6 : Int32).toInt = 6 from rfl) H.2.1 (by omega)).trans (by omega)) (by omega) dX3_put_47 ?_
          refine E_aload_n 1 dX3_put_48 rfl rfl ?_
          refine gf_X3_11 tw_51 rfl dX3_put_49 ?_
          refine E_iload 0 dX3_put_52 rfl ?_
          refine E_iconst 1 (by decide) dX3_put_54 ?_
          refine E_iadd dX3_put_55 ?_
          refine E_iload_n 3 dX3_put_56 rfl rfl ?_
          refine S_iast ((6 * L.length) + 1) tw_52 ((tI_add (tI_mul (show (6 : Int32).toInt = 6 from rfl) H.2.1 (by omega)) (show (1 : Int32).toInt = 1 from rfl) (by omega)).trans (by omega)) (by omega) dX3_put_57 ?_
          refine E_aload_n 1 dX3_put_58 rfl rfl ?_
          refine gf_X3_11 tw_51 rfl dX3_put_59 ?_
          refine E_iload 0 dX3_put_62 rfl ?_
          refine E_iconst 2 (by decide) dX3_put_64 ?_
          refine E_iadd dX3_put_65 ?_
          refine E_iload_n 4 dX3_put_66 rfl rfl ?_
          refine S_iast ((6 * L.length) + 2) tw_52 ((tI_add (tI_mul (show (6 : Int32).toInt = 6 from rfl) H.2.1 (by omega)) (show (2 : Int32).toInt = 2 from rfl) (by omega)).trans (by omega)) (by omega) dX3_put_67 ?_
          refine E_aload_n 1 dX3_put_68 rfl rfl ?_
          refine gf_X3_11 tw_51 rfl dX3_put_69 ?_
          refine E_iload 0 dX3_put_72 rfl ?_
          refine E_iconst 3 (by decide) dX3_put_74 ?_
          refine E_iadd dX3_put_75 ?_
          refine E_iload 5 dX3_put_76 rfl ?_
          refine S_iast ((6 * L.length) + 3) tw_52 ((tI_add (tI_mul (show (6 : Int32).toInt = 6 from rfl) H.2.1 (by omega)) (show (3 : Int32).toInt = 3 from rfl) (by omega)).trans (by omega)) (by omega) dX3_put_78 ?_
          refine E_aload_n 1 dX3_put_79 rfl rfl ?_
          refine gf_X3_11 tw_51 rfl dX3_put_80 ?_
          refine E_iload 0 dX3_put_83 rfl ?_
          refine E_iconst 4 (by decide) dX3_put_85 ?_
          refine E_iadd dX3_put_86 ?_
          refine E_iload 6 dX3_put_87 rfl ?_
          refine S_iast ((6 * L.length) + 4) tw_52 ((tI_add (tI_mul (show (6 : Int32).toInt = 6 from rfl) H.2.1 (by omega)) (show (4 : Int32).toInt = 4 from rfl) (by omega)).trans (by omega)) (by omega) dX3_put_89 ?_
          refine E_aload_n 1 dX3_put_90 rfl rfl ?_
          refine gf_X3_11 tw_51 rfl dX3_put_91 ?_
          refine E_iload 0 dX3_put_94 rfl ?_
          refine E_iconst 5 (by decide) dX3_put_96 ?_
          refine E_iadd dX3_put_97 ?_
          refine E_iload 7 dX3_put_98 rfl ?_
          refine S_iast ((6 * L.length) + 5) tw_52 ((tI_add (tI_mul (show (6 : Int32).toInt = 6 from rfl) H.2.1 (by omega)) (show (5 : Int32).toInt = 5 from rfl) (by omega)).trans (by omega)) (by omega) dX3_put_100 ?_
          refine E_aload_n 1 dX3_put_101 rfl rfl ?_
          refine E_dup rfl dX3_put_102 ?_
          refine gf_X3_15 (mi 51 1) tw_51 rfl ((u2_n (by omega)).trans ((u2_n (by omega)).trans ((u2_n (by omega)).trans ((u2_n (by omega)).trans ((u2_n (by omega)).trans ((u2_n (by omega)).trans rfl)))))) dX3_put_103 ?_
          refine E_iconst 1 (by decide) dX3_put_106 ?_
          refine E_iadd dX3_put_107 ?_
          refine pf_X3_15 tw_51 rfl dX3_put_108 ?_
          refine E_vret rfl (Nat.le_of_ble_eq_true rfl) (Nat.le_of_ble_eq_true rfl) dX3_put_111 ?_
          exact okQV ⟨rfl, MxL_p H ⟨⟨c_5.1, by have := c_5.2; omega⟩, hbt, by omega⟩ hk ha hb hc hh hv rfl rfl rfl rfl rfl rfl (by first | exact (tI_add H.2.1 (show (1 : Int32).toInt = 1 from rfl) (by omega))), (((((((Fr_r.u (by decide)).u (by decide)).u (by decide)).u (by decide)).u (by decide)).u (by decide)).u (by decide))⟩
        · exact absurd c_27 (by omega)
theorem WFV.b {V : Nat → Int32} {n c : Nat} (hw : WFV V) (hn : (V 5).toInt = (n : Int)) (hc : c < n) : (0 ≤ (V (6 + 2 * c)).toInt ∧ (V (6 + 2 * c)).toInt ≤ 63) ∧ (0 ≤ (V (7 + 2 * c)).toInt ∧ (V (7 + 2 * c)).toInt ≤ 60) := hw.2.2.1 c (by omega)
theorem WFV.l {V : Nat → Int32} (hw : WFV V) : (0 ≤ (V 1).toInt ∧ (V 1).toInt ≤ 300) ∧ (0 ≤ (V 2).toInt ∧ (V 2).toInt ≤ 300) := ⟨hw.1.2.1, hw.1.2.2.1⟩
theorem mp_c0 {D : RD} {s n kd a b : Nat} {L : List Q4} (hk : kd ≠ 1) (hv : vB s kd a b) : L ++ stB D s n kd a b ++ ifp (Sg D kd a b 0) [(kd, a, b, 0)] [] = L ++ stB D s n kd a (b + 1) := by
  rw [st_b1 hv, show nCs n kd = 0 + 1 from by unfold nCs; rw [if_neg hk], List.append_assoc]
  congr 2
  rcases Classical.em (Sg D kd a b 0) with h | h
  · rw [ifp_t h, st_c1 (Or.inl hk) h]; rfl
  · rw [ifp_f h, st_c0 (fun q => h q.2)]; rfl
theorem mp_b0 {D : RD} {m0 mi : MI} {s n kd a b : Nat} {L : List Q4} (H : MxL D m0 mi (L ++ stB D s n kd a b)) (hv : ¬ vB s kd a b) : MxL D m0 mi (L ++ stB D s n kd a (b + 1)) := by
  rw [st_b0 hv]; exact H
theorem mp_a {D : RD} {m0 mi : MI} {s n kd a b : Nat} {L : List Q4} (H : MxL D m0 mi (L ++ stA D s n kd a ++ stB D s n kd a b)) (e : b = n) : MxL D m0 mi (L ++ stA D s n kd (a + 1)) := by
  subst e
  rw [stA, ← List.append_assoc]; exact H
theorem mp_k {D : RD} {m0 mi : MI} {s n kd a : Nat} (H : MxL D m0 mi (stK D s n kd ++ stA D s n kd a)) (e : a = n) : MxL D m0 mi (stK D s n (kd + 1)) := by
  subst e; exact H
theorem mp_0 {D : RD} {m0 mi : MI} {L : List Q4} (H : MxL D m0 mi L) : MxL D m0 mi (L ++ []) := by rw [List.append_nil]; exact H
theorem mp_e {D : RD} {m0 mi : MI} {L L' : List Q4} (H : MxL D m0 mi L) (e : L = L') : MxL D m0 mi L' := e ▸ H
theorem xc_1 {kd c : Nat} {x : Int32} (hk : kd ≠ 1) (hx : x = -1) : x.toInt = if kd = 1 then (c : Int) else -1 := by rw [if_neg hk, hx]; rfl
set_option maxHeartbeats 1600000 in
set_option maxRecDepth 100000 in
theorem c_X3_gatherPairs0 (l : Launch) (hfl : l.stackTraces = false) (mi : MI) (ml : MJ) (V : Nat → Int32) (hV : WFV V) (hD : DR 1 mi V) (n : Nat) (hn : (V 5).toInt = (n : Int)) (xs : Int32) (s : Nat) (hxs : xs.toInt = (s : Int)) (m0 : MI) (hbt : (DV V).1.testBit 0 = true) (H : MxL (DV V) m0 mi (stK (DV V) s n 0)) (h10 : n ≤ 10) : Ct l yX3_gatherPairs (.code yX3_gatherPairs cX3_gatherPairs 11 none) 2 0 0 [.ref 51, .ref 1, .int xs, .int 0] (wl mi ml) (QV (fun mi9 ml9 => ml = ml9 ∧ MxL (DV V) m0 mi9 (stK (DV V) s n 1) ∧ Fr [51, 52] mi mi9)) noX := by
  refine Ct_of (ini := false) pn_X3 hfl (fun h => nomatch h) (Nat.le_of_ble_eq_true rfl) ?_
  show E l RX3 cX3_gatherPairs 11 none false [] (rmE 2 0 0) (wl mi ml) (TgM (wl mi ml) 0 0 (QV (fun mi9 ml9 => ml = ml9 ∧ MxL (DV V) m0 mi9 (stK (DV V) s n 1) ∧ Fr [51, 52] mi mi9)) noX) 0 0 0 [(0, .ref 51), (1, .ref 1), (2, .int xs), (3, .int 0)] [] (wl mi ml)
  refine E_iload_n 3 dX3_gatherPairs_0 rfl rfl ?_
  refine Y_ne 0 (show (0 : Int32).toInt = 0 from rfl) 8 dX3_gatherPairs_1 (by decide) (fun c_1 => ?_) (fun c_1 => ?_)
  · exact absurd c_1 (by decide)
  · skip
    refine E_iconst 2 (by decide) dX3_gatherPairs_4 ?_
    refine E_goto 9 dX3_gatherPairs_5 (by decide) ?_
    refine E_istore [(4, .int 2), (0, .ref 51), (1, .ref 1), (2, .int xs), (3, .int 0)] dX3_gatherPairs_9 (by decide) rfl ?_
    refine E_iload 0 dX3_gatherPairs_11 rfl ?_
    refine E_iconst 1 (by decide) dX3_gatherPairs_13 ?_
    refine E_isub dX3_gatherPairs_14 ?_
    refine E_istore [(5, .int (2 - 1)), (4, .int 2), (0, .ref 51), (1, .ref 1), (2, .int xs), (3, .int 0)] dX3_gatherPairs_15 (by decide) rfl ?_
    refine E_iload_n 5 dX3_gatherPairs_17 rfl rfl ?_
    refine Y_ne 0 (show (0 : Int32).toInt = 0 from rfl) 28 dX3_gatherPairs_18 (by decide) (fun c_18 => ?_) (fun c_18 => ?_)
    · exact absurd c_18 (by decide)
    · skip
      refine E_aload_n 3 dX3_gatherPairs_21 rfl rfl ?_
      refine gf_X3_32 (V 1) isD_1.t rfl hD.1.2.1 dX3_gatherPairs_22 ?_
      refine E_goto 32 dX3_gatherPairs_25 (by decide) ?_
      refine E_istore [(6, .int (V 1)), (5, .int (2 - 1)), (4, .int 2), (0, .ref 51), (1, .ref 1), (2, .int xs), (3, .int 0)] dX3_gatherPairs_32 (by decide) rfl ?_
      refine E_iconst 0 (by decide) dX3_gatherPairs_34 ?_
      refine E_istore [(7, .int 0), (6, .int (V 1)), (5, .int (2 - 1)), (4, .int 2), (0, .ref 51), (1, .ref 1), (2, .int xs), (3, .int 0)] dX3_gatherPairs_35 (by decide) rfl ?_
      have J37 : ∀ (Nm : Nat) (xa : Int32) (a : Nat) (ma : MI), n - a < Nm → xa.toInt = (a : Int) → a ≤ n → MxL (DV V) m0 ma (stK (DV V) s n 0 ++ stA (DV V) s n 0 a) → Fr [51, 52] mi ma → E l RX3 cX3_gatherPairs 11 none false [] (rmE 2 0 0) (wl mi ml) (TgM (wl mi ml) 0 0 (QV (fun mi9 ml9 => ml = ml9 ∧ MxL (DV V) m0 mi9 (stK (DV V) s n 1) ∧ Fr [51, 52] mi mi9)) noX) 0 0 37 [(0, .ref 51), (1, .ref 1), (2, .int xs), (3, .int 0), (4, .int 2), (5, .int (2 - 1)), (6, .int (V 1)), (7, .int xa)] [] (wl ma ml) := by
        intro Nm
        induction Nm with
        | zero => intros; omega
        | succ Nm ih37 =>
          intro xa a ma hN37 hxa ha hLa hFa
          refine E_iload 7 dX3_gatherPairs_37 rfl ?_
          refine E_aload_n 1 dX3_gatherPairs_39 rfl rfl ?_
          refine gf_X3_38 (V 5) isD_1.t rfl ((congrFun (hFa 1 (by decide)) 5).trans hD.2.1.1) dX3_gatherPairs_40 ?_
          refine Z_ge (a : Int) (n : Int) hxa hn 156 dX3_gatherPairs_43 (by decide) (fun c_43 => ?_) (fun c_43 => ?_)
          · skip
            refine E_vret rfl (Nat.le_of_ble_eq_true rfl) (Nat.le_of_ble_eq_true rfl) dX3_gatherPairs_156 ?_
            exact okQV ⟨rfl, mp_k hLa (by omega), hFa⟩
          · skip
            refine E_iconst 0 (by decide) dX3_gatherPairs_46 ?_
            refine E_istore [(8, .int 0), (0, .ref 51), (1, .ref 1), (2, .int xs), (3, .int 0), (4, .int 2), (5, .int (2 - 1)), (6, .int (V 1)), (7, .int xa)] dX3_gatherPairs_47 (by decide) rfl ?_
            have J49 : ∀ (Nm : Nat) (xb : Int32) (b : Nat) (mb : MI), n - b < Nm → xb.toInt = (b : Int) → b ≤ n → MxL (DV V) m0 mb (stK (DV V) s n 0 ++ stA (DV V) s n 0 a ++ stB (DV V) s n 0 a b) → Fr [51, 52] mi mb → E l RX3 cX3_gatherPairs 11 none false [] (rmE 2 0 0) (wl mi ml) (TgM (wl mi ml) 0 0 (QV (fun mi9 ml9 => ml = ml9 ∧ MxL (DV V) m0 mi9 (stK (DV V) s n 1) ∧ Fr [51, 52] mi mi9)) noX) 0 0 49 [(0, .ref 51), (1, .ref 1), (2, .int xs), (3, .int 0), (4, .int 2), (5, .int (2 - 1)), (6, .int (V 1)), (7, .int xa), (8, .int xb)] [] (wl mb ml) := by
              intro Nm
              induction Nm with
              | zero => intros; omega
              | succ Nm ih49 =>
                intro xb b mb hN49 hxb hb hLb hFb
                refine E_iload 8 dX3_gatherPairs_49 rfl ?_
                refine E_aload_n 1 dX3_gatherPairs_51 rfl rfl ?_
                refine gf_X3_38 (V 5) isD_1.t rfl ((congrFun (hFb 1 (by decide)) 5).trans hD.2.1.1) dX3_gatherPairs_52 ?_
                refine Z_ge (b : Int) (n : Int) hxb hn 150 dX3_gatherPairs_55 (by decide) (fun c_55 => ?_) (fun c_55 => ?_)
                · skip
                  refine E_iinc 7 (xa + 1) [(7, .int (xa + 1)), (0, .ref 51), (1, .ref 1), (2, .int xs), (3, .int 0), (4, .int 2), (5, .int (2 - 1)), (6, .int (V 1)), (8, .int xb)] dX3_gatherPairs_150 rfl rfl (by decide) rfl ?_
                  refine E_goto 37 dX3_gatherPairs_153 (by decide) ?_
                  refine E_sub [1, 2, 3, 4, 5, 6, 7, 0] rfl ?_
                  exact ih37 (xa + 1) (a + 1) mb (by omega) ((tI_add hxa (show (1 : Int32).toInt = 1 from rfl) (by omega)).trans (by omega)) (by omega) (mp_a hLb (by omega)) hFb
                · skip
                  refine E_iload 7 dX3_gatherPairs_58 rfl ?_
                  refine E_iload 8 dX3_gatherPairs_60 rfl ?_
                  refine Z_eq (a : Int) (b : Int) hxa hxb 144 dX3_gatherPairs_62 (by decide) (fun c_62 => ?_) (fun c_62 => ?_)
                  · skip
                    refine E_iinc 8 (xb + 1) [(8, .int (xb + 1)), (0, .ref 51), (1, .ref 1), (2, .int xs), (3, .int 0), (4, .int 2), (5, .int (2 - 1)), (6, .int (V 1)), (7, .int xa)] dX3_gatherPairs_144 rfl rfl (by decide) rfl ?_
                    refine E_goto 49 dX3_gatherPairs_147 (by decide) ?_
                    refine E_sub [1, 2, 3, 4, 5, 6, 7, 8, 0] rfl ?_
                    exact ih49 (xb + 1) (b + 1) mb (by omega) ((tI_add hxb (show (1 : Int32).toInt = 1 from rfl) (by omega)).trans (by omega)) (by omega) (mp_b0 hLb (fun q => q.2.1 (by omega))) hFb
                  · skip
                    refine E_iload 7 dX3_gatherPairs_65 rfl ?_
                    refine E_iload_n 2 dX3_gatherPairs_67 rfl rfl ?_
                    refine E_i2l dX3_gatherPairs_68 ?_
                    refine E_callSN (c_X5_isIn l hfl mb ml xa (xs.toInt64) a (hxa.trans (by omega)) (by omega)) cw_X3_41 (As := [.int xa, .long (xs.toInt64)]) (st := []) ws_yX5_isIn rfl ⟨Nat.le_of_ble_eq_true rfl, Nat.le_of_ble_eq_true rfl, Nat.le_of_ble_eq_true rfl, Nat.le_of_ble_eq_true rfl⟩ (Nat.le_of_ble_eq_true rfl) dX3_gatherPairs_69 (fun _ _ h => h) rfl (kE ?_)
                    rw [show bI (lb (xs.toInt64) a = true) = bI (s.testBit a = true) from by rw [lb_i2l hxs (by omega)]]
                    refine B_eq 144 dX3_gatherPairs_72 (by decide) (fun c_72 => ?_) (fun c_72 => ?_)
                    · skip
                      refine E_iinc 8 (xb + 1) [(8, .int (xb + 1)), (0, .ref 51), (1, .ref 1), (2, .int xs), (3, .int 0), (4, .int 2), (5, .int (2 - 1)), (6, .int (V 1)), (7, .int xa)] dX3_gatherPairs_144 rfl rfl (by decide) rfl ?_
                      refine E_goto 49 dX3_gatherPairs_147 (by decide) ?_
                      refine E_sub [1, 2, 3, 4, 5, 6, 7, 8, 0] rfl ?_
                      exact ih49 (xb + 1) (b + 1) mb (by omega) ((tI_add hxb (show (1 : Int32).toInt = 1 from rfl) (by omega)).trans (by omega)) (by omega) (mp_b0 hLb (fun q => c_72 q.2.2.1)) hFb
                    · skip
                      refine E_iload 8 dX3_gatherPairs_75 rfl ?_
                      refine E_iload_n 2 dX3_gatherPairs_77 rfl rfl ?_
                      refine E_i2l dX3_gatherPairs_78 ?_
                      refine E_callSN (c_X5_isIn l hfl mb ml xb (xs.toInt64) b (hxb.trans (by omega)) (by omega)) cw_X3_41 (As := [.int xb, .long (xs.toInt64)]) (st := []) ws_yX5_isIn rfl ⟨Nat.le_of_ble_eq_true rfl, Nat.le_of_ble_eq_true rfl, Nat.le_of_ble_eq_true rfl, Nat.le_of_ble_eq_true rfl⟩ (Nat.le_of_ble_eq_true rfl) dX3_gatherPairs_79 (fun _ _ h => h) rfl (kE ?_)
                      rw [show bI (lb (xs.toInt64) b = true) = bI (s.testBit b = true) from by rw [lb_i2l hxs (by omega)]]
                      refine B_eq 144 dX3_gatherPairs_82 (by decide) (fun c_82 => ?_) (fun c_82 => ?_)
                      · skip
                        refine E_iinc 8 (xb + 1) [(8, .int (xb + 1)), (0, .ref 51), (1, .ref 1), (2, .int xs), (3, .int 0), (4, .int 2), (5, .int (2 - 1)), (6, .int (V 1)), (7, .int xa)] dX3_gatherPairs_144 rfl rfl (by decide) rfl ?_
                        refine E_goto 49 dX3_gatherPairs_147 (by decide) ?_
                        refine E_sub [1, 2, 3, 4, 5, 6, 7, 8, 0] rfl ?_
                        exact ih49 (xb + 1) (b + 1) mb (by omega) ((tI_add hxb (show (1 : Int32).toInt = 1 from rfl) (by omega)).trans (by omega)) (by omega) (mp_b0 hLb (fun q => c_82 q.2.2.2)) hFb
                      · skip
                        have hvB : vB s 0 a b := ⟨fun q => absurd q (by decide), by omega, c_72, c_82⟩
                        have ba := hV.b hn (show a < n by omega)
                        have bb := hV.b hn (show b < n by omega)
                        have bl := hV.l
                        refine E_iload 4 dX3_gatherPairs_85 rfl ?_
                        refine E_aload_n 1 dX3_gatherPairs_87 rfl rfl ?_
                        refine E_iload 7 dX3_gatherPairs_88 rfl ?_
                        refine E_callV (c_X1_channelOf l hfl 1 isD_1 mb ml xa a n (hxa.trans (by omega)) ((congrArg Int32.toInt ((congrFun (hFb 1 (by decide)) 5).trans hD.2.1.1)).trans hn) (by omega) (by omega)) cw_X3_45 (As := [.int xa]) (st := [.int 2]) wi_yX1_channelOf we_yX1_channelOf (ci := 1) (q := (RX1, TX1, 15)) rfl rfl (wl_atO isD_1.t) rfl ⟨Nat.le_of_ble_eq_true rfl, Nat.le_of_ble_eq_true rfl, Nat.le_of_ble_eq_true rfl, Nat.le_of_ble_eq_true rfl⟩ (Nat.le_of_ble_eq_true rfl) dX3_gatherPairs_90 (fun _ _ h => h) rfl (kE ?_)
                        rw [show mb 2 a = (V (6 + 2 * a)) from ((congrFun (hFb 2 (by decide)) a).trans (hD.2.2.1 a (by omega)).1)]
                        refine E_imul dX3_gatherPairs_93 ?_
                        refine E_iload 5 dX3_gatherPairs_94 rfl ?_
                        refine E_aload_n 1 dX3_gatherPairs_96 rfl rfl ?_
                        refine E_iload 8 dX3_gatherPairs_97 rfl ?_
                        refine E_callV (c_X1_channelOf l hfl 1 isD_1 mb ml xb b n (hxb.trans (by omega)) ((congrArg Int32.toInt ((congrFun (hFb 1 (by decide)) 5).trans hD.2.1.1)).trans hn) (by omega) (by omega)) cw_X3_45 (As := [.int xb]) (st := [.int (2 - 1), .int (2 * (V (6 + 2 * a)))]) wi_yX1_channelOf we_yX1_channelOf (ci := 1) (q := (RX1, TX1, 15)) rfl rfl (wl_atO isD_1.t) rfl ⟨Nat.le_of_ble_eq_true rfl, Nat.le_of_ble_eq_true rfl, Nat.le_of_ble_eq_true rfl, Nat.le_of_ble_eq_true rfl⟩ (Nat.le_of_ble_eq_true rfl) dX3_gatherPairs_99 (fun _ _ h => h) rfl (kE ?_)
                        rw [show mb 2 b = (V (6 + 2 * b)) from ((congrFun (hFb 2 (by decide)) b).trans (hD.2.2.1 b (by omega)).1)]
                        refine E_imul dX3_gatherPairs_102 ?_
                        refine E_isub dX3_gatherPairs_103 ?_
                        refine E_istore [(9, .int ((2 * (V (6 + 2 * a))) - ((2 - 1) * (V (6 + 2 * b))))), (0, .ref 51), (1, .ref 1), (2, .int xs), (3, .int 0), (4, .int 2), (5, .int (2 - 1)), (6, .int (V 1)), (7, .int xa), (8, .int xb)] dX3_gatherPairs_104 (by decide) rfl ?_
                        refine E_iload 5 dX3_gatherPairs_106 rfl ?_
                        refine E_aload_n 2 dX3_gatherPairs_108 rfl rfl ?_
                        refine E_iload 8 dX3_gatherPairs_109 rfl ?_
                        refine E_callV (c_X1_levelOf l hfl 1 isD_1 mb ml xa a n (hxa.trans (by omega)) ((congrArg Int32.toInt ((congrFun (hFb 1 (by decide)) 5).trans hD.2.1.1)).trans hn) (by omega) (by omega)) cw_X3_49 (As := [.int xa]) (st := [.int 2]) wi_yX1_levelOf we_yX1_levelOf (ci := 1) (q := (RX1, TX1, 15)) rfl rfl (wl_atO isD_1.t) rfl ⟨Nat.le_of_ble_eq_true rfl, Nat.le_of_ble_eq_true rfl, Nat.le_of_ble_eq_true rfl, Nat.le_of_ble_eq_true rfl⟩ (Nat.le_of_ble_eq_true rfl) dX3_gatherPairs_111 (fun _ _ h => h) rfl (kE ?_)
                        rw [show mb 3 a = (V (7 + 2 * a)) from ((congrFun (hFb 3 (by decide)) a).trans (hD.2.2.1 a (by omega)).2)]
                        refine E_imul dX3_gatherPairs_114 ?_
                        refine E_iload 6 dX3_gatherPairs_115 rfl ?_
                        refine E_aload_n 2 dX3_gatherPairs_117 rfl rfl ?_
                        refine E_iload 9 dX3_gatherPairs_118 rfl ?_
                        refine E_callV (c_X1_levelOf l hfl 1 isD_1 mb ml xb b n (hxb.trans (by omega)) ((congrArg Int32.toInt ((congrFun (hFb 1 (by decide)) 5).trans hD.2.1.1)).trans hn) (by omega) (by omega)) cw_X3_49 (As := [.int xb]) (st := [.int (2 - 1), .int (2 * (V (7 + 2 * a)))]) wi_yX1_levelOf we_yX1_levelOf (ci := 1) (q := (RX1, TX1, 15)) rfl rfl (wl_atO isD_1.t) rfl ⟨Nat.le_of_ble_eq_true rfl, Nat.le_of_ble_eq_true rfl, Nat.le_of_ble_eq_true rfl, Nat.le_of_ble_eq_true rfl⟩ (Nat.le_of_ble_eq_true rfl) dX3_gatherPairs_120 (fun _ _ h => h) rfl (kE ?_)
                        rw [show mb 3 b = (V (7 + 2 * b)) from ((congrFun (hFb 3 (by decide)) b).trans (hD.2.2.1 b (by omega)).2)]
                        refine E_imul dX3_gatherPairs_123 ?_
                        refine E_iadd dX3_gatherPairs_124 ?_
                        refine E_iload 7 dX3_gatherPairs_125 rfl ?_
                        refine E_isub dX3_gatherPairs_127 ?_
                        refine E_istore [(10, .int (((2 * (V (7 + 2 * a))) + ((2 - 1) * (V (7 + 2 * b)))) - (V 1))), (9, .int ((2 * (V (6 + 2 * a))) - ((2 - 1) * (V (6 + 2 * b))))), (0, .ref 51), (1, .ref 1), (2, .int xs), (3, .int 0), (4, .int 2), (5, .int (2 - 1)), (6, .int (V 1)), (7, .int xa), (8, .int xb)] dX3_gatherPairs_128 (by decide) rfl ?_
                        refine E_aload_n 2 dX3_gatherPairs_130 rfl rfl ?_
                        refine E_iload_n 5 dX3_gatherPairs_131 rfl rfl ?_
                        refine E_iload 9 dX3_gatherPairs_132 rfl ?_
                        refine E_iload 10 dX3_gatherPairs_134 rfl ?_
                        refine E_iconst (-1) (by decide) dX3_gatherPairs_136 ?_
                        refine E_iload 1 dX3_gatherPairs_137 rfl ?_
                        refine E_iload 0 dX3_gatherPairs_139 rfl ?_
                        refine E_callV (c_X3_put l hfl mb ml (DV V) m0 (stK (DV V) s n 0 ++ stA (DV V) s n 0 a ++ stB (DV V) s n 0 a b) 0 a b 0 0 xa xb (-1) ((2 * (V (6 + 2 * a))) - ((2 - 1) * (V (6 + 2 * b)))) (((2 * (V (7 + 2 * a))) + ((2 - 1) * (V (7 + 2 * b)))) - (V 1)) rfl hxa hxb (xc_1 (by decide) rfl) ((tI_sub (tI_mul (show (2 : Int32).toInt = 2 from rfl) rfl (by omega)) (tI_mul (tI_sub (show (2 : Int32).toInt = 2 from rfl) (show (1 : Int32).toInt = 1 from rfl) (by omega)) rfl (by omega)) (by omega)).trans (by show _ = 2 * (V (6 + 2 * a)).toInt - (V (6 + 2 * b)).toInt; omega)) ((tI_sub (tI_add (tI_mul (show (2 : Int32).toInt = 2 from rfl) rfl (by omega)) (tI_mul (tI_sub (show (2 : Int32).toInt = 2 from rfl) (show (1 : Int32).toInt = 1 from rfl) (by omega)) rfl (by omega)) (by omega)) rfl (by omega)).trans (by show _ = (V (7 + 2 * a)).toInt + (V (7 + 2 * b)).toInt + (V (7 + 2 * a)).toInt - (V 1).toInt; omega)) hbt hLb (by simp only [List.length_append]; exact (st_room (c := 0) h10 (by decide) (by omega) (by omega) (by exact Nat.one_pos) (by omega) (by omega)))) cw_X3_52 (As := [.int 0, .int xa, .int xb, .int (-1), .int ((2 * (V (6 + 2 * a))) - ((2 - 1) * (V (6 + 2 * b)))), .int (((2 * (V (7 + 2 * a))) + ((2 - 1) * (V (7 + 2 * b)))) - (V 1))]) (st := []) wi_yX3_put we_yX3_put (ci := 3) (q := (RX3, TX3, 2)) rfl rfl (wl_atO tw_51) rfl ⟨Nat.le_of_ble_eq_true rfl, Nat.le_of_ble_eq_true rfl, Nat.le_of_ble_eq_true rfl, Nat.le_of_ble_eq_true rfl⟩ (Nat.le_of_ble_eq_true rfl) dX3_gatherPairs_141 (fun _ _ h => h) rfl (kV (fun mi_141 ml_141 h_141 => ?_))
                        obtain ⟨rfl, h_141⟩ := h_141
                        refine E_iinc 10 (xb + 1) [(8, .int (xb + 1)), (10, .int (((2 * (V (7 + 2 * a))) + ((2 - 1) * (V (7 + 2 * b)))) - (V 1))), (9, .int ((2 * (V (6 + 2 * a))) - ((2 - 1) * (V (6 + 2 * b))))), (0, .ref 51), (1, .ref 1), (2, .int xs), (3, .int 0), (4, .int 2), (5, .int (2 - 1)), (6, .int (V 1)), (7, .int xa)] dX3_gatherPairs_144 rfl rfl (by decide) rfl ?_
                        refine E_goto 49 dX3_gatherPairs_147 (by decide) ?_
                        refine E_sub [3, 4, 5, 6, 7, 8, 9, 10, 0] rfl ?_
                        exact ih49 (xb + 1) (b + 1) mi_141 (by omega) ((tI_add hxb (show (1 : Int32).toInt = 1 from rfl) (by omega)).trans (by omega)) (by omega) (mp_e h_141.1 (mp_c0 (by decide) hvB)) (hFb.trans h_141.2 (fun _ h => h) (fun _ h => h))
            refine E_sub [1, 2, 3, 4, 5, 6, 7, 8, 0] rfl ?_
            exact J49 _ 0 0 ma (Nat.lt_succ_self _) (show (0 : Int32).toInt = 0 from rfl) (Nat.zero_le _) (mp_0 hLa) hFa
      refine E_sub [4, 5, 6, 7, 3, 2, 1, 0] rfl ?_
      exact J37 _ 0 0 mi (Nat.lt_succ_self _) (show (0 : Int32).toInt = 0 from rfl) (Nat.zero_le _) (mp_0 H) Fr_r
set_option maxHeartbeats 1600000 in
set_option maxRecDepth 100000 in
theorem c_X3_gatherPairs2 (l : Launch) (hfl : l.stackTraces = false) (mi : MI) (ml : MJ) (V : Nat → Int32) (hV : WFV V) (hD : DR 1 mi V) (n : Nat) (hn : (V 5).toInt = (n : Int)) (xs : Int32) (s : Nat) (hxs : xs.toInt = (s : Int)) (m0 : MI) (hbt : (DV V).1.testBit 2 = true) (H : MxL (DV V) m0 mi (stK (DV V) s n 2)) (h10 : n ≤ 10) : Ct l yX3_gatherPairs (.code yX3_gatherPairs cX3_gatherPairs 11 none) 2 0 0 [.ref 51, .ref 1, .int xs, .int 2] (wl mi ml) (QV (fun mi9 ml9 => ml = ml9 ∧ MxL (DV V) m0 mi9 (stK (DV V) s n 3) ∧ Fr [51, 52] mi mi9)) noX := by
  refine Ct_of (ini := false) pn_X3 hfl (fun h => nomatch h) (Nat.le_of_ble_eq_true rfl) ?_
  show E l RX3 cX3_gatherPairs 11 none false [] (rmE 2 0 0) (wl mi ml) (TgM (wl mi ml) 0 0 (QV (fun mi9 ml9 => ml = ml9 ∧ MxL (DV V) m0 mi9 (stK (DV V) s n 3) ∧ Fr [51, 52] mi mi9)) noX) 0 0 0 [(0, .ref 51), (1, .ref 1), (2, .int xs), (3, .int 2)] [] (wl mi ml)
  refine E_iload_n 3 dX3_gatherPairs_0 rfl rfl ?_
  refine Y_ne 2 (show (2 : Int32).toInt = 2 from rfl) 8 dX3_gatherPairs_1 (by decide) (fun c_1 => ?_) (fun c_1 => ?_)
  · skip
    refine E_iconst 3 (by decide) dX3_gatherPairs_8 ?_
    refine E_istore [(4, .int 3), (0, .ref 51), (1, .ref 1), (2, .int xs), (3, .int 2)] dX3_gatherPairs_9 (by decide) rfl ?_
    refine E_iload 0 dX3_gatherPairs_11 rfl ?_
    refine E_iconst 1 (by decide) dX3_gatherPairs_13 ?_
    refine E_isub dX3_gatherPairs_14 ?_
    refine E_istore [(5, .int (3 - 1)), (4, .int 3), (0, .ref 51), (1, .ref 1), (2, .int xs), (3, .int 2)] dX3_gatherPairs_15 (by decide) rfl ?_
    refine E_iload_n 5 dX3_gatherPairs_17 rfl rfl ?_
    refine Y_ne 2 (show (2 : Int32).toInt = 2 from rfl) 28 dX3_gatherPairs_18 (by decide) (fun c_18 => ?_) (fun c_18 => ?_)
    · skip
      refine E_aload_n 3 dX3_gatherPairs_28 rfl rfl ?_
      refine gf_X3_35 (V 2) isD_1.t rfl hD.1.2.2.1 dX3_gatherPairs_29 ?_
      refine E_istore [(6, .int (V 2)), (5, .int (3 - 1)), (4, .int 3), (0, .ref 51), (1, .ref 1), (2, .int xs), (3, .int 2)] dX3_gatherPairs_32 (by decide) rfl ?_
      refine E_iconst 0 (by decide) dX3_gatherPairs_34 ?_
      refine E_istore [(7, .int 0), (6, .int (V 2)), (5, .int (3 - 1)), (4, .int 3), (0, .ref 51), (1, .ref 1), (2, .int xs), (3, .int 2)] dX3_gatherPairs_35 (by decide) rfl ?_
      have J37 : ∀ (Nm : Nat) (xa : Int32) (a : Nat) (ma : MI), n - a < Nm → xa.toInt = (a : Int) → a ≤ n → MxL (DV V) m0 ma (stK (DV V) s n 2 ++ stA (DV V) s n 2 a) → Fr [51, 52] mi ma → E l RX3 cX3_gatherPairs 11 none false [] (rmE 2 0 0) (wl mi ml) (TgM (wl mi ml) 0 0 (QV (fun mi9 ml9 => ml = ml9 ∧ MxL (DV V) m0 mi9 (stK (DV V) s n 3) ∧ Fr [51, 52] mi mi9)) noX) 0 0 37 [(0, .ref 51), (1, .ref 1), (2, .int xs), (3, .int 2), (4, .int 3), (5, .int (3 - 1)), (6, .int (V 2)), (7, .int xa)] [] (wl ma ml) := by
        intro Nm
        induction Nm with
        | zero => intros; omega
        | succ Nm ih37 =>
          intro xa a ma hN37 hxa ha hLa hFa
          refine E_iload 7 dX3_gatherPairs_37 rfl ?_
          refine E_aload_n 1 dX3_gatherPairs_39 rfl rfl ?_
          refine gf_X3_38 (V 5) isD_1.t rfl ((congrFun (hFa 1 (by decide)) 5).trans hD.2.1.1) dX3_gatherPairs_40 ?_
          refine Z_ge (a : Int) (n : Int) hxa hn 156 dX3_gatherPairs_43 (by decide) (fun c_43 => ?_) (fun c_43 => ?_)
          · skip
            refine E_vret rfl (Nat.le_of_ble_eq_true rfl) (Nat.le_of_ble_eq_true rfl) dX3_gatherPairs_156 ?_
            exact okQV ⟨rfl, mp_k hLa (by omega), hFa⟩
          · skip
            refine E_iconst 0 (by decide) dX3_gatherPairs_46 ?_
            refine E_istore [(8, .int 0), (0, .ref 51), (1, .ref 1), (2, .int xs), (3, .int 2), (4, .int 3), (5, .int (3 - 1)), (6, .int (V 2)), (7, .int xa)] dX3_gatherPairs_47 (by decide) rfl ?_
            have J49 : ∀ (Nm : Nat) (xb : Int32) (b : Nat) (mb : MI), n - b < Nm → xb.toInt = (b : Int) → b ≤ n → MxL (DV V) m0 mb (stK (DV V) s n 2 ++ stA (DV V) s n 2 a ++ stB (DV V) s n 2 a b) → Fr [51, 52] mi mb → E l RX3 cX3_gatherPairs 11 none false [] (rmE 2 0 0) (wl mi ml) (TgM (wl mi ml) 0 0 (QV (fun mi9 ml9 => ml = ml9 ∧ MxL (DV V) m0 mi9 (stK (DV V) s n 3) ∧ Fr [51, 52] mi mi9)) noX) 0 0 49 [(0, .ref 51), (1, .ref 1), (2, .int xs), (3, .int 2), (4, .int 3), (5, .int (3 - 1)), (6, .int (V 2)), (7, .int xa), (8, .int xb)] [] (wl mb ml) := by
              intro Nm
              induction Nm with
              | zero => intros; omega
              | succ Nm ih49 =>
                intro xb b mb hN49 hxb hb hLb hFb
                refine E_iload 8 dX3_gatherPairs_49 rfl ?_
                refine E_aload_n 1 dX3_gatherPairs_51 rfl rfl ?_
                refine gf_X3_38 (V 5) isD_1.t rfl ((congrFun (hFb 1 (by decide)) 5).trans hD.2.1.1) dX3_gatherPairs_52 ?_
                refine Z_ge (b : Int) (n : Int) hxb hn 150 dX3_gatherPairs_55 (by decide) (fun c_55 => ?_) (fun c_55 => ?_)
                · skip
                  refine E_iinc 7 (xa + 1) [(7, .int (xa + 1)), (0, .ref 51), (1, .ref 1), (2, .int xs), (3, .int 2), (4, .int 3), (5, .int (3 - 1)), (6, .int (V 2)), (8, .int xb)] dX3_gatherPairs_150 rfl rfl (by decide) rfl ?_
                  refine E_goto 37 dX3_gatherPairs_153 (by decide) ?_
                  refine E_sub [1, 2, 3, 4, 5, 6, 7, 0] rfl ?_
                  exact ih37 (xa + 1) (a + 1) mb (by omega) ((tI_add hxa (show (1 : Int32).toInt = 1 from rfl) (by omega)).trans (by omega)) (by omega) (mp_a hLb (by omega)) hFb
                · skip
                  refine E_iload 7 dX3_gatherPairs_58 rfl ?_
                  refine E_iload 8 dX3_gatherPairs_60 rfl ?_
                  refine Z_eq (a : Int) (b : Int) hxa hxb 144 dX3_gatherPairs_62 (by decide) (fun c_62 => ?_) (fun c_62 => ?_)
                  · skip
                    refine E_iinc 8 (xb + 1) [(8, .int (xb + 1)), (0, .ref 51), (1, .ref 1), (2, .int xs), (3, .int 2), (4, .int 3), (5, .int (3 - 1)), (6, .int (V 2)), (7, .int xa)] dX3_gatherPairs_144 rfl rfl (by decide) rfl ?_
                    refine E_goto 49 dX3_gatherPairs_147 (by decide) ?_
                    refine E_sub [1, 2, 3, 4, 5, 6, 7, 8, 0] rfl ?_
                    exact ih49 (xb + 1) (b + 1) mb (by omega) ((tI_add hxb (show (1 : Int32).toInt = 1 from rfl) (by omega)).trans (by omega)) (by omega) (mp_b0 hLb (fun q => q.2.1 (by omega))) hFb
                  · skip
                    refine E_iload 7 dX3_gatherPairs_65 rfl ?_
                    refine E_iload_n 2 dX3_gatherPairs_67 rfl rfl ?_
                    refine E_i2l dX3_gatherPairs_68 ?_
                    refine E_callSN (c_X5_isIn l hfl mb ml xa (xs.toInt64) a (hxa.trans (by omega)) (by omega)) cw_X3_41 (As := [.int xa, .long (xs.toInt64)]) (st := []) ws_yX5_isIn rfl ⟨Nat.le_of_ble_eq_true rfl, Nat.le_of_ble_eq_true rfl, Nat.le_of_ble_eq_true rfl, Nat.le_of_ble_eq_true rfl⟩ (Nat.le_of_ble_eq_true rfl) dX3_gatherPairs_69 (fun _ _ h => h) rfl (kE ?_)
                    rw [show bI (lb (xs.toInt64) a = true) = bI (s.testBit a = true) from by rw [lb_i2l hxs (by omega)]]
                    refine B_eq 144 dX3_gatherPairs_72 (by decide) (fun c_72 => ?_) (fun c_72 => ?_)
                    · skip
                      refine E_iinc 8 (xb + 1) [(8, .int (xb + 1)), (0, .ref 51), (1, .ref 1), (2, .int xs), (3, .int 2), (4, .int 3), (5, .int (3 - 1)), (6, .int (V 2)), (7, .int xa)] dX3_gatherPairs_144 rfl rfl (by decide) rfl ?_
                      refine E_goto 49 dX3_gatherPairs_147 (by decide) ?_
                      refine E_sub [1, 2, 3, 4, 5, 6, 7, 8, 0] rfl ?_
                      exact ih49 (xb + 1) (b + 1) mb (by omega) ((tI_add hxb (show (1 : Int32).toInt = 1 from rfl) (by omega)).trans (by omega)) (by omega) (mp_b0 hLb (fun q => c_72 q.2.2.1)) hFb
                    · skip
                      refine E_iload 8 dX3_gatherPairs_75 rfl ?_
                      refine E_iload_n 2 dX3_gatherPairs_77 rfl rfl ?_
                      refine E_i2l dX3_gatherPairs_78 ?_
                      refine E_callSN (c_X5_isIn l hfl mb ml xb (xs.toInt64) b (hxb.trans (by omega)) (by omega)) cw_X3_41 (As := [.int xb, .long (xs.toInt64)]) (st := []) ws_yX5_isIn rfl ⟨Nat.le_of_ble_eq_true rfl, Nat.le_of_ble_eq_true rfl, Nat.le_of_ble_eq_true rfl, Nat.le_of_ble_eq_true rfl⟩ (Nat.le_of_ble_eq_true rfl) dX3_gatherPairs_79 (fun _ _ h => h) rfl (kE ?_)
                      rw [show bI (lb (xs.toInt64) b = true) = bI (s.testBit b = true) from by rw [lb_i2l hxs (by omega)]]
                      refine B_eq 144 dX3_gatherPairs_82 (by decide) (fun c_82 => ?_) (fun c_82 => ?_)
                      · skip
                        refine E_iinc 8 (xb + 1) [(8, .int (xb + 1)), (0, .ref 51), (1, .ref 1), (2, .int xs), (3, .int 2), (4, .int 3), (5, .int (3 - 1)), (6, .int (V 2)), (7, .int xa)] dX3_gatherPairs_144 rfl rfl (by decide) rfl ?_
                        refine E_goto 49 dX3_gatherPairs_147 (by decide) ?_
                        refine E_sub [1, 2, 3, 4, 5, 6, 7, 8, 0] rfl ?_
                        exact ih49 (xb + 1) (b + 1) mb (by omega) ((tI_add hxb (show (1 : Int32).toInt = 1 from rfl) (by omega)).trans (by omega)) (by omega) (mp_b0 hLb (fun q => c_82 q.2.2.2)) hFb
                      · skip
                        have hvB : vB s 2 a b := ⟨fun q => absurd q (by decide), by omega, c_72, c_82⟩
                        have ba := hV.b hn (show a < n by omega)
                        have bb := hV.b hn (show b < n by omega)
                        have bl := hV.l
                        refine E_iload 4 dX3_gatherPairs_85 rfl ?_
                        refine E_aload_n 1 dX3_gatherPairs_87 rfl rfl ?_
                        refine E_iload 7 dX3_gatherPairs_88 rfl ?_
                        refine E_callV (c_X1_channelOf l hfl 1 isD_1 mb ml xa a n (hxa.trans (by omega)) ((congrArg Int32.toInt ((congrFun (hFb 1 (by decide)) 5).trans hD.2.1.1)).trans hn) (by omega) (by omega)) cw_X3_45 (As := [.int xa]) (st := [.int 3]) wi_yX1_channelOf we_yX1_channelOf (ci := 1) (q := (RX1, TX1, 15)) rfl rfl (wl_atO isD_1.t) rfl ⟨Nat.le_of_ble_eq_true rfl, Nat.le_of_ble_eq_true rfl, Nat.le_of_ble_eq_true rfl, Nat.le_of_ble_eq_true rfl⟩ (Nat.le_of_ble_eq_true rfl) dX3_gatherPairs_90 (fun _ _ h => h) rfl (kE ?_)
                        rw [show mb 2 a = (V (6 + 2 * a)) from ((congrFun (hFb 2 (by decide)) a).trans (hD.2.2.1 a (by omega)).1)]
                        refine E_imul dX3_gatherPairs_93 ?_
                        refine E_iload 5 dX3_gatherPairs_94 rfl ?_
                        refine E_aload_n 1 dX3_gatherPairs_96 rfl rfl ?_
                        refine E_iload 8 dX3_gatherPairs_97 rfl ?_
                        refine E_callV (c_X1_channelOf l hfl 1 isD_1 mb ml xb b n (hxb.trans (by omega)) ((congrArg Int32.toInt ((congrFun (hFb 1 (by decide)) 5).trans hD.2.1.1)).trans hn) (by omega) (by omega)) cw_X3_45 (As := [.int xb]) (st := [.int (3 - 1), .int (3 * (V (6 + 2 * a)))]) wi_yX1_channelOf we_yX1_channelOf (ci := 1) (q := (RX1, TX1, 15)) rfl rfl (wl_atO isD_1.t) rfl ⟨Nat.le_of_ble_eq_true rfl, Nat.le_of_ble_eq_true rfl, Nat.le_of_ble_eq_true rfl, Nat.le_of_ble_eq_true rfl⟩ (Nat.le_of_ble_eq_true rfl) dX3_gatherPairs_99 (fun _ _ h => h) rfl (kE ?_)
                        rw [show mb 2 b = (V (6 + 2 * b)) from ((congrFun (hFb 2 (by decide)) b).trans (hD.2.2.1 b (by omega)).1)]
                        refine E_imul dX3_gatherPairs_102 ?_
                        refine E_isub dX3_gatherPairs_103 ?_
                        refine E_istore [(9, .int ((3 * (V (6 + 2 * a))) - ((3 - 1) * (V (6 + 2 * b))))), (0, .ref 51), (1, .ref 1), (2, .int xs), (3, .int 2), (4, .int 3), (5, .int (3 - 1)), (6, .int (V 2)), (7, .int xa), (8, .int xb)] dX3_gatherPairs_104 (by decide) rfl ?_
                        refine E_iload 5 dX3_gatherPairs_106 rfl ?_
                        refine E_aload_n 2 dX3_gatherPairs_108 rfl rfl ?_
                        refine E_iload 8 dX3_gatherPairs_109 rfl ?_
                        refine E_callV (c_X1_levelOf l hfl 1 isD_1 mb ml xa a n (hxa.trans (by omega)) ((congrArg Int32.toInt ((congrFun (hFb 1 (by decide)) 5).trans hD.2.1.1)).trans hn) (by omega) (by omega)) cw_X3_49 (As := [.int xa]) (st := [.int 3]) wi_yX1_levelOf we_yX1_levelOf (ci := 1) (q := (RX1, TX1, 15)) rfl rfl (wl_atO isD_1.t) rfl ⟨Nat.le_of_ble_eq_true rfl, Nat.le_of_ble_eq_true rfl, Nat.le_of_ble_eq_true rfl, Nat.le_of_ble_eq_true rfl⟩ (Nat.le_of_ble_eq_true rfl) dX3_gatherPairs_111 (fun _ _ h => h) rfl (kE ?_)
                        rw [show mb 3 a = (V (7 + 2 * a)) from ((congrFun (hFb 3 (by decide)) a).trans (hD.2.2.1 a (by omega)).2)]
                        refine E_imul dX3_gatherPairs_114 ?_
                        refine E_iload 6 dX3_gatherPairs_115 rfl ?_
                        refine E_aload_n 2 dX3_gatherPairs_117 rfl rfl ?_
                        refine E_iload 9 dX3_gatherPairs_118 rfl ?_
                        refine E_callV (c_X1_levelOf l hfl 1 isD_1 mb ml xb b n (hxb.trans (by omega)) ((congrArg Int32.toInt ((congrFun (hFb 1 (by decide)) 5).trans hD.2.1.1)).trans hn) (by omega) (by omega)) cw_X3_49 (As := [.int xb]) (st := [.int (3 - 1), .int (3 * (V (7 + 2 * a)))]) wi_yX1_levelOf we_yX1_levelOf (ci := 1) (q := (RX1, TX1, 15)) rfl rfl (wl_atO isD_1.t) rfl ⟨Nat.le_of_ble_eq_true rfl, Nat.le_of_ble_eq_true rfl, Nat.le_of_ble_eq_true rfl, Nat.le_of_ble_eq_true rfl⟩ (Nat.le_of_ble_eq_true rfl) dX3_gatherPairs_120 (fun _ _ h => h) rfl (kE ?_)
                        rw [show mb 3 b = (V (7 + 2 * b)) from ((congrFun (hFb 3 (by decide)) b).trans (hD.2.2.1 b (by omega)).2)]
                        refine E_imul dX3_gatherPairs_123 ?_
                        refine E_iadd dX3_gatherPairs_124 ?_
                        refine E_iload 7 dX3_gatherPairs_125 rfl ?_
                        refine E_isub dX3_gatherPairs_127 ?_
                        refine E_istore [(10, .int (((3 * (V (7 + 2 * a))) + ((3 - 1) * (V (7 + 2 * b)))) - (V 2))), (9, .int ((3 * (V (6 + 2 * a))) - ((3 - 1) * (V (6 + 2 * b))))), (0, .ref 51), (1, .ref 1), (2, .int xs), (3, .int 2), (4, .int 3), (5, .int (3 - 1)), (6, .int (V 2)), (7, .int xa), (8, .int xb)] dX3_gatherPairs_128 (by decide) rfl ?_
                        refine E_aload_n 2 dX3_gatherPairs_130 rfl rfl ?_
                        refine E_iload_n 5 dX3_gatherPairs_131 rfl rfl ?_
                        refine E_iload 9 dX3_gatherPairs_132 rfl ?_
                        refine E_iload 10 dX3_gatherPairs_134 rfl ?_
                        refine E_iconst (-1) (by decide) dX3_gatherPairs_136 ?_
                        refine E_iload 1 dX3_gatherPairs_137 rfl ?_
                        refine E_iload 0 dX3_gatherPairs_139 rfl ?_
                        refine E_callV (c_X3_put l hfl mb ml (DV V) m0 (stK (DV V) s n 2 ++ stA (DV V) s n 2 a ++ stB (DV V) s n 2 a b) 2 a b 0 2 xa xb (-1) ((3 * (V (6 + 2 * a))) - ((3 - 1) * (V (6 + 2 * b)))) (((3 * (V (7 + 2 * a))) + ((3 - 1) * (V (7 + 2 * b)))) - (V 2)) rfl hxa hxb (xc_1 (by decide) rfl) ((tI_sub (tI_mul (show (3 : Int32).toInt = 3 from rfl) rfl (by omega)) (tI_mul (tI_sub (show (3 : Int32).toInt = 3 from rfl) (show (1 : Int32).toInt = 1 from rfl) (by omega)) rfl (by omega)) (by omega)).trans (by show _ = 3 * (V (6 + 2 * a)).toInt - 2 * (V (6 + 2 * b)).toInt; omega)) ((tI_sub (tI_add (tI_mul (show (3 : Int32).toInt = 3 from rfl) rfl (by omega)) (tI_mul (tI_sub (show (3 : Int32).toInt = 3 from rfl) (show (1 : Int32).toInt = 1 from rfl) (by omega)) rfl (by omega)) (by omega)) rfl (by omega)).trans (by show _ = 3 * (V (7 + 2 * a)).toInt + 2 * (V (7 + 2 * b)).toInt - (V 2).toInt; omega)) hbt hLb (by simp only [List.length_append]; exact (st_room (c := 0) h10 (by decide) (by omega) (by omega) (by exact Nat.one_pos) (by omega) (by omega)))) cw_X3_52 (As := [.int 2, .int xa, .int xb, .int (-1), .int ((3 * (V (6 + 2 * a))) - ((3 - 1) * (V (6 + 2 * b)))), .int (((3 * (V (7 + 2 * a))) + ((3 - 1) * (V (7 + 2 * b)))) - (V 2))]) (st := []) wi_yX3_put we_yX3_put (ci := 3) (q := (RX3, TX3, 2)) rfl rfl (wl_atO tw_51) rfl ⟨Nat.le_of_ble_eq_true rfl, Nat.le_of_ble_eq_true rfl, Nat.le_of_ble_eq_true rfl, Nat.le_of_ble_eq_true rfl⟩ (Nat.le_of_ble_eq_true rfl) dX3_gatherPairs_141 (fun _ _ h => h) rfl (kV (fun mi_141 ml_141 h_141 => ?_))
                        obtain ⟨rfl, h_141⟩ := h_141
                        refine E_iinc 10 (xb + 1) [(8, .int (xb + 1)), (10, .int (((3 * (V (7 + 2 * a))) + ((3 - 1) * (V (7 + 2 * b)))) - (V 2))), (9, .int ((3 * (V (6 + 2 * a))) - ((3 - 1) * (V (6 + 2 * b))))), (0, .ref 51), (1, .ref 1), (2, .int xs), (3, .int 2), (4, .int 3), (5, .int (3 - 1)), (6, .int (V 2)), (7, .int xa)] dX3_gatherPairs_144 rfl rfl (by decide) rfl ?_
                        refine E_goto 49 dX3_gatherPairs_147 (by decide) ?_
                        refine E_sub [3, 4, 5, 6, 7, 8, 9, 10, 0] rfl ?_
                        exact ih49 (xb + 1) (b + 1) mi_141 (by omega) ((tI_add hxb (show (1 : Int32).toInt = 1 from rfl) (by omega)).trans (by omega)) (by omega) (mp_e h_141.1 (mp_c0 (by decide) hvB)) (hFb.trans h_141.2 (fun _ h => h) (fun _ h => h))
            refine E_sub [1, 2, 3, 4, 5, 6, 7, 8, 0] rfl ?_
            exact J49 _ 0 0 ma (Nat.lt_succ_self _) (show (0 : Int32).toInt = 0 from rfl) (Nat.zero_le _) (mp_0 hLa) hFa
      refine E_sub [4, 5, 6, 7, 3, 2, 1, 0] rfl ?_
      exact J37 _ 0 0 mi (Nat.lt_succ_self _) (show (0 : Int32).toInt = 0 from rfl) (Nat.zero_le _) (mp_0 H) Fr_r
    · exact absurd c_18 (by decide)
  · exact absurd c_1 (by decide)
theorem mp_c1 {D : RD} {m0 mi : MI} {s a b c : Nat} {L : List Q4} (hv : vB s 1 a b) (hc : vC s 1 a b c) (H : MxL D m0 mi (L ++ ifp (vB s 1 a b) (stC D s 1 a b c) [] ++ ifp (Sg D 1 a b c) [(1, a, b, c)] [])) : MxL D m0 mi (L ++ ifp (vB s 1 a b) (stC D s 1 a b (c + 1)) []) := by
  refine mp_e H ?_
  rw [ifp_t hv, ifp_t hv, List.append_assoc]
  congr 1
  rcases Classical.em (Sg D 1 a b c) with h | h
  · rw [ifp_t h, st_c1 hc h]
  · rw [ifp_f h, st_c0 (fun q => h q.2), List.append_nil]
theorem mp_cn {D : RD} {m0 mi : MI} {s a b c : Nat} {L : List Q4} (H : MxL D m0 mi (L ++ ifp (vB s 1 a b) (stC D s 1 a b c) [])) (hn : vB s 1 a b → ¬ vC s 1 a b c) : MxL D m0 mi (L ++ ifp (vB s 1 a b) (stC D s 1 a b (c + 1)) []) := by
  refine mp_e H ?_
  rcases Classical.em (vB s 1 a b) with h | h
  · rw [ifp_t h, ifp_t h, st_c0 (fun q => hn h q.1)]
  · rw [ifp_f h, ifp_f h]
theorem mp_cz {D : RD} {m0 mi : MI} {s a b : Nat} {L : List Q4} (H : MxL D m0 mi L) : MxL D m0 mi (L ++ ifp (vB s 1 a b) (stC D s 1 a b 0) []) := by
  refine mp_e H ?_
  rcases Classical.em (vB s 1 a b) with h | h
  · rw [ifp_t h, stC, List.append_nil]
  · rw [ifp_f h, List.append_nil]
theorem mp_cb {D : RD} {m0 mi : MI} {s n a b c : Nat} {L : List Q4} (H : MxL D m0 mi (L ++ stB D s n 1 a b ++ ifp (vB s 1 a b) (stC D s 1 a b c) [])) (e : c = n) : MxL D m0 mi (L ++ stB D s n 1 a (b + 1)) := by
  subst e
  rw [stB, ← List.append_assoc]; exact H
theorem mp_b9 {D : RD} {m0 mi : MI} {s n a : Nat} {L : List Q4} (H : MxL D m0 mi L) : MxL D m0 mi (L ++ stB D s n 1 a (a + 1)) := by
  rw [stB_0 _ (Nat.le_refl _), List.append_nil]; exact H
theorem mp_off {D : RD} {m0 mi : MI} {s n kd : Nat} (H : MxL D m0 mi (stK D s n kd)) (h : D.1.testBit kd = false) : MxL D m0 mi (stK D s n (kd + 1)) := by
  rw [stK, stA_off h, List.append_nil]; exact H
theorem kb_t : ∀ k, k < 8 → (((nI k &&& 1).toInt = 0 ↔ k.testBit 0 = false) ∧ ((nI k &&& 2).toInt = 0 ↔ k.testBit 1 = false) ∧ ((nI k &&& 4).toInt = 0 ↔ k.testBit 2 = false)) := by decide +kernel
theorem kb_V {V : Nat → Int32} (hw : WFV V) : (((V 0 &&& 1).toInt = 0 ↔ (DV V).1.testBit 0 = false) ∧ ((V 0 &&& 2).toInt = 0 ↔ (DV V).1.testBit 1 = false) ∧ ((V 0 &&& 4).toInt = 0 ↔ (DV V).1.testBit 2 = false)) := by
  have h := hw.1.1
  have e : V 0 = nI (V 0).toInt.toNat := tI_nIx (by omega)
  have h2 := kb_t (V 0).toInt.toNat (by omega)
  rw [← e] at h2
  exact h2
theorem tb_nf {x : Bool} (h : ¬ x = false) : x = true := ts_nf h
set_option maxHeartbeats 1600000 in
set_option maxRecDepth 100000 in
theorem c_X3_gatherTriples (l : Launch) (hfl : l.stackTraces = false) (mi : MI) (ml : MJ) (V : Nat → Int32) (hV : WFV V) (hD : DR 1 mi V) (n : Nat) (hn : (V 5).toInt = (n : Int)) (xs : Int32) (s : Nat) (hxs : xs.toInt = (s : Int)) (m0 : MI) (hbt : (DV V).1.testBit 1 = true) (H : MxL (DV V) m0 mi (stK (DV V) s n 1)) (h10 : n ≤ 10) : Ct l yX3_gatherTriples (.code yX3_gatherTriples cX3_gatherTriples 8 none) 2 0 0 [.ref 51, .ref 1, .int xs] (wl mi ml) (QV (fun mi9 ml9 => ml = ml9 ∧ MxL (DV V) m0 mi9 (stK (DV V) s n 2) ∧ Fr [51, 52] mi mi9)) noX := by
  refine Ct_of (ini := false) pn_X3 hfl (fun h => nomatch h) (Nat.le_of_ble_eq_true rfl) ?_
  show E l RX3 cX3_gatherTriples 8 none false [] (rmE 2 0 0) (wl mi ml) (TgM (wl mi ml) 0 0 (QV (fun mi9 ml9 => ml = ml9 ∧ MxL (DV V) m0 mi9 (stK (DV V) s n 2) ∧ Fr [51, 52] mi mi9)) noX) 0 0 0 [(0, .ref 51), (1, .ref 1), (2, .int xs)] [] (wl mi ml)
  refine E_iconst 0 (by decide) dX3_gatherTriples_0 ?_
  refine E_istore_n [(3, .int 0), (0, .ref 51), (1, .ref 1), (2, .int xs)] dX3_gatherTriples_1 rfl (by decide) rfl ?_
  have J2 : ∀ (Nm : Nat) (xa : Int32) (a : Nat) (ma : MI), n - a < Nm → xa.toInt = (a : Int) → a ≤ n → MxL (DV V) m0 ma (stK (DV V) s n 1 ++ stA (DV V) s n 1 a) → Fr [51, 52] mi ma → E l RX3 cX3_gatherTriples 8 none false [] (rmE 2 0 0) (wl mi ml) (TgM (wl mi ml) 0 0 (QV (fun mi9 ml9 => ml = ml9 ∧ MxL (DV V) m0 mi9 (stK (DV V) s n 2) ∧ Fr [51, 52] mi mi9)) noX) 0 0 2 [(0, .ref 51), (1, .ref 1), (2, .int xs), (3, .int xa)] [] (wl ma ml) := by
    intro Nm
    induction Nm with
    | zero => intros; omega
    | succ Nm ih2 =>
      intro xa a ma hN2 hxa ha hLa hFa
      refine E_iload_n 3 dX3_gatherTriples_2 rfl rfl ?_
      refine E_aload_n 1 dX3_gatherTriples_3 rfl rfl ?_
      refine gf_X3_38 (V 5) isD_1.t rfl ((congrFun (hFa 1 (by decide)) 5).trans hD.2.1.1) dX3_gatherTriples_4 ?_
      refine Z_ge (a : Int) (n : Int) hxa hn 157 dX3_gatherTriples_7 (by decide) (fun c_7 => ?_) (fun c_7 => ?_)
      · skip
        refine E_vret rfl (Nat.le_of_ble_eq_true rfl) (Nat.le_of_ble_eq_true rfl) dX3_gatherTriples_157 ?_
        exact okQV ⟨rfl, mp_k hLa (by omega), hFa⟩
      · skip
        refine E_iload_n 3 dX3_gatherTriples_10 rfl rfl ?_
        refine E_iconst 1 (by decide) dX3_gatherTriples_11 ?_
        refine E_iadd dX3_gatherTriples_12 ?_
        refine E_istore [(4, .int (xa + 1)), (0, .ref 51), (1, .ref 1), (2, .int xs), (3, .int xa)] dX3_gatherTriples_13 (by decide) rfl ?_
        have J15 : ∀ (Nm : Nat) (xb : Int32) (b : Nat) (mb : MI), n + 1 - b < Nm → xb.toInt = (b : Int) → b ≤ n → a < b → MxL (DV V) m0 mb (stK (DV V) s n 1 ++ stA (DV V) s n 1 a ++ stB (DV V) s n 1 a b) → Fr [51, 52] mi mb → E l RX3 cX3_gatherTriples 8 none false [] (rmE 2 0 0) (wl mi ml) (TgM (wl mi ml) 0 0 (QV (fun mi9 ml9 => ml = ml9 ∧ MxL (DV V) m0 mi9 (stK (DV V) s n 2) ∧ Fr [51, 52] mi mi9)) noX) 0 0 15 [(0, .ref 51), (1, .ref 1), (2, .int xs), (3, .int xa), (4, .int xb)] [] (wl mb ml) := by
          intro Nm
          induction Nm with
          | zero => intros; omega
          | succ Nm ih15 =>
            intro xb b mb hN15 hxb hb hab hLb hFb
            refine E_iload 4 dX3_gatherTriples_15 rfl ?_
            refine E_aload_n 1 dX3_gatherTriples_17 rfl rfl ?_
            refine gf_X3_38 (V 5) isD_1.t rfl ((congrFun (hFb 1 (by decide)) 5).trans hD.2.1.1) dX3_gatherTriples_18 ?_
            refine Z_ge (b : Int) (n : Int) hxb hn 151 dX3_gatherTriples_21 (by decide) (fun c_21 => ?_) (fun c_21 => ?_)
            · skip
              refine E_iinc 3 (xa + 1) [(3, .int (xa + 1)), (0, .ref 51), (1, .ref 1), (2, .int xs), (4, .int xb)] dX3_gatherTriples_151 rfl rfl (by decide) rfl ?_
              refine E_goto 2 dX3_gatherTriples_154 (by decide) ?_
              refine E_sub [1, 2, 3, 0] rfl ?_
              exact ih2 (xa + 1) (a + 1) mb (by omega) ((tI_add hxa (show (1 : Int32).toInt = 1 from rfl) (by omega)).trans (by omega)) (by omega) (mp_a hLb (by omega)) hFb
            · skip
              refine E_iconst 0 (by decide) dX3_gatherTriples_24 ?_
              refine E_istore [(5, .int 0), (0, .ref 51), (1, .ref 1), (2, .int xs), (3, .int xa), (4, .int xb)] dX3_gatherTriples_25 (by decide) rfl ?_
              have J27 : ∀ (Nm : Nat) (xc : Int32) (c : Nat) (mc : MI), n - c < Nm → xc.toInt = (c : Int) → c ≤ n → MxL (DV V) m0 mc (stK (DV V) s n 1 ++ stA (DV V) s n 1 a ++ stB (DV V) s n 1 a b ++ ifp (vB s 1 a b) (stC (DV V) s 1 a b c) []) → Fr [51, 52] mi mc → E l RX3 cX3_gatherTriples 8 none false [] (rmE 2 0 0) (wl mi ml) (TgM (wl mi ml) 0 0 (QV (fun mi9 ml9 => ml = ml9 ∧ MxL (DV V) m0 mi9 (stK (DV V) s n 2) ∧ Fr [51, 52] mi mi9)) noX) 0 0 27 [(0, .ref 51), (1, .ref 1), (2, .int xs), (3, .int xa), (4, .int xb), (5, .int xc)] [] (wl mc ml) := by
                intro Nm
                induction Nm with
                | zero => intros; omega
                | succ Nm ih27 =>
                  intro xc c mc hN27 hxc hc hLc hFc
                  refine E_iload 5 dX3_gatherTriples_27 rfl ?_
                  refine E_aload_n 1 dX3_gatherTriples_29 rfl rfl ?_
                  refine gf_X3_38 (V 5) isD_1.t rfl ((congrFun (hFc 1 (by decide)) 5).trans hD.2.1.1) dX3_gatherTriples_30 ?_
                  refine Z_ge (c : Int) (n : Int) hxc hn 145 dX3_gatherTriples_33 (by decide) (fun c_33 => ?_) (fun c_33 => ?_)
                  · skip
                    refine E_iinc 4 (xb + 1) [(4, .int (xb + 1)), (0, .ref 51), (1, .ref 1), (2, .int xs), (3, .int xa), (5, .int xc)] dX3_gatherTriples_145 rfl rfl (by decide) rfl ?_
                    refine E_goto 15 dX3_gatherTriples_148 (by decide) ?_
                    refine E_sub [1, 2, 3, 4, 0] rfl ?_
                    exact ih15 (xb + 1) (b + 1) mc (by omega) ((tI_add hxb (show (1 : Int32).toInt = 1 from rfl) (by omega)).trans (by omega)) (by omega) (by omega) (mp_cb hLc (by omega)) hFc
                  · skip
                    refine E_iload 5 dX3_gatherTriples_36 rfl ?_
                    refine E_iload_n 3 dX3_gatherTriples_38 rfl rfl ?_
                    refine Z_eq (c : Int) (a : Int) hxc hxa 139 dX3_gatherTriples_39 (by decide) (fun c_39 => ?_) (fun c_39 => ?_)
                    · skip
                      refine E_iinc 5 (xc + 1) [(5, .int (xc + 1)), (0, .ref 51), (1, .ref 1), (2, .int xs), (3, .int xa), (4, .int xb)] dX3_gatherTriples_139 rfl rfl (by decide) rfl ?_
                      refine E_goto 27 dX3_gatherTriples_142 (by decide) ?_
                      refine E_sub [1, 2, 3, 4, 5, 0] rfl ?_
                      exact ih27 (xc + 1) (c + 1) mc (by omega) ((tI_add hxc (show (1 : Int32).toInt = 1 from rfl) (by omega)).trans (by omega)) (by omega) (mp_cn hLc (fun q z => z.elim (fun z => z rfl) (fun z => z.1 (by omega)))) hFc
                    · skip
                      refine E_iload 5 dX3_gatherTriples_42 rfl ?_
                      refine E_iload 4 dX3_gatherTriples_44 rfl ?_
                      refine Z_eq (c : Int) (b : Int) hxc hxb 139 dX3_gatherTriples_46 (by decide) (fun c_46 => ?_) (fun c_46 => ?_)
                      · skip
                        refine E_iinc 5 (xc + 1) [(5, .int (xc + 1)), (0, .ref 51), (1, .ref 1), (2, .int xs), (3, .int xa), (4, .int xb)] dX3_gatherTriples_139 rfl rfl (by decide) rfl ?_
                        refine E_goto 27 dX3_gatherTriples_142 (by decide) ?_
                        refine E_sub [1, 2, 3, 4, 5, 0] rfl ?_
                        exact ih27 (xc + 1) (c + 1) mc (by omega) ((tI_add hxc (show (1 : Int32).toInt = 1 from rfl) (by omega)).trans (by omega)) (by omega) (mp_cn hLc (fun q z => z.elim (fun z => z rfl) (fun z => z.2.1 (by omega)))) hFc
                      · skip
                        refine E_iload_n 3 dX3_gatherTriples_49 rfl rfl ?_
                        refine E_iload_n 2 dX3_gatherTriples_50 rfl rfl ?_
                        refine E_i2l dX3_gatherTriples_51 ?_
                        refine E_callSN (c_X5_isIn l hfl mc ml xa (xs.toInt64) a (hxa.trans (by omega)) (by omega)) cw_X3_41 (As := [.int xa, .long (xs.toInt64)]) (st := []) ws_yX5_isIn rfl ⟨Nat.le_of_ble_eq_true rfl, Nat.le_of_ble_eq_true rfl, Nat.le_of_ble_eq_true rfl, Nat.le_of_ble_eq_true rfl⟩ (Nat.le_of_ble_eq_true rfl) dX3_gatherTriples_52 (fun _ _ h => h) rfl (kE ?_)
                        rw [show bI (lb (xs.toInt64) a = true) = bI (s.testBit a = true) from by rw [lb_i2l hxs (by omega)]]
                        refine B_eq 139 dX3_gatherTriples_55 (by decide) (fun c_55 => ?_) (fun c_55 => ?_)
                        · skip
                          refine E_iinc 5 (xc + 1) [(5, .int (xc + 1)), (0, .ref 51), (1, .ref 1), (2, .int xs), (3, .int xa), (4, .int xb)] dX3_gatherTriples_139 rfl rfl (by decide) rfl ?_
                          refine E_goto 27 dX3_gatherTriples_142 (by decide) ?_
                          refine E_sub [1, 2, 3, 4, 5, 0] rfl ?_
                          exact ih27 (xc + 1) (c + 1) mc (by omega) ((tI_add hxc (show (1 : Int32).toInt = 1 from rfl) (by omega)).trans (by omega)) (by omega) (mp_cn hLc (fun q z => c_55 q.2.2.1)) hFc
                        · skip
                          refine E_iload 4 dX3_gatherTriples_58 rfl ?_
                          refine E_iload_n 2 dX3_gatherTriples_60 rfl rfl ?_
                          refine E_i2l dX3_gatherTriples_61 ?_
                          refine E_callSN (c_X5_isIn l hfl mc ml xb (xs.toInt64) b (hxb.trans (by omega)) (by omega)) cw_X3_41 (As := [.int xb, .long (xs.toInt64)]) (st := []) ws_yX5_isIn rfl ⟨Nat.le_of_ble_eq_true rfl, Nat.le_of_ble_eq_true rfl, Nat.le_of_ble_eq_true rfl, Nat.le_of_ble_eq_true rfl⟩ (Nat.le_of_ble_eq_true rfl) dX3_gatherTriples_62 (fun _ _ h => h) rfl (kE ?_)
                          rw [show bI (lb (xs.toInt64) b = true) = bI (s.testBit b = true) from by rw [lb_i2l hxs (by omega)]]
                          refine B_eq 139 dX3_gatherTriples_65 (by decide) (fun c_65 => ?_) (fun c_65 => ?_)
                          · skip
                            refine E_iinc 5 (xc + 1) [(5, .int (xc + 1)), (0, .ref 51), (1, .ref 1), (2, .int xs), (3, .int xa), (4, .int xb)] dX3_gatherTriples_139 rfl rfl (by decide) rfl ?_
                            refine E_goto 27 dX3_gatherTriples_142 (by decide) ?_
                            refine E_sub [1, 2, 3, 4, 5, 0] rfl ?_
                            exact ih27 (xc + 1) (c + 1) mc (by omega) ((tI_add hxc (show (1 : Int32).toInt = 1 from rfl) (by omega)).trans (by omega)) (by omega) (mp_cn hLc (fun q z => c_65 q.2.2.2)) hFc
                          · skip
                            refine E_iload 5 dX3_gatherTriples_68 rfl ?_
                            refine E_iload_n 2 dX3_gatherTriples_70 rfl rfl ?_
                            refine E_i2l dX3_gatherTriples_71 ?_
                            refine E_callSN (c_X5_isIn l hfl mc ml xc (xs.toInt64) c (hxc.trans (by omega)) (by omega)) cw_X3_41 (As := [.int xc, .long (xs.toInt64)]) (st := []) ws_yX5_isIn rfl ⟨Nat.le_of_ble_eq_true rfl, Nat.le_of_ble_eq_true rfl, Nat.le_of_ble_eq_true rfl, Nat.le_of_ble_eq_true rfl⟩ (Nat.le_of_ble_eq_true rfl) dX3_gatherTriples_72 (fun _ _ h => h) rfl (kE ?_)
                            rw [show bI (lb (xs.toInt64) c = true) = bI (s.testBit c = true) from by rw [lb_i2l hxs (by omega)]]
                            refine B_eq 139 dX3_gatherTriples_75 (by decide) (fun c_75 => ?_) (fun c_75 => ?_)
                            · skip
                              refine E_iinc 5 (xc + 1) [(5, .int (xc + 1)), (0, .ref 51), (1, .ref 1), (2, .int xs), (3, .int xa), (4, .int xb)] dX3_gatherTriples_139 rfl rfl (by decide) rfl ?_
                              refine E_goto 27 dX3_gatherTriples_142 (by decide) ?_
                              refine E_sub [1, 2, 3, 4, 5, 0] rfl ?_
                              exact ih27 (xc + 1) (c + 1) mc (by omega) ((tI_add hxc (show (1 : Int32).toInt = 1 from rfl) (by omega)).trans (by omega)) (by omega) (mp_cn hLc (fun q z => z.elim (fun z => z rfl) (fun z => c_75 z.2.2))) hFc
                            · skip
                              have hvB : vB s 1 a b := ⟨fun _ => hab, by omega, c_55, c_65⟩
                              have hvC : vC s 1 a b c := Or.inr ⟨by omega, by omega, c_75⟩
                              have ba := hV.b hn (show a < n by omega)
                              have bb := hV.b hn (show b < n by omega)
                              have bc := hV.b hn (show c < n by omega)
                              have bl := hV.l
                              have nb : ¬ ((1 = 1 ∧ b ≤ a) ∨ a = b) := by omega
                              have nc : ¬ (1 = 1 ∧ (c = a ∨ c = b)) := by omega
                              refine E_aload_n 1 dX3_gatherTriples_78 rfl rfl ?_
                              refine E_iload_n 3 dX3_gatherTriples_79 rfl rfl ?_
                              refine E_callV (c_X1_channelOf l hfl 1 isD_1 mc ml xa a n (hxa.trans (by omega)) ((congrArg Int32.toInt ((congrFun (hFc 1 (by decide)) 5).trans hD.2.1.1)).trans hn) (by omega) (by omega)) cw_X3_45 (As := [.int xa]) (st := []) wi_yX1_channelOf we_yX1_channelOf (ci := 1) (q := (RX1, TX1, 15)) rfl rfl (wl_atO isD_1.t) rfl ⟨Nat.le_of_ble_eq_true rfl, Nat.le_of_ble_eq_true rfl, Nat.le_of_ble_eq_true rfl, Nat.le_of_ble_eq_true rfl⟩ (Nat.le_of_ble_eq_true rfl) dX3_gatherTriples_80 (fun _ _ h => h) rfl (kE ?_)
                              rw [show mc 2 a = (V (6 + 2 * a)) from ((congrFun (hFc 2 (by decide)) a).trans (hD.2.2.1 a (by omega)).1)]
                              refine E_aload_n 1 dX3_gatherTriples_83 rfl rfl ?_
                              refine E_iload 4 dX3_gatherTriples_84 rfl ?_
                              refine E_callV (c_X1_channelOf l hfl 1 isD_1 mc ml xb b n (hxb.trans (by omega)) ((congrArg Int32.toInt ((congrFun (hFc 1 (by decide)) 5).trans hD.2.1.1)).trans hn) (by omega) (by omega)) cw_X3_45 (As := [.int xb]) (st := [.int (V (6 + 2 * a))]) wi_yX1_channelOf we_yX1_channelOf (ci := 1) (q := (RX1, TX1, 15)) rfl rfl (wl_atO isD_1.t) rfl ⟨Nat.le_of_ble_eq_true rfl, Nat.le_of_ble_eq_true rfl, Nat.le_of_ble_eq_true rfl, Nat.le_of_ble_eq_true rfl⟩ (Nat.le_of_ble_eq_true rfl) dX3_gatherTriples_86 (fun _ _ h => h) rfl (kE ?_)
                              rw [show mc 2 b = (V (6 + 2 * b)) from ((congrFun (hFc 2 (by decide)) b).trans (hD.2.2.1 b (by omega)).1)]
                              refine E_iadd dX3_gatherTriples_89 ?_
                              refine E_aload_n 1 dX3_gatherTriples_90 rfl rfl ?_
                              refine E_iload 5 dX3_gatherTriples_91 rfl ?_
                              refine E_callV (c_X1_channelOf l hfl 1 isD_1 mc ml xc c n (hxc.trans (by omega)) ((congrArg Int32.toInt ((congrFun (hFc 1 (by decide)) 5).trans hD.2.1.1)).trans hn) (by omega) (by omega)) cw_X3_45 (As := [.int xc]) (st := [.int ((V (6 + 2 * a)) + (V (6 + 2 * b)))]) wi_yX1_channelOf we_yX1_channelOf (ci := 1) (q := (RX1, TX1, 15)) rfl rfl (wl_atO isD_1.t) rfl ⟨Nat.le_of_ble_eq_true rfl, Nat.le_of_ble_eq_true rfl, Nat.le_of_ble_eq_true rfl, Nat.le_of_ble_eq_true rfl⟩ (Nat.le_of_ble_eq_true rfl) dX3_gatherTriples_93 (fun _ _ h => h) rfl (kE ?_)
                              rw [show mc 2 c = (V (6 + 2 * c)) from ((congrFun (hFc 2 (by decide)) c).trans (hD.2.2.1 c (by omega)).1)]
                              refine E_isub dX3_gatherTriples_96 ?_
                              refine E_istore [(6, .int (((V (6 + 2 * a)) + (V (6 + 2 * b))) - (V (6 + 2 * c)))), (0, .ref 51), (1, .ref 1), (2, .int xs), (3, .int xa), (4, .int xb), (5, .int xc)] dX3_gatherTriples_97 (by decide) rfl ?_
                              refine E_aload_n 2 dX3_gatherTriples_99 rfl rfl ?_
                              refine E_iload_n 4 dX3_gatherTriples_100 rfl rfl ?_
                              refine E_callV (c_X1_levelOf l hfl 1 isD_1 mc ml xa a n (hxa.trans (by omega)) ((congrArg Int32.toInt ((congrFun (hFc 1 (by decide)) 5).trans hD.2.1.1)).trans hn) (by omega) (by omega)) cw_X3_49 (As := [.int xa]) (st := []) wi_yX1_levelOf we_yX1_levelOf (ci := 1) (q := (RX1, TX1, 15)) rfl rfl (wl_atO isD_1.t) rfl ⟨Nat.le_of_ble_eq_true rfl, Nat.le_of_ble_eq_true rfl, Nat.le_of_ble_eq_true rfl, Nat.le_of_ble_eq_true rfl⟩ (Nat.le_of_ble_eq_true rfl) dX3_gatherTriples_101 (fun _ _ h => h) rfl (kE ?_)
                              rw [show mc 3 a = (V (7 + 2 * a)) from ((congrFun (hFc 3 (by decide)) a).trans (hD.2.2.1 a (by omega)).2)]
                              refine E_aload_n 2 dX3_gatherTriples_104 rfl rfl ?_
                              refine E_iload 5 dX3_gatherTriples_105 rfl ?_
                              refine E_callV (c_X1_levelOf l hfl 1 isD_1 mc ml xb b n (hxb.trans (by omega)) ((congrArg Int32.toInt ((congrFun (hFc 1 (by decide)) 5).trans hD.2.1.1)).trans hn) (by omega) (by omega)) cw_X3_49 (As := [.int xb]) (st := [.int (V (7 + 2 * a))]) wi_yX1_levelOf we_yX1_levelOf (ci := 1) (q := (RX1, TX1, 15)) rfl rfl (wl_atO isD_1.t) rfl ⟨Nat.le_of_ble_eq_true rfl, Nat.le_of_ble_eq_true rfl, Nat.le_of_ble_eq_true rfl, Nat.le_of_ble_eq_true rfl⟩ (Nat.le_of_ble_eq_true rfl) dX3_gatherTriples_107 (fun _ _ h => h) rfl (kE ?_)
                              rw [show mc 3 b = (V (7 + 2 * b)) from ((congrFun (hFc 3 (by decide)) b).trans (hD.2.2.1 b (by omega)).2)]
                              refine E_iadd dX3_gatherTriples_110 ?_
                              refine E_aload_n 2 dX3_gatherTriples_111 rfl rfl ?_
                              refine E_iload 6 dX3_gatherTriples_112 rfl ?_
                              refine E_callV (c_X1_levelOf l hfl 1 isD_1 mc ml xc c n (hxc.trans (by omega)) ((congrArg Int32.toInt ((congrFun (hFc 1 (by decide)) 5).trans hD.2.1.1)).trans hn) (by omega) (by omega)) cw_X3_49 (As := [.int xc]) (st := [.int ((V (7 + 2 * a)) + (V (7 + 2 * b)))]) wi_yX1_levelOf we_yX1_levelOf (ci := 1) (q := (RX1, TX1, 15)) rfl rfl (wl_atO isD_1.t) rfl ⟨Nat.le_of_ble_eq_true rfl, Nat.le_of_ble_eq_true rfl, Nat.le_of_ble_eq_true rfl, Nat.le_of_ble_eq_true rfl⟩ (Nat.le_of_ble_eq_true rfl) dX3_gatherTriples_114 (fun _ _ h => h) rfl (kE ?_)
                              rw [show mc 3 c = (V (7 + 2 * c)) from ((congrFun (hFc 3 (by decide)) c).trans (hD.2.2.1 c (by omega)).2)]
                              refine E_iadd dX3_gatherTriples_117 ?_
                              refine E_aload_n 2 dX3_gatherTriples_118 rfl rfl ?_
                              refine gf_X3_32 (V 1) isD_1.t rfl ((congrFun (hFc 1 (by decide)) 1).trans hD.1.2.1) dX3_gatherTriples_119 ?_
                              refine E_isub dX3_gatherTriples_122 ?_
                              refine E_istore [(7, .int ((((V (7 + 2 * a)) + (V (7 + 2 * b))) + (V (7 + 2 * c))) - (V 1))), (6, .int (((V (6 + 2 * a)) + (V (6 + 2 * b))) - (V (6 + 2 * c)))), (0, .ref 51), (1, .ref 1), (2, .int xs), (3, .int xa), (4, .int xb), (5, .int xc)] dX3_gatherTriples_123 (by decide) rfl ?_
                              refine E_aload_n 2 dX3_gatherTriples_125 rfl rfl ?_
                              refine E_iconst 1 (by decide) dX3_gatherTriples_126 ?_
                              refine E_iload_n 5 dX3_gatherTriples_127 rfl rfl ?_
                              refine E_iload 6 dX3_gatherTriples_128 rfl ?_
                              refine E_iload 7 dX3_gatherTriples_130 rfl ?_
                              refine E_iload 1 dX3_gatherTriples_132 rfl ?_
                              refine E_iload 0 dX3_gatherTriples_134 rfl ?_
                              refine E_callV (c_X3_put l hfl mc ml (DV V) m0 (stK (DV V) s n 1 ++ stA (DV V) s n 1 a ++ stB (DV V) s n 1 a b ++ ifp (vB s 1 a b) (stC (DV V) s 1 a b c) []) 1 a b c 1 xa xb xc (((V (6 + 2 * a)) + (V (6 + 2 * b))) - (V (6 + 2 * c))) ((((V (7 + 2 * a)) + (V (7 + 2 * b))) + (V (7 + 2 * c))) - (V 1)) rfl hxa hxb (hxc.trans (if_pos rfl).symm) ((tI_sub (tI_add rfl rfl (by omega)) rfl (by omega)).trans (by show _ = (V (6 + 2 * a)).toInt + (V (6 + 2 * b)).toInt - (V (6 + 2 * c)).toInt; omega)) ((tI_sub (tI_add (tI_add rfl rfl (by omega)) rfl (by omega)) rfl (by omega)).trans (by show _ = (V (7 + 2 * a)).toInt + (V (7 + 2 * b)).toInt + (V (7 + 2 * c)).toInt - (V 1).toInt; omega)) hbt hLc (by rw [ifp_t hvB]; simp only [List.length_append]; exact (st_room h10 (by decide) (by omega) (by omega) (show c < n by omega) nb nc))) cw_X3_52 (As := [.int 1, .int xa, .int xb, .int xc, .int (((V (6 + 2 * a)) + (V (6 + 2 * b))) - (V (6 + 2 * c))), .int ((((V (7 + 2 * a)) + (V (7 + 2 * b))) + (V (7 + 2 * c))) - (V 1))]) (st := []) wi_yX3_put we_yX3_put (ci := 3) (q := (RX3, TX3, 2)) rfl rfl (wl_atO tw_51) rfl ⟨Nat.le_of_ble_eq_true rfl, Nat.le_of_ble_eq_true rfl, Nat.le_of_ble_eq_true rfl, Nat.le_of_ble_eq_true rfl⟩ (Nat.le_of_ble_eq_true rfl) dX3_gatherTriples_136 (fun _ _ h => h) rfl (kV (fun mi_136 ml_136 h_136 => ?_))
                              obtain ⟨rfl, h_136⟩ := h_136
                              refine E_iinc 7 (xc + 1) [(5, .int (xc + 1)), (7, .int ((((V (7 + 2 * a)) + (V (7 + 2 * b))) + (V (7 + 2 * c))) - (V 1))), (6, .int (((V (6 + 2 * a)) + (V (6 + 2 * b))) - (V (6 + 2 * c)))), (0, .ref 51), (1, .ref 1), (2, .int xs), (3, .int xa), (4, .int xb)] dX3_gatherTriples_139 rfl rfl (by decide) rfl ?_
                              refine E_goto 27 dX3_gatherTriples_142 (by decide) ?_
                              refine E_sub [3, 4, 5, 6, 7, 0] rfl ?_
                              exact ih27 (xc + 1) (c + 1) mi_136 (by omega) ((tI_add hxc (show (1 : Int32).toInt = 1 from rfl) (by omega)).trans (by omega)) (by omega) (mp_c1 hvB hvC h_136.1) (hFc.trans h_136.2 (fun _ h => h) (fun _ h => h))
              refine E_sub [1, 2, 3, 4, 5, 0] rfl ?_
              exact J27 _ 0 0 mb (Nat.lt_succ_self _) (show (0 : Int32).toInt = 0 from rfl) (Nat.zero_le _) (mp_cz hLb) hFb
        refine E_sub [1, 2, 3, 4, 0] rfl ?_
        exact J15 _ (xa + 1) (a + 1) ma (Nat.lt_succ_self _) ((tI_add hxa (show (1 : Int32).toInt = 1 from rfl) (by omega)).trans (by omega)) (by omega) (by omega) (mp_b9 hLa) hFa
  refine E_sub [1, 2, 3, 0] rfl ?_
  exact J2 _ 0 0 mi (Nat.lt_succ_self _) (show (0 : Int32).toInt = 0 from rfl) (Nat.zero_le _) (mp_0 H) Fr_r
end MIX
