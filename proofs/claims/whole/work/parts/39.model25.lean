section MO25
theorem SM_ra {mi mj : MI} (h : Fr [61, 71, 72] (u2 mi 61 5 0) mj) (hk : KF [15, 16, 18, 20, 21] (u2 mi 61 5 0) mj) : SM 0 mi mj :=
  ⟨Fr.trans (F := [61]) (Fr.rfl'.u (by decide)) h (by decide) (by decide), by rw [hk 2 (by decide), u2_n (by omega)], by rw [hk 4 (by decide), u2_n (by omega)], by rw [hk 5 (by decide), u2_s]⟩
/-- the block shows the draft -/
def prB (V W : Nat → Int32) (D : List (Nat × Nat)) (M : List Nat) : Prop := (W 5).toInt = (D.length : Int) ∧ (W 26).toInt = (M.length : Int) ∧ W 32 = 0 ∧ (∀ (k : Nat) (d : Nat × Nat), D[k]? = some d → (W (6 + 2 * k)).toInt = (d.1 : Int) ∧ (W (7 + 2 * k)).toInt = (d.2 : Int)) ∧ (∀ k s : Nat, M[k]? = some s → (W (27 + k)).toInt = (s : Int)) ∧ (∀ k, k < 5 → W k = V k)
theorem pr_b {mi mk mj mq m0 : MI} {D : List (Nat × Nat)} {M : List Nat} {dc mc : Nat} {x y : Int32} (hdc : D.length = dc) (hM : M.length = mc) (h10 : dc ≤ 10) (h5 : mc ≤ 5) (hx : x.toInt = (dc : Int)) (hy : y.toInt = (mc : Int)) (hd : drR mk D) (hm : drX mk M) (e0 : mk 62 = m0 62)
    (h2 : ∀ j, j < 2 * dc → mj 62 (6 + j) = mk 71 j) (h3 : ∀ j, (j < 6 ∨ 6 + 2 * dc ≤ j) → mj 62 j = (u2 (u2 mk 62 32 0) 62 5 x) 62 j) (q2 : ∀ j, j < mc → mq 62 (27 + j) = mk 72 j) (q3 : ∀ j, (j < 27 ∨ 27 + mc ≤ j) → mq 62 j = (u2 mj 62 26 y) 62 j) : prB (m0 62) (mq 62) D M := by
  refine ⟨?_, ?_, ?_, fun k d h => ?_, fun k s h => ?_, fun k h => ?_⟩
  · rw [q3 5 (by omega), u2_n (by omega), h3 5 (by omega), u2_s, hdc]; exact hx
  · rw [q3 26 (by omega), u2_s, hM]; exact hy
  · rw [q3 32 (by omega), u2_n (by omega), h3 32 (by omega), u2_n (by omega), u2_s]
  · have hk := (List.getElem?_eq_some_iff.mp h).1
    have h1 := hd k d h
    rw [q3 (6 + 2 * k) (by omega), u2_n (by omega), h2 (2 * k) (by omega), q3 (7 + 2 * k) (by omega), u2_n (by omega), show 7 + 2 * k = 6 + (2 * k + 1) by omega, h2 (2 * k + 1) (by omega)]
    exact h1
  · have hk := (List.getElem?_eq_some_iff.mp h).1
    rw [q2 k (by omega)]
    exact hm k s h
  · rw [q3 k (by omega), u2_n (by omega), h3 k (by omega), u2_n (by omega), u2_n (by omega), e0]
set_option maxHeartbeats 1600000 in
set_option maxRecDepth 100000 in
theorem c_X6_parse (l : Launch) (hfl : l.stackTraces = false) (mi : MI) (ml : MJ) (N sc : Nat) (hN : (mi 61 4).toInt = (N : Int)) (hN2 : N ≤ 120) (hsc : (mi 61 2).toInt = (sc : Int)) (h4 : sc ≤ 4) : Ct l yX6_parse (.code yX6_parse cX6_parse 3 (some .int)) 5 0 0 [.ref 61] (wl mi ml) (QI (fun r mi9 ml9 => ml = ml9 ∧ ((∃ (e : Nat) (x : Int32), paS (tX (mi 64) N) N 122 [] [] 0 0 = Sum.inl e ∧ x.toInt = (e : Int) ∧ r = (-10) - x ∧ SM 0 mi mi9) ∨ (∃ (D : List (Nat × Nat)) (M : List Nat) (it : Nat) (mj mk : MI), paS (tX (mi 64) N) N 122 [] [] 0 0 = Sum.inr (D, M, it) ∧ r.toInt = (it : Int) ∧ SM 0 mi mj ∧ Kept mj mk ∧ Fr [62] mk mi9 ∧ prB (mi 62) (mi9 62) D M)))) noX := by
  refine Ct_of (ini := false) pn_X6 hfl (fun h => nomatch h) (Nat.le_of_ble_eq_true rfl) ?_
  show E l RX6 cX6_parse 3 (some .int) false [] (rmE 5 0 0) (wl mi ml) (TgM (wl mi ml) 0 0 (QI (fun r mi9 ml9 => ml = ml9 ∧ ((∃ (e : Nat) (x : Int32), paS (tX (mi 64) N) N 122 [] [] 0 0 = Sum.inl e ∧ x.toInt = (e : Int) ∧ r = (-10) - x ∧ SM 0 mi mi9) ∨ (∃ (D : List (Nat × Nat)) (M : List Nat) (it : Nat) (mj mk : MI), paS (tX (mi 64) N) N 122 [] [] 0 0 = Sum.inr (D, M, it) ∧ r.toInt = (it : Int) ∧ SM 0 mi mj ∧ Kept mj mk ∧ Fr [62] mk mi9 ∧ prB (mi 62) (mi9 62) D M)))) noX) 0 0 0 [(0, .ref 61)] [] (wl mi ml)
  refine E_aload_n 0 dX6_parse_0 rfl rfl ?_
  refine E_iconst 0 (by decide) dX6_parse_1 ?_
  refine pf_X6_43 tw_61 rfl dX6_parse_2 ?_
  refine E_aload_n 0 dX6_parse_5 rfl rfl ?_
  refine E_callV (c_X6_readAll l hfl (u2 mi 61 5 0) ml N ((congrArg Int32.toInt ((u2_n (by omega)).trans rfl)).trans hN) (by omega)) cw_X6_212 (As := []) (st := []) wi_yX6_readAll we_yX6_readAll (ci := 6) (q := (RX6, TX6, 23)) rfl rfl (wl_atO tw_61) rfl ⟨Nat.le_of_ble_eq_true rfl, Nat.le_of_ble_eq_true rfl, Nat.le_of_ble_eq_true rfl, Nat.le_of_ble_eq_true rfl⟩ (Nat.le_of_ble_eq_true rfl) dX6_parse_6 (fun _ _ h => h) rfl (kI (fun r_6 mi_6 ml_6 h_6 => ?_))
  obtain ⟨hl9_6, hFr_6, hK_6, hr_6⟩ := h_6
  subst hl9_6
  rw [show (u2 mi 61 5 0) 64 = mi 64 from (u2_p (by decide))] at hr_6
  refine E_istore_n [(1, .int r_6), (0, .ref 61)] dX6_parse_9 rfl (by decide) rfl ?_
  refine E_iload_n 0 dX6_parse_10 rfl rfl ?_
  refine E_iconst (-1) (by decide) dX6_parse_11 ?_
  refine Z_ne r_6.toInt (-1) rfl (show ((-1) : Int32).toInt = (-1) from rfl) 23 dX6_parse_12 (by decide) (fun c_12 => ?_) (fun c_12 => ?_)
  · skip
    obtain ⟨D, M, it, hpa, hit, h18d, h20m, h10d, h5m, hdr, hdx⟩ := hr_6.resolve_left (fun ⟨e, _, h0, _⟩ => c_12 (by rw [h0]; rfl))
    obtain ⟨dc, hdc⟩ : ∃ dc, D.length = dc := ⟨_, rfl⟩
    obtain ⟨mc, hmc⟩ : ∃ mc, M.length = mc := ⟨_, rfl⟩
    have h18 : (mi_6 61 18).toInt = (dc : Int) := by rw [← hdc]; exact h18d
    have h20 : (mi_6 61 20).toInt = (mc : Int) := by rw [← hmc]; exact h20m
    have h10 : dc ≤ 10 := by omega
    have h5 : mc ≤ 5 := by omega
    refine E_aload_n 1 dX6_parse_23 rfl rfl ?_
    refine E_callV (c_X6_change l hfl mi_6 ml sc ((congrArg Int32.toInt ((hK_6 2 (by decide)).trans ((u2_n (by omega)).trans rfl))).trans hsc) (by omega)) cw_X6_72 (As := []) (st := []) wi_yX6_change we_yX6_change (ci := 6) (q := (RX6, TX6, 23)) rfl rfl (wl_atO tw_61) rfl ⟨Nat.le_of_ble_eq_true rfl, Nat.le_of_ble_eq_true rfl, Nat.le_of_ble_eq_true rfl, Nat.le_of_ble_eq_true rfl⟩ (Nat.le_of_ble_eq_true rfl) dX6_parse_24 (fun _ _ h => h) rfl (kV (fun mi_24 ml_24 h_24 => ?_))
    obtain ⟨mk_24, hK_24, rfl, rfl⟩ := h_24
    have hk71 : mk_24 71 = mi_6 71 := hK_24.1 71 (by decide)
    have hk72 : mk_24 72 = mi_6 72 := hK_24.1 72 (by decide)
    have hk18 : mk_24 61 18 = mi_6 61 18 := hK_24.2.1 18 (by decide)
    have hk20 : mk_24 61 20 = mi_6 61 20 := hK_24.2.1 20 (by decide)
    refine E_aload_n 1 dX6_parse_27 rfl rfl ?_
    refine gf_X6_7 tw_61 rfl dX6_parse_28 ?_
    refine E_iconst 5 (by decide) dX6_parse_31 ?_
    refine E_aload_n 1 dX6_parse_32 rfl rfl ?_
    refine gf_X6_189 (mi_6 61 18) tw_61 rfl ((u2_n (by omega)).trans (hK_24.2.1 18 (by decide))) dX6_parse_33 ?_
    refine S_iast 5 tw_62 rfl (by decide) dX6_parse_36 ?_
    refine E_iconst 0 (by decide) dX6_parse_37 ?_
    refine E_istore_n [(2, .int 0), (1, .int r_6), (0, .ref 61)] dX6_parse_38 rfl (by decide) rfl ?_
    have J39 : ∀ (Nm : Nat) (xk : Int32) (k : Nat) (mj : MI), 2 * dc - k < Nm → xk.toInt = (k : Int) → k ≤ 2 * dc → Fr [62] mk_24 mj → (∀ j, j < k → mj 62 (6 + j) = mk_24 71 j) → (∀ j, (j < 6 ∨ 6 + k ≤ j) → mj 62 j = (u2 (u2 mk_24 62 32 0) 62 5 (mi_6 61 18)) 62 j) → E l RX6 cX6_parse 3 (some .int) false [] (rmE 5 0 0) (wl mi ml) (TgM (wl mi ml) 0 0 (QI (fun r mi9 ml9 => ml = ml9 ∧ ((∃ (e : Nat) (x : Int32), paS (tX (mi 64) N) N 122 [] [] 0 0 = Sum.inl e ∧ x.toInt = (e : Int) ∧ r = (-10) - x ∧ SM 0 mi mi9) ∨ (∃ (D : List (Nat × Nat)) (M : List Nat) (it : Nat) (mj mk : MI), paS (tX (mi 64) N) N 122 [] [] 0 0 = Sum.inr (D, M, it) ∧ r.toInt = (it : Int) ∧ SM 0 mi mj ∧ Kept mj mk ∧ Fr [62] mk mi9 ∧ prB (mi 62) (mi9 62) D M)))) noX) 0 0 39 [(0, .ref 61), (1, .int r_6), (2, .int xk)] [] (wl mj ml) := by
      intro Nm
      induction Nm with
      | zero => intros; omega
      | succ Nm ih39 =>
        intro xk k mj hN39 hxk hk hF h2 h3
        have hj18 : mj 61 18 = mi_6 61 18 := by rw [hF 61 (by decide)]; exact hk18
        have hj20 : mj 61 20 = mi_6 61 20 := by rw [hF 61 (by decide)]; exact hk20
        refine E_iload_n 2 dX6_parse_39 rfl rfl ?_
        refine E_iconst 2 (by decide) dX6_parse_40 ?_
        refine E_aload_n 0 dX6_parse_41 rfl rfl ?_
        refine gf_X6_189 (mi_6 61 18) tw_61 rfl hj18 dX6_parse_42 ?_
        refine E_imul dX6_parse_45 ?_
        refine Z_ge (k : Int) (2 * (dc : Int)) hxk (tI_mul (show (2 : Int32).toInt = 2 from rfl) h18 (by omega)) 70 dX6_parse_46 (by decide) (fun c_46 => ?_) (fun c_46 => ?_)
        · skip
          have hkk : k = 2 * dc := by omega
          refine E_aload_n 0 dX6_parse_70 rfl rfl ?_
          refine gf_X6_7 tw_61 rfl dX6_parse_71 ?_
          refine E_bipush 26 (by decide) dX6_parse_74 ?_
          refine E_aload_n 0 dX6_parse_76 rfl rfl ?_
          refine gf_X6_203 (mi_6 61 20) tw_61 rfl hj20 dX6_parse_77 ?_
          refine S_iast 26 tw_62 rfl (by decide) dX6_parse_80 ?_
          refine E_iconst 0 (by decide) dX6_parse_81 ?_
          refine E_istore_n [(2, .int 0), (0, .ref 61), (1, .int r_6)] dX6_parse_82 rfl (by decide) rfl ?_
          have J83 : ∀ (Nm : Nat) (xk : Int32) (k : Nat) (mq : MI), mc - k < Nm → xk.toInt = (k : Int) → k ≤ mc → Fr [62] mj mq → (∀ j, j < k → mq 62 (27 + j) = mk_24 72 j) → (∀ j, (j < 27 ∨ 27 + k ≤ j) → mq 62 j = (u2 mj 62 26 (mi_6 61 20)) 62 j) → E l RX6 cX6_parse 3 (some .int) false [] (rmE 5 0 0) (wl mi ml) (TgM (wl mi ml) 0 0 (QI (fun r mi9 ml9 => ml = ml9 ∧ ((∃ (e : Nat) (x : Int32), paS (tX (mi 64) N) N 122 [] [] 0 0 = Sum.inl e ∧ x.toInt = (e : Int) ∧ r = (-10) - x ∧ SM 0 mi mi9) ∨ (∃ (D : List (Nat × Nat)) (M : List Nat) (it : Nat) (mj mk : MI), paS (tX (mi 64) N) N 122 [] [] 0 0 = Sum.inr (D, M, it) ∧ r.toInt = (it : Int) ∧ SM 0 mi mj ∧ Kept mj mk ∧ Fr [62] mk mi9 ∧ prB (mi 62) (mi9 62) D M)))) noX) 0 0 83 [(0, .ref 61), (1, .int r_6), (2, .int xk)] [] (wl mq ml) := by
            intro Nm
            induction Nm with
            | zero => intros; omega
            | succ Nm ih83 =>
              intro xk k mq hN83 hxk hk2 hF2 q2 q3
              have hq20 : mq 61 20 = mi_6 61 20 := by rw [hF2 61 (by decide)]; exact hj20
              refine E_iload_n 2 dX6_parse_83 rfl rfl ?_
              refine E_aload_n 0 dX6_parse_84 rfl rfl ?_
              refine gf_X6_203 (mi_6 61 20) tw_61 rfl hq20 dX6_parse_85 ?_
              refine Z_ge (k : Int) (mc : Int) hxk h20 112 dX6_parse_88 (by decide) (fun c_88 => ?_) (fun c_88 => ?_)
              · skip
                refine E_iload_n 1 dX6_parse_112 rfl rfl ?_
                refine E_iret rfl (Nat.le_of_ble_eq_true rfl) (Nat.le_of_ble_eq_true rfl) dX6_parse_113 ?_
                exact okQI ⟨rfl, Or.inr ⟨D, M, it, mi_6, mk_24, hpa, hit, SM_ra hFr_6 hK_6, hK_24, Fr.trans (F := [62]) (G := [62]) (H := [62]) hF hF2 (by decide) (by decide), pr_b (mi := mi) (mk := mk_24) (mj := mj) hdc hmc h10 h5 h18 h20 (fun j d h => by rw [hk71]; exact hdr j d h) (fun j d h => by rw [hk72]; exact hdx j d h) ((hK_24.1 62 (by decide)).trans ((hFr_6 62 (by decide)).trans (u2_p (by decide)))) (by rw [← hkk]; exact h2) (by rw [← hkk]; exact h3) (by rw [← show k = mc by omega]; exact q2) (by rw [← show k = mc by omega]; exact q3)⟩⟩
              · skip
                refine E_aload_n 0 dX6_parse_91 rfl rfl ?_
                refine gf_X6_7 tw_61 rfl dX6_parse_92 ?_
                refine E_bipush 27 (by decide) dX6_parse_95 ?_
                refine E_iload_n 2 dX6_parse_97 rfl rfl ?_
                refine E_iadd dX6_parse_98 ?_
                refine E_aload_n 0 dX6_parse_99 rfl rfl ?_
                refine gf_X6_40 tw_61 rfl dX6_parse_100 ?_
                refine E_iload_n 2 dX6_parse_103 rfl rfl ?_
                refine S_iald k (mk_24 72 k) tw_72 hxk (by omega) ((congrFun (hF2 72 (by decide)) k).trans (congrFun (hF 72 (by decide)) k)) dX6_parse_104 ?_
                refine S_iast (27 + k) tw_62 ((tI_add (show (27 : Int32).toInt = 27 from rfl) hxk (by omega)).trans (by omega)) (by omega) dX6_parse_105 ?_
                refine E_iinc 2 (xk + 1) [(2, .int (xk + 1)), (0, .ref 61), (1, .int r_6)] dX6_parse_106 rfl rfl (by decide) rfl ?_
                refine E_goto 83 dX6_parse_109 (by decide) ?_
                refine E_sub [1, 2, 0] rfl ?_
                exact ih83 (xk + 1) (k + 1) (u2 mq 62 (27 + k) (mk_24 72 k)) (by omega) ((tI_add hxk (show (1 : Int32).toInt = 1 from rfl) (by omega)).trans (by omega)) (by omega) (hF2.u (by decide)) (lt_s (fun j hj => (u2_n (by omega)).trans (q2 j hj)) (u2_s _ _ _ _)) (fun j hj => (u2_n (by omega)).trans (q3 j (by omega)))
          refine E_sub [1, 2, 0] rfl ?_
          exact J83 _ 0 0 (u2 mj 62 26 (mi_6 61 20)) (Nat.lt_succ_self _) (show (0 : Int32).toInt = 0 from rfl) (Nat.zero_le _) (Fr.rfl'.u (by decide)) (fun j h => absurd h (Nat.not_lt_zero j)) (fun j _ => rfl)
        · skip
          refine E_aload_n 0 dX6_parse_49 rfl rfl ?_
          refine gf_X6_7 tw_61 rfl dX6_parse_50 ?_
          refine E_bipush 6 (by decide) dX6_parse_53 ?_
          refine E_iload_n 2 dX6_parse_55 rfl rfl ?_
          refine E_iadd dX6_parse_56 ?_
          refine E_aload_n 0 dX6_parse_57 rfl rfl ?_
          refine gf_X6_37 tw_61 rfl dX6_parse_58 ?_
          refine E_iload_n 2 dX6_parse_61 rfl rfl ?_
          refine S_iald k (mk_24 71 k) tw_71 hxk (by omega) (congrFun (hF 71 (by decide)) k) dX6_parse_62 ?_
          refine S_iast (6 + k) tw_62 ((tI_add (show (6 : Int32).toInt = 6 from rfl) hxk (by omega)).trans (by omega)) (by omega) dX6_parse_63 ?_
          refine E_iinc 2 (xk + 1) [(2, .int (xk + 1)), (0, .ref 61), (1, .int r_6)] dX6_parse_64 rfl rfl (by decide) rfl ?_
          refine E_goto 39 dX6_parse_67 (by decide) ?_
          refine E_sub [1, 2, 0] rfl ?_
          exact ih39 (xk + 1) (k + 1) (u2 mj 62 (6 + k) (mk_24 71 k)) (by omega) ((tI_add hxk (show (1 : Int32).toInt = 1 from rfl) (by omega)).trans (by omega)) (by omega) (hF.u (by decide)) (lt_s (fun j hj => (u2_n (by omega)).trans (h2 j hj)) (u2_s _ _ _ _)) (fun j hj => (u2_n (by omega)).trans (h3 j (by omega)))
    refine E_sub [2, 1, 0] rfl ?_
    exact J39 _ 0 0 (u2 (u2 mk_24 62 32 0) 62 5 (mi_6 61 18)) (Nat.lt_succ_self _) (show (0 : Int32).toInt = 0 from rfl) (Nat.zero_le _) ((Fr.rfl'.u (by decide)).u (by decide)) (fun j h => absurd h (Nat.not_lt_zero j)) (fun j _ => rfl)
  · skip
    obtain ⟨e9, hpe, -, h159⟩ := hr_6.resolve_right (fun ⟨_, _, it, _, h0, _⟩ => absurd h0 (by rw [c_12]; omega))
    refine E_bipush (-10) (by decide) dX6_parse_15 ?_
    refine E_aload_n 1 dX6_parse_17 rfl rfl ?_
    refine gf_X6_177 (mi_6 61 15) tw_61 rfl rfl dX6_parse_18 ?_
    refine E_isub dX6_parse_21 ?_
    refine E_iret rfl (Nat.le_of_ble_eq_true rfl) (Nat.le_of_ble_eq_true rfl) dX6_parse_22 ?_
    exact okQI ⟨rfl, Or.inl ⟨e9, _, hpe, h159, rfl, SM_ra hFr_6 hK_6⟩⟩
end MO25
