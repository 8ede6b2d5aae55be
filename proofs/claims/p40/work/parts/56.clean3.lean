section CL3
theorem keepL_p {e i : Nat} : ∀ {n : Nat}, i ≤ n → ∃ T, keepL n e = keepL i e ++ T
  | 0, h => ⟨[], by rw [show i = 0 by omega, List.append_nil]⟩
  | n + 1, h => by
    rcases Nat.lt_or_ge i (n + 1) with q | q
    · obtain ⟨T, hT⟩ := keepL_p (e := e) (i := i) (n := n) (by omega)
      by_cases z : e.testBit n = true
      · exact ⟨T, by rw [keepL_t z, hT]⟩
      · exact ⟨T ++ [n], by rw [keepL_f z, hT, List.append_assoc]⟩
    · exact ⟨[], by rw [show i = n + 1 by omega, List.append_nil]⟩
theorem keepL_i {n e i : Nat} (hi : i < n) (h : ¬ e.testBit i = true) : (keepL n e)[(keepL i e).length]? = some i := by
  obtain ⟨T, hT⟩ := keepL_p (e := e) (i := i + 1) (n := n) (by omega)
  rw [hT, keepL_f h, List.append_assoc, List.getElem?_append_right (Nat.le_refl _), Nat.sub_self]
  rfl
theorem keepL_l {n e i : Nat} (hi : i ≤ n) : (keepL i e).length ≤ (keepL n e).length := by
  obtain ⟨T, hT⟩ := keepL_p (e := e) hi
  rw [hT, List.length_append]; omega
theorem DVL_c {V : Nat → Int32} {L : List Nat} {k c : Nat} (h : L[k]? = some c) : (DVL V L).2.2.2.1 k = (V (6 + 2 * c)).toInt ∧ (DVL V L).2.2.2.2 k = (V (7 + 2 * c)).toInt := by
  have e : L.getD k 0 = c := by rw [List.getD_eq_getElem?_getD, h]; rfl
  exact ⟨by show (V (6 + 2 * L.getD k 0)).toInt = _; rw [e], by show (V (7 + 2 * L.getD k 0)).toInt = _; rw [e]⟩
theorem RgD_w {V : Nat → Int32} {D : RD} {N : Nat} (hw : WFV V) (hD : D.1 = (V 0).toInt.toNat ∧ D.2.1 = (V 1).toInt ∧ D.2.2.1 = (V 2).toInt) (h : ∀ k, k < N → (0 ≤ D.2.2.2.1 k ∧ D.2.2.2.1 k ≤ 63) ∧ (0 ≤ D.2.2.2.2 k ∧ D.2.2.2.2 k ≤ 60)) : RgD D (V 3).toInt (V 4).toInt N := by
  have h1 := hw.1
  refine ⟨?_, h⟩
  rw [hD.1, hD.2.1, hD.2.2]
  omega
theorem RgD_L {V : Nat → Int32} {L : List Nat} {n N : Nat} (hw : WFV V) (hn : (V 5).toInt = (n : Int)) (hL : ∀ c, c ∈ L → c < n) (hN : N ≤ L.length) : RgD (DVL V L) (V 3).toInt (V 4).toInt N := by
  refine RgD_w hw ⟨rfl, rfl, rfl⟩ (fun k hk => ?_)
  have hc : L[k]? = some (L[k]) := List.getElem?_eq_getElem (by omega)
  rw [(DVL_c hc).1, (DVL_c hc).2]
  exact hw.b hn (hL _ (List.mem_of_getElem? hc))
theorem b_ff {n s e i : Nat} (h : ∀ c, c < n → s.testBit c = !e.testBit c) (hi : i < n) : (s.testBit i = true → ¬ e.testBit i = true) ∧ (¬ s.testBit i = true → e.testBit i = true) := by
  rw [h i hi]
  cases e.testBit i <;> simp
set_option maxHeartbeats 1600000 in
set_option maxRecDepth 100000 in
theorem c_X5_standsClean (l : Launch) (hfl : l.stackTraces = false) (mi : MI) (ml : MJ) (V : Nat → Int32) (hV : WFV V) (hD : DR 1 mi V) (n : Nat) (hn : (V 5).toInt = (n : Int)) (h10 : n ≤ 10) (hz : ml 56 0 = 0 ∧ ml 57 0 = 0) (xs : Int32) (s e : Nat) (hxs : xs.toInt = (s : Int)) (hse : ∀ c, c < n → s.testBit c = !e.testBit c) : Ct l yX5_standsClean (.code yX5_standsClean cX5_standsClean 3 (some .boolean)) 4 0 0 [.ref 0, .int xs] (wl mi ml) (QI (fun r mi9 ml9 => r = bI (ClR (DVL V (keepL n e)) (V 3).toInt (V 4).toInt (keepL n e).length) ∧ Fr [53, 54, 55] mi mi9 ∧ FLc ml ml9 ∧ (ml9 56 0 = 0 ∧ ml9 57 0 = 0) ∧ (ClR (DVL V (keepL n e)) (V 3).toInt (V 4).toInt (keepL n e).length → CSI mi9 ml9 (DVL V (keepL n e)) (V 3).toInt (V 4).toInt (keepL n e).length))) noX := by
  refine Ct_of (ini := false) pn_X5 hfl (fun h => nomatch h) (Nat.le_of_ble_eq_true rfl) ?_
  show E l RX5 cX5_standsClean 3 (some .boolean) false [] (rmE 4 0 0) (wl mi ml) (TgM (wl mi ml) 0 0 (QI (fun r mi9 ml9 => r = bI (ClR (DVL V (keepL n e)) (V 3).toInt (V 4).toInt (keepL n e).length) ∧ Fr [53, 54, 55] mi mi9 ∧ FLc ml ml9 ∧ (ml9 56 0 = 0 ∧ ml9 57 0 = 0) ∧ (ClR (DVL V (keepL n e)) (V 3).toInt (V 4).toInt (keepL n e).length → CSI mi9 ml9 (DVL V (keepL n e)) (V 3).toInt (V 4).toInt (keepL n e).length))) noX) 0 0 0 [(0, .ref 0), (1, .int xs)] [] (wl mi ml)
  refine E_aload_n 0 dX5_standsClean_0 rfl rfl ?_
  refine gf_X5_36 tw_0 rfl dX5_standsClean_1 ?_
  refine E_aload_n 0 dX5_standsClean_4 rfl rfl ?_
  refine gf_X5_10 tw_0 rfl dX5_standsClean_5 ?_
  refine E_callV (c_X0_start l hfl mi ml V hV hD hz) cw_X5_331 (As := [.ref 1]) (st := []) wi_yX0_start we_yX0_start (ci := 0) (q := (RX0, TX0, 10)) rfl rfl (wl_atO tw_53) rfl ⟨Nat.le_of_ble_eq_true rfl, Nat.le_of_ble_eq_true rfl, Nat.le_of_ble_eq_true rfl, Nat.le_of_ble_eq_true rfl⟩ (Nat.le_of_ble_eq_true rfl) dX5_standsClean_8 (fun _ _ h => h) rfl (kV (fun mi_8 ml_8 h_8 => ?_))
  obtain ⟨rfl, h_8⟩ := h_8
  refine E_iconst 0 (by decide) dX5_standsClean_11 ?_
  refine E_istore_n [(2, .int 0), (0, .ref 0), (1, .int xs)] dX5_standsClean_12 rfl (by decide) rfl ?_
  have J13 : ∀ (Nm : Nat) (xi : Int32) (i : Nat) (ma : MI) (la : MJ), n - i < Nm → xi.toInt = (i : Int) → i ≤ n → Fr [53, 54, 55] mi ma → FLc ml la → CSI ma la (DVL V (keepL n e)) (V 3).toInt (V 4).toInt (keepL i e).length → E l RX5 cX5_standsClean 3 (some .boolean) false [] (rmE 4 0 0) (wl mi ml) (TgM (wl mi ml) 0 0 (QI (fun r mi9 ml9 => r = bI (ClR (DVL V (keepL n e)) (V 3).toInt (V 4).toInt (keepL n e).length) ∧ Fr [53, 54, 55] mi mi9 ∧ FLc ml ml9 ∧ (ml9 56 0 = 0 ∧ ml9 57 0 = 0) ∧ (ClR (DVL V (keepL n e)) (V 3).toInt (V 4).toInt (keepL n e).length → CSI mi9 ml9 (DVL V (keepL n e)) (V 3).toInt (V 4).toInt (keepL n e).length))) noX) 0 0 13 [(0, .ref 0), (1, .int xs), (2, .int xi)] [] (wl ma la) := by
    intro Nm
    induction Nm with
    | zero => intros; omega
    | succ Nm ih13 =>
      intro xi i ma la hN13 hi hin hF hL hC
      refine E_iload_n 2 dX5_standsClean_13 rfl rfl ?_
      refine E_aload_n 0 dX5_standsClean_14 rfl rfl ?_
      refine gf_X5_10 tw_0 rfl dX5_standsClean_15 ?_
      refine gf_X5_80 (V 5) isD_1.t rfl ((congrFun (hF 1 (by decide)) 5).trans hD.2.1.1) dX5_standsClean_18 ?_
      refine Z_ge (i : Int) (n : Int) hi hn 67 dX5_standsClean_21 (by decide) (fun c_21 => ?_) (fun c_21 => ?_)
      · skip
        refine E_iconst 1 (by decide) dX5_standsClean_67 ?_
        refine E_zret rfl rfl (Nat.le_of_ble_eq_true rfl) (Nat.le_of_ble_eq_true rfl) dX5_standsClean_68 ?_
        obtain rfl : i = n := by omega
        exact okQI ⟨b1 hC.2.2.2.2, hF, hL, hC.z, fun _ => hC⟩
      · skip
        refine E_iload_n 2 dX5_standsClean_24 rfl rfl ?_
        refine E_iload_n 1 dX5_standsClean_25 rfl rfl ?_
        refine E_i2l dX5_standsClean_26 ?_
        refine E_callS (c_X5_isIn l hfl ma la xi (xs.toInt64) i (hi.trans (by omega)) (by omega)) cw_X5_326 (As := [.int xi, .long (xs.toInt64)]) (st := []) ws_yX5_isIn rfl ⟨Nat.le_of_ble_eq_true rfl, Nat.le_of_ble_eq_true rfl, Nat.le_of_ble_eq_true rfl, Nat.le_of_ble_eq_true rfl⟩ (Nat.le_of_ble_eq_true rfl) dX5_standsClean_27 (fun _ _ h => h) rfl (kE ?_)
        rw [show bI (lb (xs.toInt64) i = true) = bI (s.testBit i = true) from by rw [lb_i2l hxs (by omega)]]
        refine B_eq 61 dX5_standsClean_30 (by decide) (fun c_30 => ?_) (fun c_30 => ?_)
        · skip
          refine E_iinc 2 (xi + 1) [(2, .int (xi + 1)), (0, .ref 0), (1, .int xs)] dX5_standsClean_61 rfl rfl (by decide) rfl ?_
          refine E_goto 13 dX5_standsClean_64 (by decide) ?_
          refine E_sub [1, 2, 0] rfl ?_
          exact ih13 (xi + 1) (i + 1) ma la (by omega) ((tI_add hi (show (1 : Int32).toInt = 1 from rfl) (by omega)).trans (by omega)) (by omega) hF hL (by rw [keepL_t ((b_ff hse (by omega)).2 c_30)]; exact hC)
        · skip
          have hnb := (b_ff hse (show i < n by omega)).1 c_30
          have hle : (keepL i e).length + 1 ≤ (keepL n e).length := by have := (List.getElem?_eq_some_iff.mp (keepL_i (n := n) (by omega) hnb)).1; omega
          have hk10 := keepL_len n e
          refine E_aload_n 0 dX5_standsClean_33 rfl rfl ?_
          refine gf_X5_36 tw_0 rfl dX5_standsClean_34 ?_
          refine E_aload_n 0 dX5_standsClean_37 rfl rfl ?_
          refine gf_X5_10 tw_0 rfl dX5_standsClean_38 ?_
          refine E_iload_n 2 dX5_standsClean_41 rfl rfl ?_
          refine E_callV (c_X1_channelOf l hfl 1 isD_1 ma la xi i n (hi.trans (by omega)) ((congrArg Int32.toInt ((congrFun (hF 1 (by decide)) 5).trans hD.2.1.1)).trans hn) (by omega) (by omega)) cw_X5_92 (As := [.int xi]) (st := [.ref 53]) wi_yX1_channelOf we_yX1_channelOf (ci := 1) (q := (RX1, TX1, 15)) rfl rfl (wl_atO isD_1.t) rfl ⟨Nat.le_of_ble_eq_true rfl, Nat.le_of_ble_eq_true rfl, Nat.le_of_ble_eq_true rfl, Nat.le_of_ble_eq_true rfl⟩ (Nat.le_of_ble_eq_true rfl) dX5_standsClean_42 (fun _ _ h => h) rfl (kE ?_)
          rw [show ma 2 i = (V (6 + 2 * i)) from ((congrFun (hF 2 (by decide)) i).trans (hD.2.2.1 i (by omega)).1)]
          refine E_aload_n 0 dX5_standsClean_45 rfl rfl ?_
          refine gf_X5_10 tw_0 rfl dX5_standsClean_46 ?_
          refine E_iload_n 2 dX5_standsClean_49 rfl rfl ?_
          refine E_callV (c_X1_levelOf l hfl 1 isD_1 ma la xi i n (hi.trans (by omega)) ((congrArg Int32.toInt ((congrFun (hF 1 (by decide)) 5).trans hD.2.1.1)).trans hn) (by omega) (by omega)) cw_X5_143 (As := [.int xi]) (st := [.int (V (6 + 2 * i)), .ref 53]) wi_yX1_levelOf we_yX1_levelOf (ci := 1) (q := (RX1, TX1, 15)) rfl rfl (wl_atO isD_1.t) rfl ⟨Nat.le_of_ble_eq_true rfl, Nat.le_of_ble_eq_true rfl, Nat.le_of_ble_eq_true rfl, Nat.le_of_ble_eq_true rfl⟩ (Nat.le_of_ble_eq_true rfl) dX5_standsClean_50 (fun _ _ h => h) rfl (kE ?_)
          rw [show ma 3 i = (V (7 + 2 * i)) from ((congrFun (hF 3 (by decide)) i).trans (hD.2.2.1 i (by omega)).2)]
          refine E_callV (c_X0_join l hfl ma la (DVL V (keepL n e)) (V 3).toInt (V 4).toInt (keepL i e).length hC (RgD_L hV hn (fun c hc => keepL_in hc) hle) (by omega) (V (6 + 2 * i)) (DVL_c (keepL_i (by omega) hnb)).1.symm (V (7 + 2 * i)) (DVL_c (keepL_i (by omega) hnb)).2.symm) cw_X5_334 (As := [.int (V (6 + 2 * i)), .int (V (7 + 2 * i))]) (st := []) wi_yX0_join we_yX0_join (ci := 0) (q := (RX0, TX0, 10)) rfl rfl (wl_atO tw_53) rfl ⟨Nat.le_of_ble_eq_true rfl, Nat.le_of_ble_eq_true rfl, Nat.le_of_ble_eq_true rfl, Nat.le_of_ble_eq_true rfl⟩ (Nat.le_of_ble_eq_true rfl) dX5_standsClean_53 (fun _ _ h => h) rfl (kI (fun r_53 mi_53 ml_53 h_53 => ?_))
          obtain ⟨e_53, h_53⟩ := h_53
          subst e_53
          refine B_ne 61 dX5_standsClean_56 (by decide) (fun c_56 => ?_) (fun c_56 => ?_)
          · skip
            refine E_iinc 2 (xi + 1) [(2, .int (xi + 1)), (0, .ref 0), (1, .int xs)] dX5_standsClean_61 rfl rfl (by decide) rfl ?_
            refine E_goto 13 dX5_standsClean_64 (by decide) ?_
            refine E_sub [1, 2, 0] rfl ?_
            exact ih13 (xi + 1) (i + 1) mi_53 ml_53 (by omega) ((tI_add hi (show (1 : Int32).toInt = 1 from rfl) (by omega)).trans (by omega)) (by omega) (hF.trans h_53.1 (fun _ h => h) (fun _ h => h)) (hL.trans h_53.2.1) (by rw [keepL_f hnb, List.length_append]; exact (h_53.2.2.resolve_right (fun z => z.1 c_56)).2)
          · skip
            refine E_iconst 0 (by decide) dX5_standsClean_59 ?_
            refine E_zret rfl rfl (Nat.le_of_ble_eq_true rfl) (Nat.le_of_ble_eq_true rfl) dX5_standsClean_60 ?_
            have hno : ¬ ClR (DVL V (keepL n e)) (V 3).toInt (V 4).toInt (keepL n e).length := fun z => c_56 (ClR_m hle z)
            have hq := h_53.2.2.resolve_left (fun z => c_56 z.1)
            exact okQI ⟨b0 hno, hF.trans h_53.1 (fun _ h => h) (fun _ h => h), hL.trans h_53.2.1, by rw [← hq.2.2]; exact hC.z, fun z => absurd z hno⟩
  refine E_sub [1, 2, 0] rfl ?_
  exact J13 _ 0 0 mi_8 ml (Nat.lt_succ_self _) (show (0 : Int32).toInt = 0 from rfl) (Nat.zero_le _) (Fr.w h_8.1 (by decide)) FLc_r (h_8.2 _ ⟨rfl, rfl, rfl⟩)
theorem tb_all {n : Nat} : ∀ c, c < n → (2 ^ n - 1).testBit c = !(0 : Nat).testBit c := by
  intro c hc
  rw [Nat.testBit_two_pow_sub_one, Nat.zero_testBit]
  simp [hc]
theorem keepL_0 (n : Nat) : keepL n 0 = List.range n := by
  unfold keepL
  rw [List.filter_eq_self]
  intro a _
  simp
theorem eqD_all {V : Nat → Int32} {n : Nat} : eqD n (DVL V (keepL n 0)) (DV V) := by
  refine ⟨by simp only [DV, DVL], by simp only [DV, DVL], by simp only [DV, DVL], fun k hk => ?_⟩
  have h : (keepL n 0)[k]? = some k := by rw [keepL_0, List.getElem?_range hk]
  rw [(DVL_c h).1, (DVL_c h).2]
  exact ⟨rfl, rfl⟩
theorem keepL_0l (n : Nat) : (keepL n 0).length = n := by rw [keepL_0, List.length_range]
theorem all_Cl {V : Nat → Int32} {n : Nat} {g sp : Int} : ClR (DVL V (keepL n 0)) g sp (keepL n 0).length ↔ ClR (DV V) g sp n := by
  rw [keepL_0l]; exact (eqD_all.Cl (Nat.le_refl n)).symm
theorem all_CSI {V : Nat → Int32} {mi : MI} {ml : MJ} {n : Nat} {g sp : Int} (h : CSI mi ml (DVL V (keepL n 0)) g sp (keepL n 0).length) : CSI mi ml (DV V) g sp n := by
  rw [keepL_0l] at h; exact h.d eqD_all
theorem eqD_O {V : Nat → Int32} {n : Nat} {c l : Int} : eqD n (DV V) (DVO V n c l) := ⟨rfl, rfl, rfl, fun k hk => ⟨if_pos hk, if_pos hk⟩⟩
theorem eqD.symm {n : Nat} {D D' : RD} (h : eqD n D D') : eqD n D' D := ⟨h.1.symm, h.2.1.symm, h.2.2.1.symm, fun k hk => ⟨(h.2.2.2 k hk).1.symm, (h.2.2.2 k hk).2.symm⟩⟩
theorem opP_iff {V : Nat → Int32} {n c : Nat} {l : Int} (hw : WFV V) : opP V n l c ↔ ClR (DVO V n c l) (V 3).toInt (V 4).toInt (n + 1) := by
  refine ⟨fun h => h.2, fun h => ⟨fun j hj e => ?_, h⟩⟩
  have h1 := (ClR_iff.mp h).1 j n (by omega) (by omega) (by omega)
  have h4 := hw.1.2.2.2.2
  refine h1 ?_
  show (1 - (V 4).toInt) ≤ ((if j < n then (V (6 + 2 * j)).toInt else (c : Int)) - (if n < n then (V (6 + 2 * n)).toInt else (c : Int))) ∧ ((if j < n then (V (6 + 2 * j)).toInt else (c : Int)) - (if n < n then (V (6 + 2 * n)).toInt else (c : Int))) ≤ ((V 4).toInt - 1)
  rw [if_pos hj, if_neg (Nat.lt_irrefl n), e]
  omega
theorem opP_no {V : Nat → Int32} {n c : Nat} {l : Int} (h : ¬ ClR (DV V) (V 3).toInt (V 4).toInt n) : ¬ opP V n l c := fun q => h ((eqD_O.Cl (Nat.le_refl n)).mp (ClR_m (Nat.le_succ n) q.2))
theorem opS_no {V : Nat → Int32} {n : Nat} {l : Int} (h : ∀ c, ¬ opP V n l c) : ∀ k, opS V n l k = 0
  | 0 => rfl
  | k + 1 => by rw [opS, opS_no h k, ifp_f (h k)]; rfl
theorem RgD_O {V : Nat → Int32} {n c : Nat} {l : Int} (hw : WFV V) (hn : (V 5).toInt = (n : Int)) (hc : c < 64) (hl : 0 ≤ l ∧ l ≤ 60) : RgD (DVO V n c l) (V 3).toInt (V 4).toInt (n + 1) := by
  refine RgD_w hw ⟨rfl, rfl, rfl⟩ (fun k hk => ?_)
  show (0 ≤ (if k < n then (V (6 + 2 * k)).toInt else (c : Int)) ∧ (if k < n then (V (6 + 2 * k)).toInt else (c : Int)) ≤ 63) ∧ (0 ≤ (if k < n then (V (7 + 2 * k)).toInt else l) ∧ (if k < n then (V (7 + 2 * k)).toInt else l) ≤ 60)
  rcases Nat.lt_or_ge k n with q | q
  · rw [if_pos q, if_pos q]; exact hw.b hn q
  · rw [if_neg (by omega), if_neg (by omega)]; omega
theorem opS_0' {V : Nat → Int32} {n c : Nat} {l : Int} (h : ¬ opP V n l c) : opS V n l (c + 1) = opS V n l c := by
  rw [opS_n h]
  exact lb_ext (fun i _ => by rw [lb_or, lb_0, Bool.or_false])
theorem rmv_v : ∀ n, n < 11 → ∀ s, s < 2 ^ n → (nI (2 ^ n - 1) &&& (nI s ^^^ (-1))) = nI ((2 ^ n - 1) ^^^ s) := by decide +kernel
theorem rmv_b {n s : Nat} : ∀ c, c < n → ((2 ^ n - 1) ^^^ s).testBit c = !s.testBit c := by
  intro c hc
  rw [Nat.testBit_xor, Nat.testBit_two_pow_sub_one]
  simp [hc]
theorem rmv_p : ∀ n, n < 11 → ∀ t, t < 2 ^ n - 1 → popc t < popc (2 ^ n - 1) := by decide +kernel
theorem rmv_k {n : Nat} : keepL n (2 ^ n - 1) = [] := by
  unfold keepL
  rw [List.filter_eq_nil_iff]
  intro a ha
  have := List.mem_range.mp ha
  rw [Nat.testBit_two_pow_sub_one]
  simp [this]
theorem rmv_l {n s : Nat} (h : s < 2 ^ n) : (2 ^ n - 1) ^^^ s < 2 ^ n := Nat.xor_lt_two_pow (by have := Nat.two_pow_pos n; omega) h
/-- the best of the sets before t -/
def rmI (V : Nat → Int32) (n t b : Nat) : Prop := (b = 2 ^ n - 1 ∨ b < t) ∧ ClR (DVL V (keepL n b)) (V 3).toInt (V 4).toInt (keepL n b).length ∧ ∀ s, s < t → ClR (DVL V (keepL n s)) (V 3).toInt (V 4).toInt (keepL n s).length → popc b < popc s ∨ (popc b = popc s ∧ b ≤ s)
theorem rmI_0 {V : Nat → Int32} {n : Nat} : rmI V n 0 (2 ^ n - 1) := ⟨Or.inl rfl, by rw [rmv_k]; exact ClR_0, fun s h => absurd h (Nat.not_lt_zero s)⟩
theorem rmI_y {V : Nat → Int32} {n t b : Nat} (h : rmI V n t b) (hp : popc t < popc b) (hc : ClR (DVL V (keepL n t)) (V 3).toInt (V 4).toInt (keepL n t).length) : rmI V n (t + 1) t := by
  refine ⟨Or.inr (Nat.lt_succ_self t), hc, fun s hs h2 => ?_⟩
  rcases Nat.lt_or_ge s t with q | q
  · have := h.2.2 s q h2; omega
  · exact Or.inr ⟨by rw [show s = t by omega], by omega⟩
theorem rmI_n {V : Nat → Int32} {n t b : Nat} (h : rmI V n t b) (h10 : n ≤ 10) (ht : t < 2 ^ n - 1) (hp : popc b ≤ popc t ∨ ¬ ClR (DVL V (keepL n t)) (V 3).toInt (V 4).toInt (keepL n t).length) : rmI V n (t + 1) b := by
  refine ⟨by have := h.1; omega, h.2.1, fun s hs h2 => ?_⟩
  rcases Nat.lt_or_ge s t with q | q
  · exact h.2.2 s q h2
  · obtain rfl : s = t := by omega
    rcases hp with hp | hp
    · have h3 := rmv_p n (by omega) s ht
      rcases h.1 with e | e
      · subst e; omega
      · omega
    · exact absurd h2 hp
theorem rmI_S {V : Nat → Int32} {n t b : Nat} (h : rmI V n t b) (h10 : n ≤ 10) (ht : 2 ^ n - 1 ≤ t) (ht2 : t ≤ 2 ^ n - 1) : rmS V n b := by
  obtain rfl : t = 2 ^ n - 1 := by omega
  refine ⟨by have := h.1; omega, h.2.1, fun s hs h2 => ?_⟩
  rcases Nat.lt_or_ge s (2 ^ n - 1) with q | q
  · exact h.2.2 s q h2
  · obtain rfl : s = 2 ^ n - 1 := by omega
    rcases h.1 with e | e
    · rw [e]; exact Or.inr ⟨rfl, Nat.le_refl _⟩
    · exact Or.inl (rmv_p n (by omega) b e)
set_option maxHeartbeats 1600000 in
set_option maxRecDepth 100000 in
theorem c_X5_isClean (l : Launch) (hfl : l.stackTraces = false) (mi : MI) (ml : MJ) (V : Nat → Int32) (hV : WFV V) (hD : DR 1 mi V) (n : Nat) (hn : (V 5).toInt = (n : Int)) (h10 : n ≤ 10) (hz : ml 56 0 = 0 ∧ ml 57 0 = 0) : Ct l yX5_isClean (.code yX5_isClean cX5_isClean 1 (some .boolean)) 5 0 0 [.ref 0] (wl mi ml) (QI (fun r mi9 ml9 => Fr [53, 54, 55] mi mi9 ∧ FLc ml ml9 ∧ (ml9 56 0 = 0 ∧ ml9 57 0 = 0) ∧ r = bI (ClR (DV V) (V 3).toInt (V 4).toInt n))) noX := by
  refine Ct_of (ini := false) pn_X5 hfl (fun h => nomatch h) (Nat.le_of_ble_eq_true rfl) ?_
  show E l RX5 cX5_isClean 1 (some .boolean) false [] (rmE 5 0 0) (wl mi ml) (TgM (wl mi ml) 0 0 (QI (fun r mi9 ml9 => Fr [53, 54, 55] mi mi9 ∧ FLc ml ml9 ∧ (ml9 56 0 = 0 ∧ ml9 57 0 = 0) ∧ r = bI (ClR (DV V) (V 3).toInt (V 4).toInt n))) noX) 0 0 0 [(0, .ref 0)] [] (wl mi ml)
  refine E_aload_n 0 dX5_isClean_0 rfl rfl ?_
  refine E_aload_n 0 dX5_isClean_1 rfl rfl ?_
  refine gf_X5_10 tw_0 rfl dX5_isClean_2 ?_
  refine E_callV (c_X1_everyCarrier l hfl 1 isD_1 mi ml n ((congrArg Int32.toInt hD.2.1.1).trans hn) (by omega)) cw_X5_146 (As := []) (st := [.ref 0]) wi_yX1_everyCarrier we_yX1_everyCarrier (ci := 1) (q := (RX1, TX1, 15)) rfl rfl (wl_atO isD_1.t) rfl ⟨Nat.le_of_ble_eq_true rfl, Nat.le_of_ble_eq_true rfl, Nat.le_of_ble_eq_true rfl, Nat.le_of_ble_eq_true rfl⟩ (Nat.le_of_ble_eq_true rfl) dX5_isClean_5 (fun _ _ h => h) rfl (kE ?_)
  refine E_callV (c_X5_standsClean l hfl mi ml V hV hD n hn h10 hz (nI (2 ^ n - 1)) (2 ^ n - 1) 0 ((tI_nI (pw_lt (by omega))).trans (by omega)) tb_all) cw_X5_176 (As := [.int (nI (2 ^ n - 1))]) (st := []) wi_yX5_standsClean we_yX5_standsClean (ci := 5) (q := (RX5, TX5, 7)) rfl rfl (wl_atO tw_0) rfl ⟨Nat.le_of_ble_eq_true rfl, Nat.le_of_ble_eq_true rfl, Nat.le_of_ble_eq_true rfl, Nat.le_of_ble_eq_true rfl⟩ (Nat.le_of_ble_eq_true rfl) dX5_isClean_8 (fun _ _ h => h) rfl (kI (fun r_8 mi_8 ml_8 h_8 => ?_))
  obtain ⟨e_8, h_8⟩ := h_8
  subst e_8
  refine E_zret rfl nbI (Nat.le_of_ble_eq_true rfl) (Nat.le_of_ble_eq_true rfl) dX5_isClean_11 ?_
  exact okQI ⟨h_8.1, h_8.2.1, h_8.2.2.1, bI_iff all_Cl⟩
set_option maxHeartbeats 1600000 in
set_option maxRecDepth 100000 in
theorem c_X5_removal (l : Launch) (hfl : l.stackTraces = false) (mi : MI) (ml : MJ) (V : Nat → Int32) (hV : WFV V) (hD : DR 1 mi V) (n : Nat) (hn : (V 5).toInt = (n : Int)) (h10 : n ≤ 10) (hz : ml 56 0 = 0 ∧ ml 57 0 = 0) : Ct l yX5_removal (.code yX5_removal cX5_removal 4 (some .int)) 5 0 0 [.ref 0] (wl mi ml) (QI (fun r mi9 ml9 => Fr [53, 54, 55] mi mi9 ∧ FLc ml ml9 ∧ (ml9 56 0 = 0 ∧ ml9 57 0 = 0) ∧ ∃ b : Nat, r.toInt = (b : Int) ∧ rmS V n b)) noX := by
  refine Ct_of (ini := false) pn_X5 hfl (fun h => nomatch h) (Nat.le_of_ble_eq_true rfl) ?_
  show E l RX5 cX5_removal 4 (some .int) false [] (rmE 5 0 0) (wl mi ml) (TgM (wl mi ml) 0 0 (QI (fun r mi9 ml9 => Fr [53, 54, 55] mi mi9 ∧ FLc ml ml9 ∧ (ml9 56 0 = 0 ∧ ml9 57 0 = 0) ∧ ∃ b : Nat, r.toInt = (b : Int) ∧ rmS V n b)) noX) 0 0 0 [(0, .ref 0)] [] (wl mi ml)
  have hp2 := Nat.two_pow_pos n
  have h1024 : 2 ^ n ≤ 2 ^ 10 := Nat.pow_le_pow_right (by omega) h10
  refine E_aload_n 0 dX5_removal_0 rfl rfl ?_
  refine gf_X5_10 tw_0 rfl dX5_removal_1 ?_
  refine E_callV (c_X1_everyCarrier l hfl 1 isD_1 mi ml n ((congrArg Int32.toInt hD.2.1.1).trans hn) (by omega)) cw_X5_146 (As := []) (st := []) wi_yX1_everyCarrier we_yX1_everyCarrier (ci := 1) (q := (RX1, TX1, 15)) rfl rfl (wl_atO isD_1.t) rfl ⟨Nat.le_of_ble_eq_true rfl, Nat.le_of_ble_eq_true rfl, Nat.le_of_ble_eq_true rfl, Nat.le_of_ble_eq_true rfl⟩ (Nat.le_of_ble_eq_true rfl) dX5_removal_4 (fun _ _ h => h) rfl (kE ?_)
  refine E_istore_n [(1, .int (nI (2 ^ n - 1))), (0, .ref 0)] dX5_removal_7 rfl (by decide) rfl ?_
  refine E_iload_n 0 dX5_removal_8 rfl rfl ?_
  refine E_istore_n [(2, .int (nI (2 ^ n - 1))), (1, .int (nI (2 ^ n - 1))), (0, .ref 0)] dX5_removal_9 rfl (by decide) rfl ?_
  refine E_iconst 0 (by decide) dX5_removal_10 ?_
  refine E_istore_n [(3, .int 0), (2, .int (nI (2 ^ n - 1))), (1, .int (nI (2 ^ n - 1))), (0, .ref 0)] dX5_removal_11 rfl (by decide) rfl ?_
  have J12 : ∀ (Nm : Nat) (xt xb : Int32) (t b : Nat) (ma : MI) (la : MJ), 2 ^ n - t < Nm → xt.toInt = (t : Int) → xb.toInt = (b : Int) → t ≤ 2 ^ n - 1 → Fr [53, 54, 55] mi ma → FLc ml la → (la 56 0 = 0 ∧ la 57 0 = 0) → rmI V n t b → E l RX5 cX5_removal 4 (some .int) false [] (rmE 5 0 0) (wl mi ml) (TgM (wl mi ml) 0 0 (QI (fun r mi9 ml9 => Fr [53, 54, 55] mi mi9 ∧ FLc ml ml9 ∧ (ml9 56 0 = 0 ∧ ml9 57 0 = 0) ∧ ∃ b : Nat, r.toInt = (b : Int) ∧ rmS V n b)) noX) 0 0 12 [(0, .ref 0), (1, .int (nI (2 ^ n - 1))), (2, .int xb), (3, .int xt)] [] (wl ma la) := by
    intro Nm
    induction Nm with
    | zero => intros; omega
    | succ Nm ih12 =>
      intro xt xb t b ma la hN12 ht hb htn hF hL hz2 hI
      refine E_iload_n 3 dX5_removal_12 rfl rfl ?_
      refine E_iload_n 1 dX5_removal_13 rfl rfl ?_
      refine Z_ge (t : Int) ((2 ^ n - 1 : Nat) : Int) ht (tI_nI (pw_lt (by omega))) 48 dX5_removal_14 (by decide) (fun c_14 => ?_) (fun c_14 => ?_)
      · skip
        refine E_iload_n 2 dX5_removal_48 rfl rfl ?_
        refine E_iret rfl (Nat.le_of_ble_eq_true rfl) (Nat.le_of_ble_eq_true rfl) dX5_removal_49 ?_
        exact okQI ⟨hF, hL, hz2, b, hb, rmI_S hI h10 (by omega) htn⟩
      · skip
        have hb9 := hI.1
        refine E_iload_n 3 dX5_removal_17 rfl rfl ?_
        refine E_callS (c_J6_bitCount_0f7a4 l hfl ma la xt t ht (by omega)) cw_X5_184 (As := [.int xt]) (st := []) ws_yJ6_bitCount_0f7a4 rfl ⟨Nat.le_of_ble_eq_true rfl, Nat.le_of_ble_eq_true rfl, Nat.le_of_ble_eq_true rfl, Nat.le_of_ble_eq_true rfl⟩ (Nat.le_of_ble_eq_true rfl) dX5_removal_18 (fun _ _ h => h) rfl (kE ?_)
        refine E_iload_n 2 dX5_removal_21 rfl rfl ?_
        refine E_callS (c_J6_bitCount_0f7a4 l hfl ma la xb b hb (by omega)) cw_X5_184 (As := [.int xb]) (st := [.int (nI (popc t))]) ws_yJ6_bitCount_0f7a4 rfl ⟨Nat.le_of_ble_eq_true rfl, Nat.le_of_ble_eq_true rfl, Nat.le_of_ble_eq_true rfl, Nat.le_of_ble_eq_true rfl⟩ (Nat.le_of_ble_eq_true rfl) dX5_removal_22 (fun _ _ h => h) rfl (kE ?_)
        refine Z_ge ((popc t : Nat) : Int) ((popc b : Nat) : Int) (tI_nI (Nat.lt_of_le_of_lt (popc_le _) (by decide))) (tI_nI (Nat.lt_of_le_of_lt (popc_le _) (by decide))) 42 dX5_removal_25 (by decide) (fun c_25 => ?_) (fun c_25 => ?_)
        · skip
          refine E_iinc 3 (xt + 1) [(3, .int (xt + 1)), (0, .ref 0), (1, .int (nI (2 ^ n - 1))), (2, .int xb)] dX5_removal_42 rfl rfl (by decide) rfl ?_
          refine E_goto 12 dX5_removal_45 (by decide) ?_
          refine E_sub [1, 2, 3, 0] rfl ?_
          exact ih12 (xt + 1) xb (t + 1) b ma la (by omega) ((tI_add ht (show (1 : Int32).toInt = 1 from rfl) (by omega)).trans (by omega)) hb (by omega) hF hL hz2 (rmI_n hI h10 (by omega) (Or.inl (by omega)))
        · skip
          refine E_aload_n 0 dX5_removal_28 rfl rfl ?_
          refine E_iload_n 1 dX5_removal_29 rfl rfl ?_
          refine E_iload_n 3 dX5_removal_30 rfl rfl ?_
          refine E_iconst (-1) (by decide) dX5_removal_31 ?_
          refine E_ixor dX5_removal_32 ?_
          refine E_iand dX5_removal_33 ?_
          rw [show ((nI (2 ^ n - 1)) &&& (xt ^^^ ((-1) : Int32))) = (nI ((2 ^ n - 1) ^^^ t)) from (by rw [tI_nIx ht]; exact rmv_v n (by omega) t (by omega))]
          refine E_callV (c_X5_standsClean l hfl ma la V hV (hD.r8 (hF 1 (by decide)) (hF 2 (by decide)) (hF 3 (by decide)) (hF 4 (by decide)) (hF 5 (by decide)) (hF 6 (by decide)) (hF 7 (by decide)) (hF 8 (by decide))) n hn h10 hz2 (nI ((2 ^ n - 1) ^^^ t)) ((2 ^ n - 1) ^^^ t) t ((tI_nI (Nat.lt_of_lt_of_le (rmv_l (n := n) (by omega)) (by omega))).trans (by omega)) rmv_b) cw_X5_176 (As := [.int (nI ((2 ^ n - 1) ^^^ t))]) (st := []) wi_yX5_standsClean we_yX5_standsClean (ci := 5) (q := (RX5, TX5, 7)) rfl rfl (wl_atO tw_0) rfl ⟨Nat.le_of_ble_eq_true rfl, Nat.le_of_ble_eq_true rfl, Nat.le_of_ble_eq_true rfl, Nat.le_of_ble_eq_true rfl⟩ (Nat.le_of_ble_eq_true rfl) dX5_removal_34 (fun _ _ h => h) rfl (kI (fun r_34 mi_34 ml_34 h_34 => ?_))
          obtain ⟨e_34, h_34⟩ := h_34
          subst e_34
          refine B_eq 42 dX5_removal_37 (by decide) (fun c_37 => ?_) (fun c_37 => ?_)
          · skip
            refine E_iinc 3 (xt + 1) [(3, .int (xt + 1)), (0, .ref 0), (1, .int (nI (2 ^ n - 1))), (2, .int xb)] dX5_removal_42 rfl rfl (by decide) rfl ?_
            refine E_goto 12 dX5_removal_45 (by decide) ?_
            refine E_sub [1, 2, 3, 0] rfl ?_
            exact ih12 (xt + 1) xb (t + 1) b mi_34 ml_34 (by omega) ((tI_add ht (show (1 : Int32).toInt = 1 from rfl) (by omega)).trans (by omega)) hb (by omega) (hF.trans h_34.1 (fun _ h => h) (fun _ h => h)) (hL.trans h_34.2.1) h_34.2.2.1 (rmI_n hI h10 (by omega) (Or.inr c_37))
          · skip
            refine E_iload_n 3 dX5_removal_40 rfl rfl ?_
            refine E_istore_n [(2, .int xt), (0, .ref 0), (1, .int (nI (2 ^ n - 1))), (3, .int xt)] dX5_removal_41 rfl (by decide) rfl ?_
            refine E_iinc 3 (xt + 1) [(3, .int (xt + 1)), (2, .int xt), (0, .ref 0), (1, .int (nI (2 ^ n - 1)))] dX5_removal_42 rfl rfl (by decide) rfl ?_
            refine E_goto 12 dX5_removal_45 (by decide) ?_
            refine E_sub [2, 3, 1, 0] rfl ?_
            exact ih12 (xt + 1) xt (t + 1) t mi_34 ml_34 (by omega) ((tI_add ht (show (1 : Int32).toInt = 1 from rfl) (by omega)).trans (by omega)) ht (by omega) (hF.trans h_34.1 (fun _ h => h) (fun _ h => h)) (hL.trans h_34.2.1) h_34.2.2.1 (rmI_y hI (by omega) c_37)
  refine E_sub [3, 2, 1, 0] rfl ?_
  exact J12 _ 0 (nI (2 ^ n - 1)) 0 (2 ^ n - 1) mi ml (Nat.lt_succ_self _) (show (0 : Int32).toInt = 0 from rfl) (tI_nI (pw_lt (by omega))) (Nat.zero_le _) Fr_r FLc_r hz rmI_0
set_option maxHeartbeats 1600000 in
set_option maxRecDepth 100000 in
theorem c_X5_openChannels (l : Launch) (hfl : l.stackTraces = false) (mi : MI) (ml : MJ) (V : Nat → Int32) (hV : WFV V) (hD : DR 1 mi V) (n : Nat) (hn : (V 5).toInt = (n : Int)) (h10 : n ≤ 10) (hz : ml 56 0 = 0 ∧ ml 57 0 = 0) (a : Int32) (A : Int) (hA : a.toInt = A) (bA : 0 ≤ A ∧ A ≤ 60) : Ct l yX5_openChannels (.code yX5_openChannels cX5_openChannels 5 (some .long)) 5 0 0 [.ref 0, .int a] (wl mi ml) (QJ (fun r mi9 ml9 => Fr [53, 54, 55] mi mi9 ∧ FLc ml ml9 ∧ (ml9 56 0 = 0 ∧ ml9 57 0 = 0) ∧ r = opS V n A 64)) noX := by
  refine Ct_of (ini := false) pn_X5 hfl (fun h => nomatch h) (Nat.le_of_ble_eq_true rfl) ?_
  show E l RX5 cX5_openChannels 5 (some .long) false [] (rmE 5 0 0) (wl mi ml) (TgM (wl mi ml) 0 0 (QJ (fun r mi9 ml9 => Fr [53, 54, 55] mi mi9 ∧ FLc ml ml9 ∧ (ml9 56 0 = 0 ∧ ml9 57 0 = 0) ∧ r = opS V n A 64)) noX) 0 0 0 [(0, .ref 0), (1, .int a)] [] (wl mi ml)
  refine E_aload_n 0 dX5_openChannels_0 rfl rfl ?_
  refine E_aload_n 0 dX5_openChannels_1 rfl rfl ?_
  refine gf_X5_10 tw_0 rfl dX5_openChannels_2 ?_
  refine E_callV (c_X1_everyCarrier l hfl 1 isD_1 mi ml n ((congrArg Int32.toInt hD.2.1.1).trans hn) (by omega)) cw_X5_146 (As := []) (st := [.ref 0]) wi_yX1_everyCarrier we_yX1_everyCarrier (ci := 1) (q := (RX1, TX1, 15)) rfl rfl (wl_atO isD_1.t) rfl ⟨Nat.le_of_ble_eq_true rfl, Nat.le_of_ble_eq_true rfl, Nat.le_of_ble_eq_true rfl, Nat.le_of_ble_eq_true rfl⟩ (Nat.le_of_ble_eq_true rfl) dX5_openChannels_5 (fun _ _ h => h) rfl (kE ?_)
  refine E_callV (c_X5_standsClean l hfl mi ml V hV hD n hn h10 hz (nI (2 ^ n - 1)) (2 ^ n - 1) 0 ((tI_nI (pw_lt (by omega))).trans (by omega)) tb_all) cw_X5_176 (As := [.int (nI (2 ^ n - 1))]) (st := []) wi_yX5_standsClean we_yX5_standsClean (ci := 5) (q := (RX5, TX5, 7)) rfl rfl (wl_atO tw_0) rfl ⟨Nat.le_of_ble_eq_true rfl, Nat.le_of_ble_eq_true rfl, Nat.le_of_ble_eq_true rfl, Nat.le_of_ble_eq_true rfl⟩ (Nat.le_of_ble_eq_true rfl) dX5_openChannels_8 (fun _ _ h => h) rfl (kI (fun r_8 mi_8 ml_8 h_8 => ?_))
  obtain ⟨e_8, h_8⟩ := h_8
  subst e_8
  refine B_ne 16 dX5_openChannels_11 (by decide) (fun c_11 => ?_) (fun c_11 => ?_)
  · skip
    refine E_lconst 0 rfl dX5_openChannels_16 ?_
    refine E_lstore_n [(2, .long 0), (0, .ref 0), (1, .int a)] dX5_openChannels_17 rfl (by decide) rfl ?_
    refine E_iconst 0 (by decide) dX5_openChannels_18 ?_
    refine E_istore [(4, .int 0), (2, .long 0), (0, .ref 0), (1, .int a)] dX5_openChannels_19 (by decide) rfl ?_
    have J21 : ∀ (Nm : Nat) (xc : Int32) (v : Int64) (c : Nat) (ma : MI) (la : MJ), 64 - c < Nm → xc.toInt = (c : Int) → c ≤ 64 → v = opS V n A c → Fr [53, 54, 55] mi ma → FLc ml la → CSI ma la (DV V) (V 3).toInt (V 4).toInt n → E l RX5 cX5_openChannels 5 (some .long) false [] (rmE 5 0 0) (wl mi ml) (TgM (wl mi ml) 0 0 (QJ (fun r mi9 ml9 => Fr [53, 54, 55] mi mi9 ∧ FLc ml ml9 ∧ (ml9 56 0 = 0 ∧ ml9 57 0 = 0) ∧ r = opS V n A 64)) noX) 0 0 21 [(0, .ref 0), (1, .int a), (2, .long v), (4, .int xc)] [] (wl ma la) := by
      intro Nm
      induction Nm with
      | zero => intros; omega
      | succ Nm ih21 =>
        intro xc v c ma la hN21 hc hc6 hv hF hL hC
        refine E_iload 3 dX5_openChannels_21 rfl ?_
        refine E_bipush 64 (by decide) dX5_openChannels_23 ?_
        refine Z_ge (c : Int) 64 hc (show (64 : Int32).toInt = 64 from rfl) 61 dX5_openChannels_25 (by decide) (fun c_25 => ?_) (fun c_25 => ?_)
        · skip
          refine E_lload_n 2 dX5_openChannels_61 rfl rfl ?_
          refine E_lret rfl (Nat.le_of_ble_eq_true rfl) (Nat.le_of_ble_eq_true rfl) dX5_openChannels_62 ?_
          exact okQJ ⟨hF, hL, hC.z, by rw [hv, show c = 64 by omega]⟩
        · skip
          refine E_aload_n 0 dX5_openChannels_28 rfl rfl ?_
          refine gf_X5_36 tw_0 rfl dX5_openChannels_29 ?_
          refine E_iload 3 dX5_openChannels_32 rfl ?_
          refine E_iload_n 1 dX5_openChannels_34 rfl rfl ?_
          refine E_callV (c_X0_join l hfl ma la (DVO V n (c : Int) A) (V 3).toInt (V 4).toInt n (hC.d eqD_O) (RgD_O hV hn (by omega) bA) (by omega) xc (hc.trans (by show (c : Int) = if n < n then (V (6 + 2 * n)).toInt else (c : Int); rw [if_neg (Nat.lt_irrefl n)])) a (hA.trans (by show A = if n < n then (V (7 + 2 * n)).toInt else A; rw [if_neg (Nat.lt_irrefl n)]))) cw_X5_334 (As := [.int xc, .int a]) (st := []) wi_yX0_join we_yX0_join (ci := 0) (q := (RX0, TX0, 10)) rfl rfl (wl_atO tw_53) rfl ⟨Nat.le_of_ble_eq_true rfl, Nat.le_of_ble_eq_true rfl, Nat.le_of_ble_eq_true rfl, Nat.le_of_ble_eq_true rfl⟩ (Nat.le_of_ble_eq_true rfl) dX5_openChannels_35 (fun _ _ h => h) rfl (kI (fun r_35 mi_35 ml_35 h_35 => ?_))
          obtain ⟨e_35, h_35⟩ := h_35
          subst e_35
          refine B_eq 55 dX5_openChannels_38 (by decide) (fun c_38 => ?_) (fun c_38 => ?_)
          · skip
            refine E_iinc 3 (xc + 1) [(4, .int (xc + 1)), (0, .ref 0), (1, .int a), (2, .long v)] dX5_openChannels_55 rfl rfl (by decide) rfl ?_
            refine E_goto 21 dX5_openChannels_58 (by decide) ?_
            refine E_sub [1, 2, 3, 0] rfl ?_
            exact ih21 (xc + 1) v (c + 1) mi_35 ml_35 (by omega) ((tI_add hc (show (1 : Int32).toInt = 1 from rfl) (by omega)).trans (by omega)) (by omega) (by rw [opS_0' (fun z => c_38 ((opP_iff hV).mp z))]; exact hv) (hF.trans h_35.1 (fun _ h => h) (fun _ h => h)) (hL.trans h_35.2.1) (by rw [← (h_35.2.2.resolve_left (fun z => c_38 z.1)).2.1, ← (h_35.2.2.resolve_left (fun z => c_38 z.1)).2.2]; exact hC)
          · skip
            refine E_lload_n 2 dX5_openChannels_41 rfl rfl ?_
            refine E_lconst 1 rfl dX5_openChannels_42 ?_
            refine E_iload 3 dX5_openChannels_43 rfl ?_
            refine E_lshl dX5_openChannels_45 ?_
            refine E_lor dX5_openChannels_46 ?_
            refine E_lstore_n [(2, .long (v ||| (1 <<< (xc.toInt64 &&& 63)))), (0, .ref 0), (1, .int a), (4, .int xc)] dX5_openChannels_47 rfl (by decide) rfl ?_
            refine E_aload_n 1 dX5_openChannels_48 rfl rfl ?_
            refine gf_X5_36 tw_0 rfl dX5_openChannels_49 ?_
            refine E_callV (c_X0_leave l hfl mi_35 ml_35 (DVO V n (c : Int) A) (V 3).toInt (V 4).toInt n (h_35.2.2.resolve_right (fun z => z.1 c_38)).2 (by omega)) cw_X5_338 (As := []) (st := []) wi_yX0_leave we_yX0_leave (ci := 0) (q := (RX0, TX0, 10)) rfl rfl (wl_atO tw_53) rfl ⟨Nat.le_of_ble_eq_true rfl, Nat.le_of_ble_eq_true rfl, Nat.le_of_ble_eq_true rfl, Nat.le_of_ble_eq_true rfl⟩ (Nat.le_of_ble_eq_true rfl) dX5_openChannels_52 (fun _ _ h => h) rfl (kV (fun mi_52 ml_52 h_52 => ?_))
            obtain ⟨rfl, h_52⟩ := h_52
            refine E_iinc 3 (xc + 1) [(4, .int (xc + 1)), (2, .long (v ||| (1 <<< (xc.toInt64 &&& 63)))), (0, .ref 0), (1, .int a)] dX5_openChannels_55 rfl rfl (by decide) rfl ?_
            refine E_goto 21 dX5_openChannels_58 (by decide) ?_
            refine E_sub [2, 3, 1, 0] rfl ?_
            exact ih21 (xc + 1) (v ||| (1 <<< (xc.toInt64 &&& 63))) (c + 1) mi_52 ml_35 (by omega) ((tI_add hc (show (1 : Int32).toInt = 1 from rfl) (by omega)).trans (by omega)) (by omega) (by rw [opS_y hc ((opP_iff hV).mpr c_38), hv]) ((hF.trans h_35.1 (fun _ h => h) (fun _ h => h)).trans h_52.1 (fun _ h => h) (by decide)) (hL.trans h_35.2.1) (h_52.2.d eqD_O.symm)
    refine E_sub [2, 3, 1, 0] rfl ?_
    exact J21 _ 0 0 0 mi_8 ml_8 (Nat.lt_succ_self _) (show (0 : Int32).toInt = 0 from rfl) (Nat.zero_le _) rfl h_8.1 h_8.2.1 (all_CSI (h_8.2.2.2 c_11))
  · skip
    refine E_lconst 0 rfl dX5_openChannels_14 ?_
    refine E_lret rfl (Nat.le_of_ble_eq_true rfl) (Nat.le_of_ble_eq_true rfl) dX5_openChannels_15 ?_
    exact okQJ ⟨h_8.1, h_8.2.1, h_8.2.2.1, (opS_no (fun c => opP_no (fun z => c_11 (all_Cl.mpr z))) 64).symm⟩
end CL3
