section MO9
/-- no product of these three carriers hits a row -/
def nHt (D : RD) (g : Int) (N kd a b c : Nat) : Prop := ∀ k, k < N → Sg D kd a b c → ¬ ((0 - g) ≤ (pCh D kd a b c - D.2.2.2.1 k) ∧ (pCh D kd a b c - D.2.2.2.1 k) ≤ g)
def gP (D : RD) (g sp : Int) (N a b : Nat) : Prop := a ≠ b → ¬ ((1 - sp) ≤ (D.2.2.2.1 a - D.2.2.2.1 b) ∧ (D.2.2.2.1 a - D.2.2.2.1 b) ≤ (sp - 1)) ∧ nHt D g N 0 a b 0 ∧ nHt D g N 2 a b 0
def gT (D : RD) (g : Int) (N a b c : Nat) : Prop := a < b → c ≠ a → c ≠ b → nHt D g N 1 a b c
/-- the carriers of the first N rows are clean -/
def ClR (D : RD) (g sp : Int) (N : Nat) : Prop := ∀ a, a < N → ∀ b, b < N → gP D g sp N a b ∧ ∀ c, c < N → gT D g N a b c
theorem hF_y {D : RD} {g : Int} {N kd a b c : Nat} {r : Int32} (hv : (Sg D kd a b c ∧ r.toInt = pCh D kd a b c) ∨ (¬ Sg D kd a b c ∧ r = -1)) (h : ¬ ∃ k : Nat, k < N ∧ r.toInt ≠ -1 ∧ ((0 - g) ≤ (r.toInt - D.2.2.2.1 k) ∧ (r.toInt - D.2.2.2.1 k) ≤ g)) : nHt D g N kd a b c := by
  intro k hk hS hn
  rcases hv with q | q
  · have h0 := hS.1.1
    exact h ⟨k, hk, by omega, by rw [q.2]; exact hn⟩
  · exact q.1 hS
theorem hF_n {D : RD} {g : Int} {N kd a b c : Nat} {r : Int32} (hv : (Sg D kd a b c ∧ r.toInt = pCh D kd a b c) ∨ (¬ Sg D kd a b c ∧ r = -1)) (h : ∃ k : Nat, k < N ∧ r.toInt ≠ -1 ∧ ((0 - g) ≤ (r.toInt - D.2.2.2.1 k) ∧ (r.toInt - D.2.2.2.1 k) ≤ g)) : ¬ nHt D g N kd a b c := by
  obtain ⟨k, hk, h1, h2⟩ := h
  rcases hv with q | q
  · intro z
    rw [q.2] at h2
    exact z k hk q.1 h2
  · rw [q.2] at h1
    exact absurd rfl h1
theorem fl_rng {D : RD} {kd a b c : Nat} {r : Int32} (hv : (Sg D kd a b c ∧ r.toInt = pCh D kd a b c) ∨ (¬ Sg D kd a b c ∧ r = -1)) : r.toInt = -1 ∨ (0 ≤ r.toInt ∧ r.toInt ≤ 63) := by
  rcases hv with q | q
  · have := q.1.1; omega
  · rw [q.2]; exact Or.inl rfl
set_option maxHeartbeats 1600000 in
set_option maxRecDepth 100000 in
theorem c_X6_hits (l : Launch) (hfl : l.stackTraces = false) (mi : MI) (ml : MJ) (n : Nat) (hn : (mi 62 5).toInt = (n : Int)) (h10 : n ≤ 10) (hwf : WFV (mi 62)) : Ct l yX6_hits (.code yX6_hits cX6_hits 1 (some .int)) 6 0 0 [.ref 61] (wl mi ml) (QI (fun r mi9 ml9 => ml = ml9 ∧ SM 0 mi mi9 ∧ r.toInt = (hsA (mi 62) (prV (mi 62) (2 ^ n - 1) n) n : Int))) noX := by
  refine Ct_of (ini := false) pn_X6 hfl (fun h => nomatch h) (Nat.le_of_ble_eq_true rfl) ?_
  show E l RX6 cX6_hits 1 (some .int) false [] (rmE 6 0 0) (wl mi ml) (TgM (wl mi ml) 0 0 (QI (fun r mi9 ml9 => ml = ml9 ∧ SM 0 mi mi9 ∧ r.toInt = (hsA (mi 62) (prV (mi 62) (2 ^ n - 1) n) n : Int))) noX) 0 0 0 [(0, .ref 61)] [] (wl mi ml)
  refine E_aload_n 0 dX6_hits_0 rfl rfl ?_
  refine E_iconst 0 (by decide) dX6_hits_1 ?_
  refine pf_X6_43 tw_61 rfl dX6_hits_2 ?_
  refine E_aload_n 0 dX6_hits_5 rfl rfl ?_
  refine E_callV (c_X6_hitsAll l hfl (u2 mi 61 5 0) ml n ((congrArg Int32.toInt ((u2_n (by omega)).trans rfl)).trans hn) (by omega) (by rw [show (u2 mi 61 5 0) 62 = mi 62 from (u2_p (by decide))]; exact hwf) ((mi 62 3).toInt) ((congrArg Int32.toInt ((u2_n (by omega)).trans rfl)).trans rfl)) cw_X6_126 (As := []) (st := []) wi_yX6_hitsAll we_yX6_hitsAll (ci := 6) (q := (RX6, TX6, 23)) rfl rfl (wl_atO tw_61) rfl ⟨Nat.le_of_ble_eq_true rfl, Nat.le_of_ble_eq_true rfl, Nat.le_of_ble_eq_true rfl, Nat.le_of_ble_eq_true rfl⟩ (Nat.le_of_ble_eq_true rfl) dX6_hits_6 (fun _ _ h => h) rfl (kI (fun r_6 mi_6 ml_6 h_6 => ?_))
  obtain ⟨hl9_6, hFr_6, h61_6, hln_6, hr_6⟩ := h_6
  subst hl9_6
  rw [show (u2 mi 61 5 0) 62 = mi 62 from (u2_p (by decide))] at hln_6 hr_6
  refine E_iret rfl (Nat.le_of_ble_eq_true rfl) (Nat.le_of_ble_eq_true rfl) dX6_hits_9 ?_
  exact okQI ⟨rfl, SM_l hFr_6 h61_6, hr_6⟩
set_option maxHeartbeats 1600000 in
set_option maxRecDepth 100000 in
theorem c_X6_hitsOn (l : Launch) (hfl : l.stackTraces = false) (mi : MI) (ml : MJ) (n : Nat) (hn : (mi 62 5).toInt = (n : Int)) (h10 : n ≤ 10) (hwf : WFV (mi 62)) (a : Int32) (A : Int) (hA : a.toInt = A) : Ct l yX6_hitsOn (.code yX6_hitsOn cX6_hitsOn 2 (some .int)) 5 0 0 [.ref 61, .int a] (wl mi ml) (QI (fun r mi9 ml9 => ml = ml9 ∧ ((¬ (0 ≤ A ∧ A ≤ (n : Int) - 1) ∧ SM 1 mi mi9) ∨ (∃ b : Nat, b < n ∧ A = (b : Int) ∧ SM 0 mi mi9 ∧ r.toInt = (hcA (DV (mi 62)) (mi 62 3).toInt (mi 62 (6 + 2 * b)).toInt (prV (mi 62) (2 ^ n - 1) n) (prV (mi 62) (2 ^ n - 1) n).length : Int))))) noX := by
  refine Ct_of (ini := false) pn_X6 hfl (fun h => nomatch h) (Nat.le_of_ble_eq_true rfl) ?_
  show E l RX6 cX6_hitsOn 2 (some .int) false [] (rmE 5 0 0) (wl mi ml) (TgM (wl mi ml) 0 0 (QI (fun r mi9 ml9 => ml = ml9 ∧ ((¬ (0 ≤ A ∧ A ≤ (n : Int) - 1) ∧ SM 1 mi mi9) ∨ (∃ b : Nat, b < n ∧ A = (b : Int) ∧ SM 0 mi mi9 ∧ r.toInt = (hcA (DV (mi 62)) (mi 62 3).toInt (mi 62 (6 + 2 * b)).toInt (prV (mi 62) (2 ^ n - 1) n) (prV (mi 62) (2 ^ n - 1) n).length : Int))))) noX) 0 0 0 [(0, .ref 61), (1, .int a)] [] (wl mi ml)
  refine E_aload_n 0 dX6_hitsOn_0 rfl rfl ?_
  refine E_aload_n 0 dX6_hitsOn_1 rfl rfl ?_
  refine E_iload_n 1 dX6_hitsOn_2 rfl rfl ?_
  refine E_callV (c_X6_isCarrier l hfl mi ml n hn (by omega) a A hA) cw_X6_79 (As := [.int a]) (st := [.ref 61]) wi_yX6_isCarrier we_yX6_isCarrier (ci := 6) (q := (RX6, TX6, 23)) rfl rfl (wl_atO tw_61) rfl ⟨Nat.le_of_ble_eq_true rfl, Nat.le_of_ble_eq_true rfl, Nat.le_of_ble_eq_true rfl, Nat.le_of_ble_eq_true rfl⟩ (Nat.le_of_ble_eq_true rfl) dX6_hitsOn_3 (fun _ _ h => h) rfl (kE ?_)
  refine B_eq 13 dX6_hitsOn_6 (by decide) (fun c_6 => ?_) (fun c_6 => ?_)
  · skip
    refine E_iconst 1 (by decide) dX6_hitsOn_13 ?_
    refine pf_X6_43 tw_61 rfl dX6_hitsOn_14 ?_
    refine E_aload_n 0 dX6_hitsOn_17 rfl rfl ?_
    refine gf_X6_43 1 tw_61 rfl (u2_s _ _ _ _) dX6_hitsOn_18 ?_
    refine Y_eq 1 (show (1 : Int32).toInt = 1 from rfl) 26 dX6_hitsOn_21 (by decide) (fun c_21 => ?_) (fun c_21 => ?_)
    · exact absurd c_21 (by decide)
    · skip
      refine E_iconst 0 (by decide) dX6_hitsOn_24 ?_
      refine E_iret rfl (Nat.le_of_ble_eq_true rfl) (Nat.le_of_ble_eq_true rfl) dX6_hitsOn_25 ?_
      exact okQI ⟨rfl, Or.inl ⟨c_6, SM_0⟩⟩
  · skip
    refine E_iconst 0 (by decide) dX6_hitsOn_9 ?_
    refine E_goto 14 dX6_hitsOn_10 (by decide) ?_
    refine pf_X6_43 tw_61 rfl dX6_hitsOn_14 ?_
    refine E_aload_n 0 dX6_hitsOn_17 rfl rfl ?_
    refine gf_X6_43 0 tw_61 rfl (u2_s _ _ _ _) dX6_hitsOn_18 ?_
    refine Y_eq 0 (show (0 : Int32).toInt = 0 from rfl) 26 dX6_hitsOn_21 (by decide) (fun c_21 => ?_) (fun c_21 => ?_)
    · skip
      obtain ⟨b, hb9⟩ : ∃ b : Nat, A = (b : Int) := ⟨A.toNat, by omega⟩
      have bg := hwf.1.2.2.2.1
      have bc := (hwf.2.2.1 b (by omega)).1
      refine E_aload_n 0 dX6_hitsOn_26 rfl rfl ?_
      refine E_aload_n 0 dX6_hitsOn_27 rfl rfl ?_
      refine E_callV (c_X6_all l hfl (u2 mi 61 5 0) ml n ((congrArg Int32.toInt ((u2_n (by omega)).trans rfl)).trans hn) (by omega)) cw_X6_105 (As := []) (st := [.ref 61]) wi_yX6_all we_yX6_all (ci := 6) (q := (RX6, TX6, 23)) rfl rfl (wl_atO tw_61) rfl ⟨Nat.le_of_ble_eq_true rfl, Nat.le_of_ble_eq_true rfl, Nat.le_of_ble_eq_true rfl, Nat.le_of_ble_eq_true rfl⟩ (Nat.le_of_ble_eq_true rfl) dX6_hitsOn_28 (fun _ _ h => h) rfl (kE ?_)
      refine E_callV (c_X6_listAll l hfl (u2 mi 61 5 0) ml n ((congrArg Int32.toInt ((u2_n (by omega)).trans rfl)).trans hn) (by omega) (by rw [show (u2 mi 61 5 0) 62 = mi 62 from (u2_p (by decide))]; exact hwf) (nI (2 ^ n - 1)) (2 ^ n - 1) ((tI_pow (by omega)).trans (by omega)) (by have := Nat.pow_le_pow_right (show 0 < 2 by omega) h10; omega)) cw_X6_109 (As := [.int (nI (2 ^ n - 1))]) (st := []) wi_yX6_listAll we_yX6_listAll (ci := 6) (q := (RX6, TX6, 23)) rfl rfl (wl_atO tw_61) rfl ⟨Nat.le_of_ble_eq_true rfl, Nat.le_of_ble_eq_true rfl, Nat.le_of_ble_eq_true rfl, Nat.le_of_ble_eq_true rfl⟩ (Nat.le_of_ble_eq_true rfl) dX6_hitsOn_31 (fun _ _ h => h) rfl (kV (fun mi_31 ml_31 h_31 => ?_))
      obtain ⟨hl9_31, hFr_31, h61_31, hln_31, hen_31⟩ := h_31
      subst hl9_31
      rw [show (u2 mi 61 5 0) 62 = mi 62 from (u2_p (by decide))] at hln_31 hen_31
      have hle_31 := prV_len (V := mi 62) (s := (2 ^ n - 1)) (n := n) (by omega)
      refine E_aload_n 0 dX6_hitsOn_34 rfl rfl ?_
      refine E_aload_n 0 dX6_hitsOn_35 rfl rfl ?_
      refine E_iload_n 1 dX6_hitsOn_36 rfl rfl ?_
      refine E_callV (c_X6_channelOf l hfl mi_31 ml a b (hA.trans (by omega)) (by omega)) cw_X6_57 (As := [.int a]) (st := [.ref 61]) wi_yX6_channelOf we_yX6_channelOf (ci := 6) (q := (RX6, TX6, 23)) rfl rfl (wl_atO tw_61) rfl ⟨Nat.le_of_ble_eq_true rfl, Nat.le_of_ble_eq_true rfl, Nat.le_of_ble_eq_true rfl, Nat.le_of_ble_eq_true rfl⟩ (Nat.le_of_ble_eq_true rfl) dX6_hitsOn_37 (fun _ _ h => h) rfl (kE ?_)
      rw [show mi_31 62 (6 + 2 * b) = (mi 62 (6 + 2 * b)) from (congrFun ((hFr_31 62 (by decide)).trans (u2_p (by decide))) (6 + 2 * b))]
      refine E_callV (c_X6_hitsAt l hfl mi_31 ml ((mi 62 3).toInt) ((congrArg Int32.toInt (congrFun ((hFr_31 62 (by decide)).trans (u2_p (by decide))) 3)).trans rfl) (by omega) (DV (mi 62)) (prV (mi 62) (2 ^ n - 1) n) hen_31 prV_in hle_31 hln_31 (mi 62 (6 + 2 * b)) ((mi 62 (6 + 2 * b)).toInt) rfl (by omega)) cw_X6_123 (As := [.int (mi 62 (6 + 2 * b))]) (st := []) wi_yX6_hitsAt we_yX6_hitsAt (ci := 6) (q := (RX6, TX6, 23)) rfl rfl (wl_atO tw_61) rfl ⟨Nat.le_of_ble_eq_true rfl, Nat.le_of_ble_eq_true rfl, Nat.le_of_ble_eq_true rfl, Nat.le_of_ble_eq_true rfl⟩ (Nat.le_of_ble_eq_true rfl) dX6_hitsOn_40 (fun _ _ h => h) rfl (kE ?_)
      refine E_iret rfl (Nat.le_of_ble_eq_true rfl) (Nat.le_of_ble_eq_true rfl) dX6_hitsOn_43 ?_
      exact okQI ⟨rfl, Or.inr ⟨b, by omega, hb9, SM_l hFr_31 h61_31, (tI_nI (Nat.lt_of_le_of_lt (hcA_le _) (Nat.lt_of_le_of_lt hle_31 (by omega))))⟩⟩
    · exact absurd c_21 (by decide)
set_option maxHeartbeats 1600000 in
set_option maxRecDepth 100000 in
theorem c_X6_hitsRow (l : Launch) (hfl : l.stackTraces = false) (mi : MI) (ml : MJ) (K : Nat) (L3 L5 : Int) (rc rl : Nat → Int) (N : Nat) (hset : SetM mi (K, L3, L5, rc, rl)) (hrow : RowM mi (K, L3, L5, rc, rl) N) (hN : N ≤ 12) (g sp : Int) (hg : (mi 62 3).toInt = g) (bg : 0 ≤ g ∧ g ≤ 5) (hsp : (mi 62 4).toInt = sp) (bsp : 1 ≤ sp ∧ sp ≤ 10) (ch x : Int32) (CH : Int) (hC : ch.toInt = CH) (bC : CH = -1 ∨ (0 ≤ CH ∧ CH ≤ 63)) (hx : x.toInt = (N : Int)) : Ct l yX6_hitsRow (.code yX6_hitsRow cX6_hitsRow 5 (some .boolean)) 2 0 0 [.ref 61, .int ch, .int x] (wl mi ml) (QP (some (.int (bI (∃ k : Nat, k < N ∧ CH ≠ -1 ∧ ((0 - g) ≤ (CH - rc k) ∧ (CH - rc k) ≤ g))))) (wl mi ml)) noX := by
  refine Ct_of (ini := false) pn_X6 hfl (fun h => nomatch h) (Nat.le_of_ble_eq_true rfl) ?_
  show E l RX6 cX6_hitsRow 5 (some .boolean) false [] (rmE 2 0 0) (wl mi ml) (TgM (wl mi ml) 0 0 (QP (some (.int (bI (∃ k : Nat, k < N ∧ CH ≠ -1 ∧ ((0 - g) ≤ (CH - rc k) ∧ (CH - rc k) ≤ g))))) (wl mi ml)) noX) 0 0 0 [(0, .ref 61), (1, .int ch), (2, .int x)] [] (wl mi ml)
  refine E_iconst 0 (by decide) dX6_hitsRow_0 ?_
  refine E_istore_n [(3, .int 0), (0, .ref 61), (1, .int ch), (2, .int x)] dX6_hitsRow_1 rfl (by decide) rfl ?_
  refine E_iconst 0 (by decide) dX6_hitsRow_2 ?_
  refine E_istore [(4, .int 0), (3, .int 0), (0, .ref 61), (1, .int ch), (2, .int x)] dX6_hitsRow_3 (by decide) rfl ?_
  have J5 : ∀ (Nm : Nat) (xi xs : Int32) (i : Nat), N - i < Nm → xi.toInt = (i : Int) → i ≤ N → xs = bI (∃ k : Nat, k < i ∧ CH ≠ -1 ∧ ((0 - g) ≤ (CH - rc k) ∧ (CH - rc k) ≤ g)) → E l RX6 cX6_hitsRow 5 (some .boolean) false [] (rmE 2 0 0) (wl mi ml) (TgM (wl mi ml) 0 0 (QP (some (.int (bI (∃ k : Nat, k < N ∧ CH ≠ -1 ∧ ((0 - g) ≤ (CH - rc k) ∧ (CH - rc k) ≤ g))))) (wl mi ml)) noX) 0 0 5 [(0, .ref 61), (1, .int ch), (2, .int x), (3, .int xs), (4, .int xi)] [] (wl mi ml) := by
    intro Nm
    induction Nm with
    | zero => intros; omega
    | succ Nm ih5 =>
      intro xi xs i hN5 hxi hi hs
      subst hs
      refine E_iload 4 dX6_hitsRow_5 rfl ?_
      refine E_iload_n 2 dX6_hitsRow_7 rfl rfl ?_
      refine Z_ge (i : Int) (N : Int) hxi hx 47 dX6_hitsRow_8 (by decide) (fun c_8 => ?_) (fun c_8 => ?_)
      · skip
        refine E_iload_n 3 dX6_hitsRow_47 rfl rfl ?_
        refine E_zret rfl nbI (Nat.le_of_ble_eq_true rfl) (Nat.le_of_ble_eq_true rfl) dX6_hitsRow_48 ?_
        exact okP (bI_iff ⟨fun ⟨j, a1, a2⟩ => ⟨j, by omega, a2⟩, fun ⟨j, a1, a2⟩ => ⟨j, by omega, a2⟩⟩)
      · skip
        refine E_iload_n 3 dX6_hitsRow_11 rfl rfl ?_
        refine B_ne 35 dX6_hitsRow_12 (by decide) (fun c_12 => ?_) (fun c_12 => ?_)
        · skip
          refine E_iconst 1 (by decide) dX6_hitsRow_35 ?_
          refine E_goto 40 dX6_hitsRow_36 (by decide) ?_
          refine E_istore_n [(3, .int 1), (0, .ref 61), (1, .int ch), (2, .int x), (4, .int xi)] dX6_hitsRow_40 rfl (by decide) rfl ?_
          refine E_iinc 4 (xi + 1) [(4, .int (xi + 1)), (3, .int 1), (0, .ref 61), (1, .int ch), (2, .int x)] dX6_hitsRow_41 rfl rfl (by decide) rfl ?_
          refine E_goto 5 dX6_hitsRow_44 (by decide) ?_
          refine E_sub [2, 3, 4, 1, 0] rfl ?_
          exact ih5 (xi + 1) 1 (i + 1) (by omega) ((tI_add hxi (show (1 : Int32).toInt = 1 from rfl) (by omega)).trans (by omega)) (by omega) (by first | exact ex_t c_12 | exact ex_n ⟨c_17, c_32⟩ | exact ex_f c_12 (fun q => q.1 c_17) | exact ex_f c_12 (fun q => c_32 q.2))
        · skip
          refine E_iload_n 1 dX6_hitsRow_15 rfl rfl ?_
          refine E_iconst (-1) (by decide) dX6_hitsRow_16 ?_
          refine Z_eq CH (-1) hC (show ((-1) : Int32).toInt = (-1) from rfl) 39 dX6_hitsRow_17 (by decide) (fun c_17 => ?_) (fun c_17 => ?_)
          · skip
            refine E_iconst 0 (by decide) dX6_hitsRow_39 ?_
            refine E_istore_n [(3, .int 0), (0, .ref 61), (1, .int ch), (2, .int x), (4, .int xi)] dX6_hitsRow_40 rfl (by decide) rfl ?_
            refine E_iinc 4 (xi + 1) [(4, .int (xi + 1)), (3, .int 0), (0, .ref 61), (1, .int ch), (2, .int x)] dX6_hitsRow_41 rfl rfl (by decide) rfl ?_
            refine E_goto 5 dX6_hitsRow_44 (by decide) ?_
            refine E_sub [2, 3, 4, 1, 0] rfl ?_
            exact ih5 (xi + 1) 0 (i + 1) (by omega) ((tI_add hxi (show (1 : Int32).toInt = 1 from rfl) (by omega)).trans (by omega)) (by omega) (by first | exact ex_t c_12 | exact ex_n ⟨c_17, c_32⟩ | exact ex_f c_12 (fun q => q.1 c_17) | exact ex_f c_12 (fun q => c_32 q.2))
          · skip
            have br := (hrow i (by omega)).1
            simp only [] at br
            refine E_aload_n 0 dX6_hitsRow_20 rfl rfl ?_
            refine E_iload_n 1 dX6_hitsRow_21 rfl rfl ?_
            refine E_aload_n 0 dX6_hitsRow_22 rfl rfl ?_
            refine gf_X6_19 tw_61 rfl dX6_hitsRow_23 ?_
            refine E_iload 4 dX6_hitsRow_26 rfl ?_
            refine S_iald i (mi 65 i) tw_65 (hxi.trans (by omega)) (by omega) rfl dX6_hitsRow_28 ?_
            refine E_callV (c_X6_isNear l hfl mi ml ch (mi 65 i) CH (rc i) g hC (show (mi 65 i).toInt = rc i from (hrow i (by omega)).1.1) (by omega) (by omega) hg (by omega)) cw_X6_120 (As := [.int ch, .int (mi 65 i)]) (st := []) wi_yX6_isNear we_yX6_isNear (ci := 6) (q := (RX6, TX6, 23)) rfl rfl (wl_atO tw_61) rfl ⟨Nat.le_of_ble_eq_true rfl, Nat.le_of_ble_eq_true rfl, Nat.le_of_ble_eq_true rfl, Nat.le_of_ble_eq_true rfl⟩ (Nat.le_of_ble_eq_true rfl) dX6_hitsRow_29 (fun _ _ h => h) rfl (kE ?_)
            refine B_eq 39 dX6_hitsRow_32 (by decide) (fun c_32 => ?_) (fun c_32 => ?_)
            · skip
              refine E_iconst 0 (by decide) dX6_hitsRow_39 ?_
              refine E_istore_n [(3, .int 0), (0, .ref 61), (1, .int ch), (2, .int x), (4, .int xi)] dX6_hitsRow_40 rfl (by decide) rfl ?_
              refine E_iinc 4 (xi + 1) [(4, .int (xi + 1)), (3, .int 0), (0, .ref 61), (1, .int ch), (2, .int x)] dX6_hitsRow_41 rfl rfl (by decide) rfl ?_
              refine E_goto 5 dX6_hitsRow_44 (by decide) ?_
              refine E_sub [2, 3, 4, 1, 0] rfl ?_
              exact ih5 (xi + 1) 0 (i + 1) (by omega) ((tI_add hxi (show (1 : Int32).toInt = 1 from rfl) (by omega)).trans (by omega)) (by omega) (by first | exact ex_t c_12 | exact ex_n ⟨c_17, c_32⟩ | exact ex_f c_12 (fun q => q.1 c_17) | exact ex_f c_12 (fun q => c_32 q.2))
            · skip
              refine E_iconst 1 (by decide) dX6_hitsRow_35 ?_
              refine E_goto 40 dX6_hitsRow_36 (by decide) ?_
              refine E_istore_n [(3, .int 1), (0, .ref 61), (1, .int ch), (2, .int x), (4, .int xi)] dX6_hitsRow_40 rfl (by decide) rfl ?_
              refine E_iinc 4 (xi + 1) [(4, .int (xi + 1)), (3, .int 1), (0, .ref 61), (1, .int ch), (2, .int x)] dX6_hitsRow_41 rfl rfl (by decide) rfl ?_
              refine E_goto 5 dX6_hitsRow_44 (by decide) ?_
              refine E_sub [2, 3, 4, 1, 0] rfl ?_
              exact ih5 (xi + 1) 1 (i + 1) (by omega) ((tI_add hxi (show (1 : Int32).toInt = 1 from rfl) (by omega)).trans (by omega)) (by omega) (by first | exact ex_t c_12 | exact ex_n ⟨c_17, c_32⟩ | exact ex_f c_12 (fun q => q.1 c_17) | exact ex_f c_12 (fun q => c_32 q.2))
  refine E_sub [2, 3, 4, 1, 0] rfl ?_
  exact J5 _ 0 0 0 (Nat.lt_succ_self _) (show (0 : Int32).toInt = 0 from rfl) (Nat.zero_le _) (b0 (fun ⟨j, h, _⟩ => absurd h (Nat.not_lt_zero j)))
set_option maxHeartbeats 1600000 in
set_option maxRecDepth 100000 in
theorem c_X6_isRowClean (l : Launch) (hfl : l.stackTraces = false) (mi : MI) (ml : MJ) (K : Nat) (L3 L5 : Int) (rc rl : Nat → Int) (N : Nat) (hset : SetM mi (K, L3, L5, rc, rl)) (hrow : RowM mi (K, L3, L5, rc, rl) N) (hN : N ≤ 12) (g sp : Int) (hg : (mi 62 3).toInt = g) (bg : 0 ≤ g ∧ g ≤ 5) (hsp : (mi 62 4).toInt = sp) (bsp : 1 ≤ sp ∧ sp ≤ 10) (x : Int32) (hx : x.toInt = (N : Int)) : Ct l yX6_isRowClean (.code yX6_isRowClean cX6_isRowClean 6 (some .boolean)) 3 0 0 [.ref 61, .int x] (wl mi ml) (QP (some (.int (bI (ClR (K, L3, L5, rc, rl) g sp N)))) (wl mi ml)) noX := by
  refine Ct_of (ini := false) pn_X6 hfl (fun h => nomatch h) (Nat.le_of_ble_eq_true rfl) ?_
  show E l RX6 cX6_isRowClean 6 (some .boolean) false [] (rmE 3 0 0) (wl mi ml) (TgM (wl mi ml) 0 0 (QP (some (.int (bI (ClR (K, L3, L5, rc, rl) g sp N)))) (wl mi ml)) noX) 0 0 0 [(0, .ref 61), (1, .int x)] [] (wl mi ml)
  refine E_iconst 0 (by decide) dX6_isRowClean_0 ?_
  refine E_istore_n [(2, .int 0), (0, .ref 61), (1, .int x)] dX6_isRowClean_1 rfl (by decide) rfl ?_
  have J2 : ∀ (Nm : Nat) (xa : Int32) (a : Nat), N - a < Nm → xa.toInt = (a : Int) → a ≤ N → (∀ a1, a1 < a → ∀ b1, b1 < N → (gP (K, L3, L5, rc, rl) g sp N a1 b1 ∧ ∀ c, c < N → gT (K, L3, L5, rc, rl) g N a1 b1 c)) → E l RX6 cX6_isRowClean 6 (some .boolean) false [] (rmE 3 0 0) (wl mi ml) (TgM (wl mi ml) 0 0 (QP (some (.int (bI (ClR (K, L3, L5, rc, rl) g sp N)))) (wl mi ml)) noX) 0 0 2 [(0, .ref 61), (1, .int x), (2, .int xa)] [] (wl mi ml) := by
    intro Nm
    induction Nm with
    | zero => intros; omega
    | succ Nm ih2 =>
      intro xa a hN2 hxa ha h1
      refine E_iload_n 2 dX6_isRowClean_2 rfl rfl ?_
      refine E_iload_n 1 dX6_isRowClean_3 rfl rfl ?_
      refine Z_ge (a : Int) (N : Int) hxa hx 162 dX6_isRowClean_4 (by decide) (fun c_4 => ?_) (fun c_4 => ?_)
      · skip
        refine E_iconst 1 (by decide) dX6_isRowClean_162 ?_
        refine E_zret rfl rfl (Nat.le_of_ble_eq_true rfl) (Nat.le_of_ble_eq_true rfl) dX6_isRowClean_163 ?_
        exact okP (b1 (fun a1 ha1 b1 hb1 => h1 a1 (by omega) b1 hb1))
      · skip
        refine E_iconst 0 (by decide) dX6_isRowClean_7 ?_
        refine E_istore_n [(3, .int 0), (0, .ref 61), (1, .int x), (2, .int xa)] dX6_isRowClean_8 rfl (by decide) rfl ?_
        have J9 : ∀ (Nm : Nat) (xb : Int32) (b : Nat), N - b < Nm → xb.toInt = (b : Int) → b ≤ N → (∀ b1, b1 < b → (gP (K, L3, L5, rc, rl) g sp N a b1 ∧ ∀ c, c < N → gT (K, L3, L5, rc, rl) g N a b1 c)) → E l RX6 cX6_isRowClean 6 (some .boolean) false [] (rmE 3 0 0) (wl mi ml) (TgM (wl mi ml) 0 0 (QP (some (.int (bI (ClR (K, L3, L5, rc, rl) g sp N)))) (wl mi ml)) noX) 0 0 9 [(0, .ref 61), (1, .int x), (2, .int xa), (3, .int xb)] [] (wl mi ml) := by
          intro Nm
          induction Nm with
          | zero => intros; omega
          | succ Nm ih9 =>
            intro xb b hN9 hxb hb h2
            refine E_iload_n 3 dX6_isRowClean_9 rfl rfl ?_
            refine E_iload_n 1 dX6_isRowClean_10 rfl rfl ?_
            refine Z_ge (b : Int) (N : Int) hxb hx 156 dX6_isRowClean_11 (by decide) (fun c_11 => ?_) (fun c_11 => ?_)
            · skip
              refine E_iinc 2 (xa + 1) [(2, .int (xa + 1)), (0, .ref 61), (1, .int x), (3, .int xb)] dX6_isRowClean_156 rfl rfl (by decide) rfl ?_
              refine E_goto 2 dX6_isRowClean_159 (by decide) ?_
              refine E_sub [1, 2, 0] rfl ?_
              exact ih2 (xa + 1) (a + 1) (by omega) ((tI_add hxa (show (1 : Int32).toInt = 1 from rfl) (by omega)).trans (by omega)) (by omega) (lt_s h1 (fun b1 hb1 => h2 b1 (by omega)))
            · skip
              have ba := (hrow a (by omega)).1
              have bb := (hrow b (by omega)).1
              simp only [] at ba bb
              refine E_aload_n 0 dX6_isRowClean_14 rfl rfl ?_
              refine gf_X6_19 tw_61 rfl dX6_isRowClean_15 ?_
              refine E_iload_n 2 dX6_isRowClean_18 rfl rfl ?_
              refine S_iald a (mi 65 a) tw_65 (hxa.trans (by omega)) (by omega) rfl dX6_isRowClean_19 ?_
              refine E_aload_n 0 dX6_isRowClean_20 rfl rfl ?_
              refine gf_X6_19 tw_61 rfl dX6_isRowClean_21 ?_
              refine E_iload_n 3 dX6_isRowClean_24 rfl rfl ?_
              refine S_iald b (mi 65 b) tw_65 (hxb.trans (by omega)) (by omega) rfl dX6_isRowClean_25 ?_
              refine E_isub dX6_isRowClean_26 ?_
              refine E_istore [(4, .int ((mi 65 a) - (mi 65 b))), (0, .ref 61), (1, .int x), (2, .int xa), (3, .int xb)] dX6_isRowClean_27 (by decide) rfl ?_
              refine E_iload_n 3 dX6_isRowClean_29 rfl rfl ?_
              refine E_iload_n 4 dX6_isRowClean_30 rfl rfl ?_
              refine Z_eq (a : Int) (b : Int) hxa hxb 60 dX6_isRowClean_31 (by decide) (fun c_31 => ?_) (fun c_31 => ?_)
              · skip
                refine E_iload_n 3 dX6_isRowClean_60 rfl rfl ?_
                refine E_iload_n 4 dX6_isRowClean_61 rfl rfl ?_
                refine Z_eq (a : Int) (b : Int) hxa hxb 99 dX6_isRowClean_62 (by decide) (fun c_62 => ?_) (fun c_62 => ?_)
                · skip
                  refine E_iconst 0 (by decide) dX6_isRowClean_99 ?_
                  refine E_istore [(5, .int 0), (4, .int ((mi 65 a) - (mi 65 b))), (0, .ref 61), (1, .int x), (2, .int xa), (3, .int xb)] dX6_isRowClean_100 (by decide) rfl ?_
                  have J102 : ∀ (Nm : Nat) (xc : Int32) (c : Nat), N - c < Nm → xc.toInt = (c : Int) → c ≤ N → gP (K, L3, L5, rc, rl) g sp N a b → (∀ c1, c1 < c → gT (K, L3, L5, rc, rl) g N a b c1) → E l RX6 cX6_isRowClean 6 (some .boolean) false [] (rmE 3 0 0) (wl mi ml) (TgM (wl mi ml) 0 0 (QP (some (.int (bI (ClR (K, L3, L5, rc, rl) g sp N)))) (wl mi ml)) noX) 0 0 102 [(0, .ref 61), (1, .int x), (2, .int xa), (3, .int xb), (5, .int xc)] [] (wl mi ml) := by
                    intro Nm
                    induction Nm with
                    | zero => intros; omega
                    | succ Nm ih102 =>
                      intro xc c hN102 hxc hc hgp h3
                      refine E_iload 4 dX6_isRowClean_102 rfl ?_
                      refine E_iload_n 1 dX6_isRowClean_104 rfl rfl ?_
                      refine Z_ge (c : Int) (N : Int) hxc hx 150 dX6_isRowClean_105 (by decide) (fun c_105 => ?_) (fun c_105 => ?_)
                      · skip
                        refine E_iinc 3 (xb + 1) [(3, .int (xb + 1)), (0, .ref 61), (1, .int x), (2, .int xa), (5, .int xc)] dX6_isRowClean_150 rfl rfl (by decide) rfl ?_
                        refine E_goto 9 dX6_isRowClean_153 (by decide) ?_
                        refine E_sub [1, 2, 3, 0] rfl ?_
                        exact ih9 (xb + 1) (b + 1) (by omega) ((tI_add hxb (show (1 : Int32).toInt = 1 from rfl) (by omega)).trans (by omega)) (by omega) (lt_s h2 ⟨hgp, fun c hc => by first | exact h3 c (by omega) | exact fun q => by omega⟩)
                      · skip
                        refine E_iload_n 2 dX6_isRowClean_108 rfl rfl ?_
                        refine E_iload_n 3 dX6_isRowClean_109 rfl rfl ?_
                        refine Z_ge (a : Int) (b : Int) hxa hxb 150 dX6_isRowClean_110 (by decide) (fun c_110 => ?_) (fun c_110 => ?_)
                        · skip
                          refine E_iinc 3 (xb + 1) [(3, .int (xb + 1)), (0, .ref 61), (1, .int x), (2, .int xa), (5, .int xc)] dX6_isRowClean_150 rfl rfl (by decide) rfl ?_
                          refine E_goto 9 dX6_isRowClean_153 (by decide) ?_
                          refine E_sub [1, 2, 3, 0] rfl ?_
                          exact ih9 (xb + 1) (b + 1) (by omega) ((tI_add hxb (show (1 : Int32).toInt = 1 from rfl) (by omega)).trans (by omega)) (by omega) (lt_s h2 ⟨hgp, fun c hc => by first | exact h3 c (by omega) | exact fun q => by omega⟩)
                        · skip
                          refine E_iload 4 dX6_isRowClean_113 rfl ?_
                          refine E_iload_n 2 dX6_isRowClean_115 rfl rfl ?_
                          refine Z_eq (c : Int) (a : Int) hxc hxa 144 dX6_isRowClean_116 (by decide) (fun c_116 => ?_) (fun c_116 => ?_)
                          · skip
                            refine E_iinc 4 (xc + 1) [(5, .int (xc + 1)), (0, .ref 61), (1, .int x), (2, .int xa), (3, .int xb)] dX6_isRowClean_144 rfl rfl (by decide) rfl ?_
                            refine E_goto 102 dX6_isRowClean_147 (by decide) ?_
                            refine E_sub [1, 2, 3, 4, 0] rfl ?_
                            exact ih102 (xc + 1) (c + 1) (by omega) ((tI_add hxc (show (1 : Int32).toInt = 1 from rfl) (by omega)).trans (by omega)) (by omega) hgp (lt_s h3 (by first | exact fun _ _ _ => hF_y hv_132 c_139 | exact fun _ q _ => absurd (by omega) q | exact fun _ _ q => absurd (by omega) q))
                          · skip
                            refine E_iload 4 dX6_isRowClean_119 rfl ?_
                            refine E_iload_n 3 dX6_isRowClean_121 rfl rfl ?_
                            refine Z_eq (c : Int) (b : Int) hxc hxb 144 dX6_isRowClean_122 (by decide) (fun c_122 => ?_) (fun c_122 => ?_)
                            · skip
                              refine E_iinc 4 (xc + 1) [(5, .int (xc + 1)), (0, .ref 61), (1, .int x), (2, .int xa), (3, .int xb)] dX6_isRowClean_144 rfl rfl (by decide) rfl ?_
                              refine E_goto 102 dX6_isRowClean_147 (by decide) ?_
                              refine E_sub [1, 2, 3, 4, 0] rfl ?_
                              exact ih102 (xc + 1) (c + 1) (by omega) ((tI_add hxc (show (1 : Int32).toInt = 1 from rfl) (by omega)).trans (by omega)) (by omega) hgp (lt_s h3 (by first | exact fun _ _ _ => hF_y hv_132 c_139 | exact fun _ q _ => absurd (by omega) q | exact fun _ _ q => absurd (by omega) q))
                            · skip
                              refine E_aload_n 0 dX6_isRowClean_125 rfl rfl ?_
                              refine E_aload_n 0 dX6_isRowClean_126 rfl rfl ?_
                              refine E_iconst 1 (by decide) dX6_isRowClean_127 ?_
                              refine E_iload_n 2 dX6_isRowClean_128 rfl rfl ?_
                              refine E_iload_n 3 dX6_isRowClean_129 rfl rfl ?_
                              refine E_iload 4 dX6_isRowClean_130 rfl ?_
                              refine E_callV (c_X6_falls l hfl mi ml K L3 L5 rc rl N hset hrow hN 1 xa xb xc 1 a b c ((show (1 : Int32).toInt = 1 from rfl).trans (by omega)) (hxa.trans (by omega)) (hxb.trans (by omega)) (hxc.trans (by omega)) (by omega) (by omega) (by omega) (by omega)) cw_X6_92 (As := [.int 1, .int xa, .int xb, .int xc]) (st := [.ref 61]) wi_yX6_falls we_yX6_falls (ci := 6) (q := (RX6, TX6, 23)) rfl rfl (wl_atO tw_61) rfl ⟨Nat.le_of_ble_eq_true rfl, Nat.le_of_ble_eq_true rfl, Nat.le_of_ble_eq_true rfl, Nat.le_of_ble_eq_true rfl⟩ (Nat.le_of_ble_eq_true rfl) dX6_isRowClean_132 (fun _ _ h => h) rfl (kI (fun r_132 mi_132 ml_132 h_132 => ?_))
                              obtain ⟨rfl, rfl, hv_132⟩ := h_132
                              refine E_iload_n 1 dX6_isRowClean_135 rfl rfl ?_
                              refine E_callV (c_X6_hitsRow l hfl mi ml K L3 L5 rc rl N hset hrow hN g sp hg bg hsp bsp r_132 x r_132.toInt rfl (fl_rng hv_132) hx) cw_X6_129 (As := [.int r_132, .int x]) (st := []) wi_yX6_hitsRow we_yX6_hitsRow (ci := 6) (q := (RX6, TX6, 23)) rfl rfl (wl_atO tw_61) rfl ⟨Nat.le_of_ble_eq_true rfl, Nat.le_of_ble_eq_true rfl, Nat.le_of_ble_eq_true rfl, Nat.le_of_ble_eq_true rfl⟩ (Nat.le_of_ble_eq_true rfl) dX6_isRowClean_136 (fun _ _ h => h) rfl (kE ?_)
                              refine B_eq 144 dX6_isRowClean_139 (by decide) (fun c_139 => ?_) (fun c_139 => ?_)
                              · skip
                                refine E_iinc 4 (xc + 1) [(5, .int (xc + 1)), (0, .ref 61), (1, .int x), (2, .int xa), (3, .int xb)] dX6_isRowClean_144 rfl rfl (by decide) rfl ?_
                                refine E_goto 102 dX6_isRowClean_147 (by decide) ?_
                                refine E_sub [1, 2, 3, 4, 0] rfl ?_
                                exact ih102 (xc + 1) (c + 1) (by omega) ((tI_add hxc (show (1 : Int32).toInt = 1 from rfl) (by omega)).trans (by omega)) (by omega) hgp (lt_s h3 (by first | exact fun _ _ _ => hF_y hv_132 c_139 | exact fun _ q _ => absurd (by omega) q | exact fun _ _ q => absurd (by omega) q))
                              · skip
                                refine E_iconst 0 (by decide) dX6_isRowClean_142 ?_
                                refine E_zret rfl rfl (Nat.le_of_ble_eq_true rfl) (Nat.le_of_ble_eq_true rfl) dX6_isRowClean_143 ?_
                                exact okP (b0 (fun q => hF_n hv_132 c_139 ((q a (by omega) b (by omega)).2 c (by omega) (by omega) (by omega) (by omega))))
                  refine E_sub [2, 3, 4, 5, 0] rfl ?_
                  exact J102 _ 0 0 (Nat.lt_succ_self _) (show (0 : Int32).toInt = 0 from rfl) (Nat.zero_le _) (by first | exact fun q => absurd (by omega) q | exact fun q => ⟨c_55, hF_y hv_71 c_78, hF_y hv_87 c_94⟩) (fun k h => absurd h (Nat.not_lt_zero k))
                · skip
                  refine E_aload_n 1 dX6_isRowClean_65 rfl rfl ?_
                  refine E_aload_n 1 dX6_isRowClean_66 rfl rfl ?_
                  refine E_iconst 0 (by decide) dX6_isRowClean_67 ?_
                  refine E_iload_n 3 dX6_isRowClean_68 rfl rfl ?_
                  refine E_iload_n 4 dX6_isRowClean_69 rfl rfl ?_
                  refine E_iconst 0 (by decide) dX6_isRowClean_70 ?_
                  refine E_callV (c_X6_falls l hfl mi ml K L3 L5 rc rl N hset hrow hN 0 xa xb 0 0 a b 0 ((show (0 : Int32).toInt = 0 from rfl).trans (by omega)) (hxa.trans (by omega)) (hxb.trans (by omega)) ((show (0 : Int32).toInt = 0 from rfl).trans (by omega)) (by omega) (by omega) (by omega) (by omega)) cw_X6_92 (As := [.int 0, .int xa, .int xb, .int 0]) (st := [.ref 61]) wi_yX6_falls we_yX6_falls (ci := 6) (q := (RX6, TX6, 23)) rfl rfl (wl_atO tw_61) rfl ⟨Nat.le_of_ble_eq_true rfl, Nat.le_of_ble_eq_true rfl, Nat.le_of_ble_eq_true rfl, Nat.le_of_ble_eq_true rfl⟩ (Nat.le_of_ble_eq_true rfl) dX6_isRowClean_71 (fun _ _ h => h) rfl (kI (fun r_71 mi_71 ml_71 h_71 => ?_))
                  obtain ⟨rfl, rfl, hv_71⟩ := h_71
                  refine E_iload_n 2 dX6_isRowClean_74 rfl rfl ?_
                  refine E_callV (c_X6_hitsRow l hfl mi ml K L3 L5 rc rl N hset hrow hN g sp hg bg hsp bsp r_71 x r_71.toInt rfl (fl_rng hv_71) hx) cw_X6_129 (As := [.int r_71, .int x]) (st := []) wi_yX6_hitsRow we_yX6_hitsRow (ci := 6) (q := (RX6, TX6, 23)) rfl rfl (wl_atO tw_61) rfl ⟨Nat.le_of_ble_eq_true rfl, Nat.le_of_ble_eq_true rfl, Nat.le_of_ble_eq_true rfl, Nat.le_of_ble_eq_true rfl⟩ (Nat.le_of_ble_eq_true rfl) dX6_isRowClean_75 (fun _ _ h => h) rfl (kE ?_)
                  refine B_ne 97 dX6_isRowClean_78 (by decide) (fun c_78 => ?_) (fun c_78 => ?_)
                  · skip
                    refine E_iconst 0 (by decide) dX6_isRowClean_97 ?_
                    refine E_zret rfl rfl (Nat.le_of_ble_eq_true rfl) (Nat.le_of_ble_eq_true rfl) dX6_isRowClean_98 ?_
                    exact okP (b0 (fun q => by first | exact hF_n hv_71 c_78 ((q a (by omega) b (by omega)).1 (by omega)).2.1 | exact hF_n hv_87 c_94 ((q a (by omega) b (by omega)).1 (by omega)).2.2))
                  · skip
                    refine E_aload_n 1 dX6_isRowClean_81 rfl rfl ?_
                    refine E_aload_n 1 dX6_isRowClean_82 rfl rfl ?_
                    refine E_iconst 2 (by decide) dX6_isRowClean_83 ?_
                    refine E_iload_n 3 dX6_isRowClean_84 rfl rfl ?_
                    refine E_iload_n 4 dX6_isRowClean_85 rfl rfl ?_
                    refine E_iconst 0 (by decide) dX6_isRowClean_86 ?_
                    refine E_callV (c_X6_falls l hfl mi ml K L3 L5 rc rl N hset hrow hN 2 xa xb 0 2 a b 0 ((show (2 : Int32).toInt = 2 from rfl).trans (by omega)) (hxa.trans (by omega)) (hxb.trans (by omega)) ((show (0 : Int32).toInt = 0 from rfl).trans (by omega)) (by omega) (by omega) (by omega) (by omega)) cw_X6_92 (As := [.int 2, .int xa, .int xb, .int 0]) (st := [.ref 61]) wi_yX6_falls we_yX6_falls (ci := 6) (q := (RX6, TX6, 23)) rfl rfl (wl_atO tw_61) rfl ⟨Nat.le_of_ble_eq_true rfl, Nat.le_of_ble_eq_true rfl, Nat.le_of_ble_eq_true rfl, Nat.le_of_ble_eq_true rfl⟩ (Nat.le_of_ble_eq_true rfl) dX6_isRowClean_87 (fun _ _ h => h) rfl (kI (fun r_87 mi_87 ml_87 h_87 => ?_))
                    obtain ⟨rfl, rfl, hv_87⟩ := h_87
                    refine E_iload_n 2 dX6_isRowClean_90 rfl rfl ?_
                    refine E_callV (c_X6_hitsRow l hfl mi ml K L3 L5 rc rl N hset hrow hN g sp hg bg hsp bsp r_87 x r_87.toInt rfl (fl_rng hv_87) hx) cw_X6_129 (As := [.int r_87, .int x]) (st := []) wi_yX6_hitsRow we_yX6_hitsRow (ci := 6) (q := (RX6, TX6, 23)) rfl rfl (wl_atO tw_61) rfl ⟨Nat.le_of_ble_eq_true rfl, Nat.le_of_ble_eq_true rfl, Nat.le_of_ble_eq_true rfl, Nat.le_of_ble_eq_true rfl⟩ (Nat.le_of_ble_eq_true rfl) dX6_isRowClean_91 (fun _ _ h => h) rfl (kE ?_)
                    refine B_eq 99 dX6_isRowClean_94 (by decide) (fun c_94 => ?_) (fun c_94 => ?_)
                    · skip
                      refine E_iconst 0 (by decide) dX6_isRowClean_99 ?_
                      refine E_istore [(5, .int 0), (4, .int ((mi 65 a) - (mi 65 b))), (0, .ref 61), (1, .int x), (2, .int xa), (3, .int xb)] dX6_isRowClean_100 (by decide) rfl ?_
                      have J102 : ∀ (Nm : Nat) (xc : Int32) (c : Nat), N - c < Nm → xc.toInt = (c : Int) → c ≤ N → gP (K, L3, L5, rc, rl) g sp N a b → (∀ c1, c1 < c → gT (K, L3, L5, rc, rl) g N a b c1) → E l RX6 cX6_isRowClean 6 (some .boolean) false [] (rmE 3 0 0) (wl mi ml) (TgM (wl mi ml) 0 0 (QP (some (.int (bI (ClR (K, L3, L5, rc, rl) g sp N)))) (wl mi ml)) noX) 0 0 102 [(0, .ref 61), (1, .int x), (2, .int xa), (3, .int xb), (5, .int xc)] [] (wl mi ml) := by
                        intro Nm
                        induction Nm with
                        | zero => intros; omega
                        | succ Nm ih102 =>
                          intro xc c hN102 hxc hc hgp h3
                          refine E_iload 4 dX6_isRowClean_102 rfl ?_
                          refine E_iload_n 1 dX6_isRowClean_104 rfl rfl ?_
                          refine Z_ge (c : Int) (N : Int) hxc hx 150 dX6_isRowClean_105 (by decide) (fun c_105 => ?_) (fun c_105 => ?_)
                          · skip
                            refine E_iinc 3 (xb + 1) [(3, .int (xb + 1)), (0, .ref 61), (1, .int x), (2, .int xa), (5, .int xc)] dX6_isRowClean_150 rfl rfl (by decide) rfl ?_
                            refine E_goto 9 dX6_isRowClean_153 (by decide) ?_
                            refine E_sub [1, 2, 3, 0] rfl ?_
                            exact ih9 (xb + 1) (b + 1) (by omega) ((tI_add hxb (show (1 : Int32).toInt = 1 from rfl) (by omega)).trans (by omega)) (by omega) (lt_s h2 ⟨hgp, fun c hc => by first | exact h3 c (by omega) | exact fun q => by omega⟩)
                          · skip
                            refine E_iload_n 2 dX6_isRowClean_108 rfl rfl ?_
                            refine E_iload_n 3 dX6_isRowClean_109 rfl rfl ?_
                            refine Z_ge (a : Int) (b : Int) hxa hxb 150 dX6_isRowClean_110 (by decide) (fun c_110 => ?_) (fun c_110 => ?_)
                            · skip
                              refine E_iinc 3 (xb + 1) [(3, .int (xb + 1)), (0, .ref 61), (1, .int x), (2, .int xa), (5, .int xc)] dX6_isRowClean_150 rfl rfl (by decide) rfl ?_
                              refine E_goto 9 dX6_isRowClean_153 (by decide) ?_
                              refine E_sub [1, 2, 3, 0] rfl ?_
                              exact ih9 (xb + 1) (b + 1) (by omega) ((tI_add hxb (show (1 : Int32).toInt = 1 from rfl) (by omega)).trans (by omega)) (by omega) (lt_s h2 ⟨hgp, fun c hc => by first | exact h3 c (by omega) | exact fun q => by omega⟩)
                            · skip
                              refine E_iload 4 dX6_isRowClean_113 rfl ?_
                              refine E_iload_n 2 dX6_isRowClean_115 rfl rfl ?_
                              refine Z_eq (c : Int) (a : Int) hxc hxa 144 dX6_isRowClean_116 (by decide) (fun c_116 => ?_) (fun c_116 => ?_)
                              · skip
                                refine E_iinc 4 (xc + 1) [(5, .int (xc + 1)), (0, .ref 61), (1, .int x), (2, .int xa), (3, .int xb)] dX6_isRowClean_144 rfl rfl (by decide) rfl ?_
                                refine E_goto 102 dX6_isRowClean_147 (by decide) ?_
                                refine E_sub [1, 2, 3, 4, 0] rfl ?_
                                exact ih102 (xc + 1) (c + 1) (by omega) ((tI_add hxc (show (1 : Int32).toInt = 1 from rfl) (by omega)).trans (by omega)) (by omega) hgp (lt_s h3 (by first | exact fun _ _ _ => hF_y hv_132 c_139 | exact fun _ q _ => absurd (by omega) q | exact fun _ _ q => absurd (by omega) q))
                              · skip
                                refine E_iload 4 dX6_isRowClean_119 rfl ?_
                                refine E_iload_n 3 dX6_isRowClean_121 rfl rfl ?_
                                refine Z_eq (c : Int) (b : Int) hxc hxb 144 dX6_isRowClean_122 (by decide) (fun c_122 => ?_) (fun c_122 => ?_)
                                · skip
                                  refine E_iinc 4 (xc + 1) [(5, .int (xc + 1)), (0, .ref 61), (1, .int x), (2, .int xa), (3, .int xb)] dX6_isRowClean_144 rfl rfl (by decide) rfl ?_
                                  refine E_goto 102 dX6_isRowClean_147 (by decide) ?_
                                  refine E_sub [1, 2, 3, 4, 0] rfl ?_
                                  exact ih102 (xc + 1) (c + 1) (by omega) ((tI_add hxc (show (1 : Int32).toInt = 1 from rfl) (by omega)).trans (by omega)) (by omega) hgp (lt_s h3 (by first | exact fun _ _ _ => hF_y hv_132 c_139 | exact fun _ q _ => absurd (by omega) q | exact fun _ _ q => absurd (by omega) q))
                                · skip
                                  refine E_aload_n 0 dX6_isRowClean_125 rfl rfl ?_
                                  refine E_aload_n 0 dX6_isRowClean_126 rfl rfl ?_
                                  refine E_iconst 1 (by decide) dX6_isRowClean_127 ?_
                                  refine E_iload_n 2 dX6_isRowClean_128 rfl rfl ?_
                                  refine E_iload_n 3 dX6_isRowClean_129 rfl rfl ?_
                                  refine E_iload 4 dX6_isRowClean_130 rfl ?_
                                  refine E_callV (c_X6_falls l hfl mi ml K L3 L5 rc rl N hset hrow hN 1 xa xb xc 1 a b c ((show (1 : Int32).toInt = 1 from rfl).trans (by omega)) (hxa.trans (by omega)) (hxb.trans (by omega)) (hxc.trans (by omega)) (by omega) (by omega) (by omega) (by omega)) cw_X6_92 (As := [.int 1, .int xa, .int xb, .int xc]) (st := [.ref 61]) wi_yX6_falls we_yX6_falls (ci := 6) (q := (RX6, TX6, 23)) rfl rfl (wl_atO tw_61) rfl ⟨Nat.le_of_ble_eq_true rfl, Nat.le_of_ble_eq_true rfl, Nat.le_of_ble_eq_true rfl, Nat.le_of_ble_eq_true rfl⟩ (Nat.le_of_ble_eq_true rfl) dX6_isRowClean_132 (fun _ _ h => h) rfl (kI (fun r_132 mi_132 ml_132 h_132 => ?_))
                                  obtain ⟨rfl, rfl, hv_132⟩ := h_132
                                  refine E_iload_n 1 dX6_isRowClean_135 rfl rfl ?_
                                  refine E_callV (c_X6_hitsRow l hfl mi ml K L3 L5 rc rl N hset hrow hN g sp hg bg hsp bsp r_132 x r_132.toInt rfl (fl_rng hv_132) hx) cw_X6_129 (As := [.int r_132, .int x]) (st := []) wi_yX6_hitsRow we_yX6_hitsRow (ci := 6) (q := (RX6, TX6, 23)) rfl rfl (wl_atO tw_61) rfl ⟨Nat.le_of_ble_eq_true rfl, Nat.le_of_ble_eq_true rfl, Nat.le_of_ble_eq_true rfl, Nat.le_of_ble_eq_true rfl⟩ (Nat.le_of_ble_eq_true rfl) dX6_isRowClean_136 (fun _ _ h => h) rfl (kE ?_)
                                  refine B_eq 144 dX6_isRowClean_139 (by decide) (fun c_139 => ?_) (fun c_139 => ?_)
                                  · skip
                                    refine E_iinc 4 (xc + 1) [(5, .int (xc + 1)), (0, .ref 61), (1, .int x), (2, .int xa), (3, .int xb)] dX6_isRowClean_144 rfl rfl (by decide) rfl ?_
                                    refine E_goto 102 dX6_isRowClean_147 (by decide) ?_
                                    refine E_sub [1, 2, 3, 4, 0] rfl ?_
                                    exact ih102 (xc + 1) (c + 1) (by omega) ((tI_add hxc (show (1 : Int32).toInt = 1 from rfl) (by omega)).trans (by omega)) (by omega) hgp (lt_s h3 (by first | exact fun _ _ _ => hF_y hv_132 c_139 | exact fun _ q _ => absurd (by omega) q | exact fun _ _ q => absurd (by omega) q))
                                  · skip
                                    refine E_iconst 0 (by decide) dX6_isRowClean_142 ?_
                                    refine E_zret rfl rfl (Nat.le_of_ble_eq_true rfl) (Nat.le_of_ble_eq_true rfl) dX6_isRowClean_143 ?_
                                    exact okP (b0 (fun q => hF_n hv_132 c_139 ((q a (by omega) b (by omega)).2 c (by omega) (by omega) (by omega) (by omega))))
                      refine E_sub [2, 3, 4, 5, 0] rfl ?_
                      exact J102 _ 0 0 (Nat.lt_succ_self _) (show (0 : Int32).toInt = 0 from rfl) (Nat.zero_le _) (by first | exact fun q => absurd (by omega) q | exact fun q => ⟨c_55, hF_y hv_71 c_78, hF_y hv_87 c_94⟩) (fun k h => absurd h (Nat.not_lt_zero k))
                    · skip
                      refine E_iconst 0 (by decide) dX6_isRowClean_97 ?_
                      refine E_zret rfl rfl (Nat.le_of_ble_eq_true rfl) (Nat.le_of_ble_eq_true rfl) dX6_isRowClean_98 ?_
                      exact okP (b0 (fun q => by first | exact hF_n hv_71 c_78 ((q a (by omega) b (by omega)).1 (by omega)).2.1 | exact hF_n hv_87 c_94 ((q a (by omega) b (by omega)).1 (by omega)).2.2))
              · skip
                refine E_iload 0 dX6_isRowClean_34 rfl ?_
                refine E_iconst 1 (by decide) dX6_isRowClean_36 ?_
                refine E_aload_n 1 dX6_isRowClean_37 rfl rfl ?_
                refine gf_X6_7 tw_61 rfl dX6_isRowClean_38 ?_
                refine E_iconst 4 (by decide) dX6_isRowClean_41 ?_
                refine S_iald 4 (mi 62 4) tw_62 rfl (by decide) rfl dX6_isRowClean_42 ?_
                refine E_isub dX6_isRowClean_43 ?_
                refine E_aload_n 1 dX6_isRowClean_44 rfl rfl ?_
                refine gf_X6_7 tw_61 rfl dX6_isRowClean_45 ?_
                refine E_iconst 4 (by decide) dX6_isRowClean_48 ?_
                refine S_iald 4 (mi 62 4) tw_62 rfl (by decide) rfl dX6_isRowClean_49 ?_
                refine E_iconst 1 (by decide) dX6_isRowClean_50 ?_
                refine E_isub dX6_isRowClean_51 ?_
                refine E_callS (c_X6_in l hfl mi ml ((mi 65 a) - (mi 65 b)) (1 - (mi 62 4)) ((mi 62 4) - 1) ((rc a) - (rc b)) (1 - sp) (sp - 1) (tI_sub (show (mi 65 a).toInt = rc a from (hrow a (by omega)).1.1) (show (mi 65 b).toInt = rc b from (hrow b (by omega)).1.1) (by omega)) (tI_sub (show (1 : Int32).toInt = 1 from rfl) hsp (by omega)) (tI_sub hsp (show (1 : Int32).toInt = 1 from rfl) (by omega))) cw_X6_53 (As := [.int ((mi 65 a) - (mi 65 b)), .int (1 - (mi 62 4)), .int ((mi 62 4) - 1)]) (st := []) ws_yX6_in rfl ⟨Nat.le_of_ble_eq_true rfl, Nat.le_of_ble_eq_true rfl, Nat.le_of_ble_eq_true rfl, Nat.le_of_ble_eq_true rfl⟩ (Nat.le_of_ble_eq_true rfl) dX6_isRowClean_52 (fun _ _ h => h) rfl (kE ?_)
                refine B_eq 60 dX6_isRowClean_55 (by decide) (fun c_55 => ?_) (fun c_55 => ?_)
                · skip
                  refine E_iload_n 3 dX6_isRowClean_60 rfl rfl ?_
                  refine E_iload_n 4 dX6_isRowClean_61 rfl rfl ?_
                  refine Z_eq (a : Int) (b : Int) hxa hxb 99 dX6_isRowClean_62 (by decide) (fun c_62 => ?_) (fun c_62 => ?_)
                  · skip
                    refine E_iconst 0 (by decide) dX6_isRowClean_99 ?_
                    refine E_istore [(5, .int 0), (4, .int ((mi 65 a) - (mi 65 b))), (0, .ref 61), (1, .int x), (2, .int xa), (3, .int xb)] dX6_isRowClean_100 (by decide) rfl ?_
                    have J102 : ∀ (Nm : Nat) (xc : Int32) (c : Nat), N - c < Nm → xc.toInt = (c : Int) → c ≤ N → gP (K, L3, L5, rc, rl) g sp N a b → (∀ c1, c1 < c → gT (K, L3, L5, rc, rl) g N a b c1) → E l RX6 cX6_isRowClean 6 (some .boolean) false [] (rmE 3 0 0) (wl mi ml) (TgM (wl mi ml) 0 0 (QP (some (.int (bI (ClR (K, L3, L5, rc, rl) g sp N)))) (wl mi ml)) noX) 0 0 102 [(0, .ref 61), (1, .int x), (2, .int xa), (3, .int xb), (5, .int xc)] [] (wl mi ml) := by
                      intro Nm
                      induction Nm with
                      | zero => intros; omega
                      | succ Nm ih102 =>
                        intro xc c hN102 hxc hc hgp h3
                        refine E_iload 4 dX6_isRowClean_102 rfl ?_
                        refine E_iload_n 1 dX6_isRowClean_104 rfl rfl ?_
                        refine Z_ge (c : Int) (N : Int) hxc hx 150 dX6_isRowClean_105 (by decide) (fun c_105 => ?_) (fun c_105 => ?_)
                        · skip
                          refine E_iinc 3 (xb + 1) [(3, .int (xb + 1)), (0, .ref 61), (1, .int x), (2, .int xa), (5, .int xc)] dX6_isRowClean_150 rfl rfl (by decide) rfl ?_
                          refine E_goto 9 dX6_isRowClean_153 (by decide) ?_
                          refine E_sub [1, 2, 3, 0] rfl ?_
                          exact ih9 (xb + 1) (b + 1) (by omega) ((tI_add hxb (show (1 : Int32).toInt = 1 from rfl) (by omega)).trans (by omega)) (by omega) (lt_s h2 ⟨hgp, fun c hc => by first | exact h3 c (by omega) | exact fun q => by omega⟩)
                        · skip
                          refine E_iload_n 2 dX6_isRowClean_108 rfl rfl ?_
                          refine E_iload_n 3 dX6_isRowClean_109 rfl rfl ?_
                          refine Z_ge (a : Int) (b : Int) hxa hxb 150 dX6_isRowClean_110 (by decide) (fun c_110 => ?_) (fun c_110 => ?_)
                          · skip
                            refine E_iinc 3 (xb + 1) [(3, .int (xb + 1)), (0, .ref 61), (1, .int x), (2, .int xa), (5, .int xc)] dX6_isRowClean_150 rfl rfl (by decide) rfl ?_
                            refine E_goto 9 dX6_isRowClean_153 (by decide) ?_
                            refine E_sub [1, 2, 3, 0] rfl ?_
                            exact ih9 (xb + 1) (b + 1) (by omega) ((tI_add hxb (show (1 : Int32).toInt = 1 from rfl) (by omega)).trans (by omega)) (by omega) (lt_s h2 ⟨hgp, fun c hc => by first | exact h3 c (by omega) | exact fun q => by omega⟩)
                          · skip
                            refine E_iload 4 dX6_isRowClean_113 rfl ?_
                            refine E_iload_n 2 dX6_isRowClean_115 rfl rfl ?_
                            refine Z_eq (c : Int) (a : Int) hxc hxa 144 dX6_isRowClean_116 (by decide) (fun c_116 => ?_) (fun c_116 => ?_)
                            · skip
                              refine E_iinc 4 (xc + 1) [(5, .int (xc + 1)), (0, .ref 61), (1, .int x), (2, .int xa), (3, .int xb)] dX6_isRowClean_144 rfl rfl (by decide) rfl ?_
                              refine E_goto 102 dX6_isRowClean_147 (by decide) ?_
                              refine E_sub [1, 2, 3, 4, 0] rfl ?_
                              exact ih102 (xc + 1) (c + 1) (by omega) ((tI_add hxc (show (1 : Int32).toInt = 1 from rfl) (by omega)).trans (by omega)) (by omega) hgp (lt_s h3 (by first | exact fun _ _ _ => hF_y hv_132 c_139 | exact fun _ q _ => absurd (by omega) q | exact fun _ _ q => absurd (by omega) q))
                            · skip
                              refine E_iload 4 dX6_isRowClean_119 rfl ?_
                              refine E_iload_n 3 dX6_isRowClean_121 rfl rfl ?_
                              refine Z_eq (c : Int) (b : Int) hxc hxb 144 dX6_isRowClean_122 (by decide) (fun c_122 => ?_) (fun c_122 => ?_)
                              · skip
                                refine E_iinc 4 (xc + 1) [(5, .int (xc + 1)), (0, .ref 61), (1, .int x), (2, .int xa), (3, .int xb)] dX6_isRowClean_144 rfl rfl (by decide) rfl ?_
                                refine E_goto 102 dX6_isRowClean_147 (by decide) ?_
                                refine E_sub [1, 2, 3, 4, 0] rfl ?_
                                exact ih102 (xc + 1) (c + 1) (by omega) ((tI_add hxc (show (1 : Int32).toInt = 1 from rfl) (by omega)).trans (by omega)) (by omega) hgp (lt_s h3 (by first | exact fun _ _ _ => hF_y hv_132 c_139 | exact fun _ q _ => absurd (by omega) q | exact fun _ _ q => absurd (by omega) q))
                              · skip
                                refine E_aload_n 0 dX6_isRowClean_125 rfl rfl ?_
                                refine E_aload_n 0 dX6_isRowClean_126 rfl rfl ?_
                                refine E_iconst 1 (by decide) dX6_isRowClean_127 ?_
                                refine E_iload_n 2 dX6_isRowClean_128 rfl rfl ?_
                                refine E_iload_n 3 dX6_isRowClean_129 rfl rfl ?_
                                refine E_iload 4 dX6_isRowClean_130 rfl ?_
                                refine E_callV (c_X6_falls l hfl mi ml K L3 L5 rc rl N hset hrow hN 1 xa xb xc 1 a b c ((show (1 : Int32).toInt = 1 from rfl).trans (by omega)) (hxa.trans (by omega)) (hxb.trans (by omega)) (hxc.trans (by omega)) (by omega) (by omega) (by omega) (by omega)) cw_X6_92 (As := [.int 1, .int xa, .int xb, .int xc]) (st := [.ref 61]) wi_yX6_falls we_yX6_falls (ci := 6) (q := (RX6, TX6, 23)) rfl rfl (wl_atO tw_61) rfl ⟨Nat.le_of_ble_eq_true rfl, Nat.le_of_ble_eq_true rfl, Nat.le_of_ble_eq_true rfl, Nat.le_of_ble_eq_true rfl⟩ (Nat.le_of_ble_eq_true rfl) dX6_isRowClean_132 (fun _ _ h => h) rfl (kI (fun r_132 mi_132 ml_132 h_132 => ?_))
                                obtain ⟨rfl, rfl, hv_132⟩ := h_132
                                refine E_iload_n 1 dX6_isRowClean_135 rfl rfl ?_
                                refine E_callV (c_X6_hitsRow l hfl mi ml K L3 L5 rc rl N hset hrow hN g sp hg bg hsp bsp r_132 x r_132.toInt rfl (fl_rng hv_132) hx) cw_X6_129 (As := [.int r_132, .int x]) (st := []) wi_yX6_hitsRow we_yX6_hitsRow (ci := 6) (q := (RX6, TX6, 23)) rfl rfl (wl_atO tw_61) rfl ⟨Nat.le_of_ble_eq_true rfl, Nat.le_of_ble_eq_true rfl, Nat.le_of_ble_eq_true rfl, Nat.le_of_ble_eq_true rfl⟩ (Nat.le_of_ble_eq_true rfl) dX6_isRowClean_136 (fun _ _ h => h) rfl (kE ?_)
                                refine B_eq 144 dX6_isRowClean_139 (by decide) (fun c_139 => ?_) (fun c_139 => ?_)
                                · skip
                                  refine E_iinc 4 (xc + 1) [(5, .int (xc + 1)), (0, .ref 61), (1, .int x), (2, .int xa), (3, .int xb)] dX6_isRowClean_144 rfl rfl (by decide) rfl ?_
                                  refine E_goto 102 dX6_isRowClean_147 (by decide) ?_
                                  refine E_sub [1, 2, 3, 4, 0] rfl ?_
                                  exact ih102 (xc + 1) (c + 1) (by omega) ((tI_add hxc (show (1 : Int32).toInt = 1 from rfl) (by omega)).trans (by omega)) (by omega) hgp (lt_s h3 (by first | exact fun _ _ _ => hF_y hv_132 c_139 | exact fun _ q _ => absurd (by omega) q | exact fun _ _ q => absurd (by omega) q))
                                · skip
                                  refine E_iconst 0 (by decide) dX6_isRowClean_142 ?_
                                  refine E_zret rfl rfl (Nat.le_of_ble_eq_true rfl) (Nat.le_of_ble_eq_true rfl) dX6_isRowClean_143 ?_
                                  exact okP (b0 (fun q => hF_n hv_132 c_139 ((q a (by omega) b (by omega)).2 c (by omega) (by omega) (by omega) (by omega))))
                    refine E_sub [2, 3, 4, 5, 0] rfl ?_
                    exact J102 _ 0 0 (Nat.lt_succ_self _) (show (0 : Int32).toInt = 0 from rfl) (Nat.zero_le _) (by first | exact fun q => absurd (by omega) q | exact fun q => ⟨c_55, hF_y hv_71 c_78, hF_y hv_87 c_94⟩) (fun k h => absurd h (Nat.not_lt_zero k))
                  · skip
                    refine E_aload_n 1 dX6_isRowClean_65 rfl rfl ?_
                    refine E_aload_n 1 dX6_isRowClean_66 rfl rfl ?_
                    refine E_iconst 0 (by decide) dX6_isRowClean_67 ?_
                    refine E_iload_n 3 dX6_isRowClean_68 rfl rfl ?_
                    refine E_iload_n 4 dX6_isRowClean_69 rfl rfl ?_
                    refine E_iconst 0 (by decide) dX6_isRowClean_70 ?_
                    refine E_callV (c_X6_falls l hfl mi ml K L3 L5 rc rl N hset hrow hN 0 xa xb 0 0 a b 0 ((show (0 : Int32).toInt = 0 from rfl).trans (by omega)) (hxa.trans (by omega)) (hxb.trans (by omega)) ((show (0 : Int32).toInt = 0 from rfl).trans (by omega)) (by omega) (by omega) (by omega) (by omega)) cw_X6_92 (As := [.int 0, .int xa, .int xb, .int 0]) (st := [.ref 61]) wi_yX6_falls we_yX6_falls (ci := 6) (q := (RX6, TX6, 23)) rfl rfl (wl_atO tw_61) rfl ⟨Nat.le_of_ble_eq_true rfl, Nat.le_of_ble_eq_true rfl, Nat.le_of_ble_eq_true rfl, Nat.le_of_ble_eq_true rfl⟩ (Nat.le_of_ble_eq_true rfl) dX6_isRowClean_71 (fun _ _ h => h) rfl (kI (fun r_71 mi_71 ml_71 h_71 => ?_))
                    obtain ⟨rfl, rfl, hv_71⟩ := h_71
                    refine E_iload_n 2 dX6_isRowClean_74 rfl rfl ?_
                    refine E_callV (c_X6_hitsRow l hfl mi ml K L3 L5 rc rl N hset hrow hN g sp hg bg hsp bsp r_71 x r_71.toInt rfl (fl_rng hv_71) hx) cw_X6_129 (As := [.int r_71, .int x]) (st := []) wi_yX6_hitsRow we_yX6_hitsRow (ci := 6) (q := (RX6, TX6, 23)) rfl rfl (wl_atO tw_61) rfl ⟨Nat.le_of_ble_eq_true rfl, Nat.le_of_ble_eq_true rfl, Nat.le_of_ble_eq_true rfl, Nat.le_of_ble_eq_true rfl⟩ (Nat.le_of_ble_eq_true rfl) dX6_isRowClean_75 (fun _ _ h => h) rfl (kE ?_)
                    refine B_ne 97 dX6_isRowClean_78 (by decide) (fun c_78 => ?_) (fun c_78 => ?_)
                    · skip
                      refine E_iconst 0 (by decide) dX6_isRowClean_97 ?_
                      refine E_zret rfl rfl (Nat.le_of_ble_eq_true rfl) (Nat.le_of_ble_eq_true rfl) dX6_isRowClean_98 ?_
                      exact okP (b0 (fun q => by first | exact hF_n hv_71 c_78 ((q a (by omega) b (by omega)).1 (by omega)).2.1 | exact hF_n hv_87 c_94 ((q a (by omega) b (by omega)).1 (by omega)).2.2))
                    · skip
                      refine E_aload_n 1 dX6_isRowClean_81 rfl rfl ?_
                      refine E_aload_n 1 dX6_isRowClean_82 rfl rfl ?_
                      refine E_iconst 2 (by decide) dX6_isRowClean_83 ?_
                      refine E_iload_n 3 dX6_isRowClean_84 rfl rfl ?_
                      refine E_iload_n 4 dX6_isRowClean_85 rfl rfl ?_
                      refine E_iconst 0 (by decide) dX6_isRowClean_86 ?_
                      refine E_callV (c_X6_falls l hfl mi ml K L3 L5 rc rl N hset hrow hN 2 xa xb 0 2 a b 0 ((show (2 : Int32).toInt = 2 from rfl).trans (by omega)) (hxa.trans (by omega)) (hxb.trans (by omega)) ((show (0 : Int32).toInt = 0 from rfl).trans (by omega)) (by omega) (by omega) (by omega) (by omega)) cw_X6_92 (As := [.int 2, .int xa, .int xb, .int 0]) (st := [.ref 61]) wi_yX6_falls we_yX6_falls (ci := 6) (q := (RX6, TX6, 23)) rfl rfl (wl_atO tw_61) rfl ⟨Nat.le_of_ble_eq_true rfl, Nat.le_of_ble_eq_true rfl, Nat.le_of_ble_eq_true rfl, Nat.le_of_ble_eq_true rfl⟩ (Nat.le_of_ble_eq_true rfl) dX6_isRowClean_87 (fun _ _ h => h) rfl (kI (fun r_87 mi_87 ml_87 h_87 => ?_))
                      obtain ⟨rfl, rfl, hv_87⟩ := h_87
                      refine E_iload_n 2 dX6_isRowClean_90 rfl rfl ?_
                      refine E_callV (c_X6_hitsRow l hfl mi ml K L3 L5 rc rl N hset hrow hN g sp hg bg hsp bsp r_87 x r_87.toInt rfl (fl_rng hv_87) hx) cw_X6_129 (As := [.int r_87, .int x]) (st := []) wi_yX6_hitsRow we_yX6_hitsRow (ci := 6) (q := (RX6, TX6, 23)) rfl rfl (wl_atO tw_61) rfl ⟨Nat.le_of_ble_eq_true rfl, Nat.le_of_ble_eq_true rfl, Nat.le_of_ble_eq_true rfl, Nat.le_of_ble_eq_true rfl⟩ (Nat.le_of_ble_eq_true rfl) dX6_isRowClean_91 (fun _ _ h => h) rfl (kE ?_)
                      refine B_eq 99 dX6_isRowClean_94 (by decide) (fun c_94 => ?_) (fun c_94 => ?_)
                      · skip
                        refine E_iconst 0 (by decide) dX6_isRowClean_99 ?_
                        refine E_istore [(5, .int 0), (4, .int ((mi 65 a) - (mi 65 b))), (0, .ref 61), (1, .int x), (2, .int xa), (3, .int xb)] dX6_isRowClean_100 (by decide) rfl ?_
                        have J102 : ∀ (Nm : Nat) (xc : Int32) (c : Nat), N - c < Nm → xc.toInt = (c : Int) → c ≤ N → gP (K, L3, L5, rc, rl) g sp N a b → (∀ c1, c1 < c → gT (K, L3, L5, rc, rl) g N a b c1) → E l RX6 cX6_isRowClean 6 (some .boolean) false [] (rmE 3 0 0) (wl mi ml) (TgM (wl mi ml) 0 0 (QP (some (.int (bI (ClR (K, L3, L5, rc, rl) g sp N)))) (wl mi ml)) noX) 0 0 102 [(0, .ref 61), (1, .int x), (2, .int xa), (3, .int xb), (5, .int xc)] [] (wl mi ml) := by
                          intro Nm
                          induction Nm with
                          | zero => intros; omega
                          | succ Nm ih102 =>
                            intro xc c hN102 hxc hc hgp h3
                            refine E_iload 4 dX6_isRowClean_102 rfl ?_
                            refine E_iload_n 1 dX6_isRowClean_104 rfl rfl ?_
                            refine Z_ge (c : Int) (N : Int) hxc hx 150 dX6_isRowClean_105 (by decide) (fun c_105 => ?_) (fun c_105 => ?_)
                            · skip
                              refine E_iinc 3 (xb + 1) [(3, .int (xb + 1)), (0, .ref 61), (1, .int x), (2, .int xa), (5, .int xc)] dX6_isRowClean_150 rfl rfl (by decide) rfl ?_
                              refine E_goto 9 dX6_isRowClean_153 (by decide) ?_
                              refine E_sub [1, 2, 3, 0] rfl ?_
                              exact ih9 (xb + 1) (b + 1) (by omega) ((tI_add hxb (show (1 : Int32).toInt = 1 from rfl) (by omega)).trans (by omega)) (by omega) (lt_s h2 ⟨hgp, fun c hc => by first | exact h3 c (by omega) | exact fun q => by omega⟩)
                            · skip
                              refine E_iload_n 2 dX6_isRowClean_108 rfl rfl ?_
                              refine E_iload_n 3 dX6_isRowClean_109 rfl rfl ?_
                              refine Z_ge (a : Int) (b : Int) hxa hxb 150 dX6_isRowClean_110 (by decide) (fun c_110 => ?_) (fun c_110 => ?_)
                              · skip
                                refine E_iinc 3 (xb + 1) [(3, .int (xb + 1)), (0, .ref 61), (1, .int x), (2, .int xa), (5, .int xc)] dX6_isRowClean_150 rfl rfl (by decide) rfl ?_
                                refine E_goto 9 dX6_isRowClean_153 (by decide) ?_
                                refine E_sub [1, 2, 3, 0] rfl ?_
                                exact ih9 (xb + 1) (b + 1) (by omega) ((tI_add hxb (show (1 : Int32).toInt = 1 from rfl) (by omega)).trans (by omega)) (by omega) (lt_s h2 ⟨hgp, fun c hc => by first | exact h3 c (by omega) | exact fun q => by omega⟩)
                              · skip
                                refine E_iload 4 dX6_isRowClean_113 rfl ?_
                                refine E_iload_n 2 dX6_isRowClean_115 rfl rfl ?_
                                refine Z_eq (c : Int) (a : Int) hxc hxa 144 dX6_isRowClean_116 (by decide) (fun c_116 => ?_) (fun c_116 => ?_)
                                · skip
                                  refine E_iinc 4 (xc + 1) [(5, .int (xc + 1)), (0, .ref 61), (1, .int x), (2, .int xa), (3, .int xb)] dX6_isRowClean_144 rfl rfl (by decide) rfl ?_
                                  refine E_goto 102 dX6_isRowClean_147 (by decide) ?_
                                  refine E_sub [1, 2, 3, 4, 0] rfl ?_
                                  exact ih102 (xc + 1) (c + 1) (by omega) ((tI_add hxc (show (1 : Int32).toInt = 1 from rfl) (by omega)).trans (by omega)) (by omega) hgp (lt_s h3 (by first | exact fun _ _ _ => hF_y hv_132 c_139 | exact fun _ q _ => absurd (by omega) q | exact fun _ _ q => absurd (by omega) q))
                                · skip
                                  refine E_iload 4 dX6_isRowClean_119 rfl ?_
                                  refine E_iload_n 3 dX6_isRowClean_121 rfl rfl ?_
                                  refine Z_eq (c : Int) (b : Int) hxc hxb 144 dX6_isRowClean_122 (by decide) (fun c_122 => ?_) (fun c_122 => ?_)
                                  · skip
                                    refine E_iinc 4 (xc + 1) [(5, .int (xc + 1)), (0, .ref 61), (1, .int x), (2, .int xa), (3, .int xb)] dX6_isRowClean_144 rfl rfl (by decide) rfl ?_
                                    refine E_goto 102 dX6_isRowClean_147 (by decide) ?_
                                    refine E_sub [1, 2, 3, 4, 0] rfl ?_
                                    exact ih102 (xc + 1) (c + 1) (by omega) ((tI_add hxc (show (1 : Int32).toInt = 1 from rfl) (by omega)).trans (by omega)) (by omega) hgp (lt_s h3 (by first | exact fun _ _ _ => hF_y hv_132 c_139 | exact fun _ q _ => absurd (by omega) q | exact fun _ _ q => absurd (by omega) q))
                                  · skip
                                    refine E_aload_n 0 dX6_isRowClean_125 rfl rfl ?_
                                    refine E_aload_n 0 dX6_isRowClean_126 rfl rfl ?_
                                    refine E_iconst 1 (by decide) dX6_isRowClean_127 ?_
                                    refine E_iload_n 2 dX6_isRowClean_128 rfl rfl ?_
                                    refine E_iload_n 3 dX6_isRowClean_129 rfl rfl ?_
                                    refine E_iload 4 dX6_isRowClean_130 rfl ?_
                                    refine E_callV (c_X6_falls l hfl mi ml K L3 L5 rc rl N hset hrow hN 1 xa xb xc 1 a b c ((show (1 : Int32).toInt = 1 from rfl).trans (by omega)) (hxa.trans (by omega)) (hxb.trans (by omega)) (hxc.trans (by omega)) (by omega) (by omega) (by omega) (by omega)) cw_X6_92 (As := [.int 1, .int xa, .int xb, .int xc]) (st := [.ref 61]) wi_yX6_falls we_yX6_falls (ci := 6) (q := (RX6, TX6, 23)) rfl rfl (wl_atO tw_61) rfl ⟨Nat.le_of_ble_eq_true rfl, Nat.le_of_ble_eq_true rfl, Nat.le_of_ble_eq_true rfl, Nat.le_of_ble_eq_true rfl⟩ (Nat.le_of_ble_eq_true rfl) dX6_isRowClean_132 (fun _ _ h => h) rfl (kI (fun r_132 mi_132 ml_132 h_132 => ?_))
                                    obtain ⟨rfl, rfl, hv_132⟩ := h_132
                                    refine E_iload_n 1 dX6_isRowClean_135 rfl rfl ?_
                                    refine E_callV (c_X6_hitsRow l hfl mi ml K L3 L5 rc rl N hset hrow hN g sp hg bg hsp bsp r_132 x r_132.toInt rfl (fl_rng hv_132) hx) cw_X6_129 (As := [.int r_132, .int x]) (st := []) wi_yX6_hitsRow we_yX6_hitsRow (ci := 6) (q := (RX6, TX6, 23)) rfl rfl (wl_atO tw_61) rfl ⟨Nat.le_of_ble_eq_true rfl, Nat.le_of_ble_eq_true rfl, Nat.le_of_ble_eq_true rfl, Nat.le_of_ble_eq_true rfl⟩ (Nat.le_of_ble_eq_true rfl) dX6_isRowClean_136 (fun _ _ h => h) rfl (kE ?_)
                                    refine B_eq 144 dX6_isRowClean_139 (by decide) (fun c_139 => ?_) (fun c_139 => ?_)
                                    · skip
                                      refine E_iinc 4 (xc + 1) [(5, .int (xc + 1)), (0, .ref 61), (1, .int x), (2, .int xa), (3, .int xb)] dX6_isRowClean_144 rfl rfl (by decide) rfl ?_
                                      refine E_goto 102 dX6_isRowClean_147 (by decide) ?_
                                      refine E_sub [1, 2, 3, 4, 0] rfl ?_
                                      exact ih102 (xc + 1) (c + 1) (by omega) ((tI_add hxc (show (1 : Int32).toInt = 1 from rfl) (by omega)).trans (by omega)) (by omega) hgp (lt_s h3 (by first | exact fun _ _ _ => hF_y hv_132 c_139 | exact fun _ q _ => absurd (by omega) q | exact fun _ _ q => absurd (by omega) q))
                                    · skip
                                      refine E_iconst 0 (by decide) dX6_isRowClean_142 ?_
                                      refine E_zret rfl rfl (Nat.le_of_ble_eq_true rfl) (Nat.le_of_ble_eq_true rfl) dX6_isRowClean_143 ?_
                                      exact okP (b0 (fun q => hF_n hv_132 c_139 ((q a (by omega) b (by omega)).2 c (by omega) (by omega) (by omega) (by omega))))
                        refine E_sub [2, 3, 4, 5, 0] rfl ?_
                        exact J102 _ 0 0 (Nat.lt_succ_self _) (show (0 : Int32).toInt = 0 from rfl) (Nat.zero_le _) (by first | exact fun q => absurd (by omega) q | exact fun q => ⟨c_55, hF_y hv_71 c_78, hF_y hv_87 c_94⟩) (fun k h => absurd h (Nat.not_lt_zero k))
                      · skip
                        refine E_iconst 0 (by decide) dX6_isRowClean_97 ?_
                        refine E_zret rfl rfl (Nat.le_of_ble_eq_true rfl) (Nat.le_of_ble_eq_true rfl) dX6_isRowClean_98 ?_
                        exact okP (b0 (fun q => by first | exact hF_n hv_71 c_78 ((q a (by omega) b (by omega)).1 (by omega)).2.1 | exact hF_n hv_87 c_94 ((q a (by omega) b (by omega)).1 (by omega)).2.2))
                · skip
                  refine E_iconst 0 (by decide) dX6_isRowClean_58 ?_
                  refine E_zret rfl rfl (Nat.le_of_ble_eq_true rfl) (Nat.le_of_ble_eq_true rfl) dX6_isRowClean_59 ?_
                  exact okP (b0 (fun q => ((q a (by omega) b (by omega)).1 (by omega)).1 c_55))
        refine E_sub [1, 2, 3, 0] rfl ?_
        exact J9 _ 0 0 (Nat.lt_succ_self _) (show (0 : Int32).toInt = 0 from rfl) (Nat.zero_le _) (fun k h => absurd h (Nat.not_lt_zero k))
  refine E_sub [1, 2, 0] rfl ?_
  exact J2 _ 0 0 (Nat.lt_succ_self _) (show (0 : Int32).toInt = 0 from rfl) (Nat.zero_le _) (fun k h => absurd h (Nat.not_lt_zero k))
end MO9
