section MO2
theorem ex_t {P : Nat → Prop} {i : Nat} (h : ∃ j, j < i ∧ P j) : (1 : Int32) = bI (∃ j, j < i + 1 ∧ P j) := b1 (h.elim fun j h => ⟨j, by omega, h.2⟩)
theorem ex_n {P : Nat → Prop} {i : Nat} (h : P i) : (1 : Int32) = bI (∃ j, j < i + 1 ∧ P j) := b1 ⟨i, by omega, h⟩
theorem ex_f {P : Nat → Prop} {i : Nat} (h : ¬ ∃ j, j < i ∧ P j) (hn : ¬ P i) : (0 : Int32) = bI (∃ j, j < i + 1 ∧ P j) := b0 (fun ⟨j, h1, h2⟩ => by
  rcases Nat.lt_or_ge j i with q | q
  · exact h ⟨j, q, h2⟩
  · have e : j = i := by omega
    rw [e] at h2
    exact hn h2)
theorem all_t {P : Nat → Prop} {i : Nat} (h : ∀ j, j < i → P j) (hn : P i) : (1 : Int32) = bI (∀ j, j < i + 1 → P j) := b1 (lt_s h hn)
theorem all_f {P : Nat → Prop} {i : Nat} (h : ¬ ∀ j, j < i → P j) : (0 : Int32) = bI (∀ j, j < i + 1 → P j) := b0 (fun q => h (fun j hj => q j (by omega)))
theorem all_n {P : Nat → Prop} {i : Nat} (h : ¬ P i) : (0 : Int32) = bI (∀ j, j < i + 1 → P j) := b0 (fun q => h (q i (by omega)))
theorem tI_pow {n : Nat} (h : n ≤ 10) : (nI (2 ^ n - 1)).toInt = ((2 ^ n - 1 : Nat) : Int) := by
  have h1 : 2 ^ n ≤ 2 ^ 10 := Nat.pow_le_pow_right (by omega) h
  exact tI_nI (by omega)
def popc (s : Nat) : Nat := ((List.range 10).filter (fun i => s.testBit i)).length
theorem bits_step : ∀ t, t < 1024 → t ≠ 0 → (nI t &&& (nI t - 1)) = nI (t &&& (t - 1)) ∧ (t &&& (t - 1)) < t ∧ popc (t &&& (t - 1)) + 1 = popc t := by decide +kernel
theorem popc_0 : popc 0 = 0 := by decide
theorem popc_le (s : Nat) : popc s ≤ 10 := by
  have h := List.length_filter_le (fun i => s.testBit i) (List.range 10)
  simpa [popc] using h
set_option maxHeartbeats 400000 in
set_option maxRecDepth 100000 in
theorem c_X6_isSet (l : Launch) (hfl : l.stackTraces = false) (mi : MI) (ml : MJ) (n : Nat) (hn : (mi 62 5).toInt = (n : Int)) (h10 : n ≤ 10) (c : Int32) (C : Int) (hC : c.toInt = C) : Ct l yX6_isSet (.code yX6_isSet cX6_isSet 2 (some .boolean)) 1 0 0 [.ref 61, .int c] (wl mi ml) (QP (some (.int (bI (0 ≤ C ∧ C ≤ ((2 ^ n - 1 : Nat) : Int))))) (wl mi ml)) noX := by
  refine Ct_of (ini := false) pn_X6 hfl (fun h => nomatch h) (Nat.le_of_ble_eq_true rfl) ?_
  show E l RX6 cX6_isSet 2 (some .boolean) false [] (rmE 1 0 0) (wl mi ml) (TgM (wl mi ml) 0 0 (QP (some (.int (bI (0 ≤ C ∧ C ≤ ((2 ^ n - 1 : Nat) : Int))))) (wl mi ml)) noX) 0 0 0 [(0, .ref 61), (1, .int c)] [] (wl mi ml)
  refine E_iload_n 1 dX6_isSet_0 rfl rfl ?_
  refine E_iconst 0 (by decide) dX6_isSet_1 ?_
  refine E_iconst 1 (by decide) dX6_isSet_2 ?_
  refine E_aload_n 0 dX6_isSet_3 rfl rfl ?_
  refine gf_X6_7 tw_61 rfl dX6_isSet_4 ?_
  refine E_iconst 5 (by decide) dX6_isSet_7 ?_
  refine S_iald 5 (mi 62 5) tw_62 rfl (by decide) rfl dX6_isSet_8 ?_
  refine E_ishl dX6_isSet_9 ?_
  refine E_iconst 1 (by decide) dX6_isSet_10 ?_
  refine E_isub dX6_isSet_11 ?_
  rw [show ((1 <<< ((mi 62 5) &&& 31)) - 1) = (nI (2 ^ n - 1)) from pow_nI hn h10]
  refine E_callS (c_X6_in l hfl mi ml c 0 (nI (2 ^ n - 1)) C 0 ((2 ^ n - 1 : Nat) : Int) hC (show (0 : Int32).toInt = 0 from rfl) (tI_pow h10)) cw_X6_53 (As := [.int c, .int 0, .int (nI (2 ^ n - 1))]) (st := []) ws_yX6_in rfl ⟨Nat.le_of_ble_eq_true rfl, Nat.le_of_ble_eq_true rfl, Nat.le_of_ble_eq_true rfl, Nat.le_of_ble_eq_true rfl⟩ (Nat.le_of_ble_eq_true rfl) dX6_isSet_12 (fun _ _ h => h) rfl (kE ?_)
  refine E_zret rfl nbI (Nat.le_of_ble_eq_true rfl) (Nat.le_of_ble_eq_true rfl) dX6_isSet_15 ?_
  exact okP rfl
set_option maxHeartbeats 400000 in
set_option maxRecDepth 100000 in
theorem c_X6_all (l : Launch) (hfl : l.stackTraces = false) (mi : MI) (ml : MJ) (n : Nat) (hn : (mi 62 5).toInt = (n : Int)) (h10 : n ≤ 10) : Ct l yX6_all (.code yX6_all cX6_all 1 (some .int)) 0 0 0 [.ref 61] (wl mi ml) (QP (some (.int (nI (2 ^ n - 1)))) (wl mi ml)) noX := by
  refine Ct_of (ini := false) pn_X6 hfl (fun h => nomatch h) (Nat.le_of_ble_eq_true rfl) ?_
  show E l RX6 cX6_all 1 (some .int) false [] (rmE 0 0 0) (wl mi ml) (TgM (wl mi ml) 0 0 (QP (some (.int (nI (2 ^ n - 1)))) (wl mi ml)) noX) 0 0 0 [(0, .ref 61)] [] (wl mi ml)
  refine E_iconst 1 (by decide) dX6_all_0 ?_
  refine E_aload_n 0 dX6_all_1 rfl rfl ?_
  refine gf_X6_7 tw_61 rfl dX6_all_2 ?_
  refine E_iconst 5 (by decide) dX6_all_5 ?_
  refine S_iald 5 (mi 62 5) tw_62 rfl (by decide) rfl dX6_all_6 ?_
  refine E_ishl dX6_all_7 ?_
  refine E_iconst 1 (by decide) dX6_all_8 ?_
  refine E_isub dX6_all_9 ?_
  refine E_iret rfl (Nat.le_of_ble_eq_true rfl) (Nat.le_of_ble_eq_true rfl) dX6_all_10 ?_
  exact okP (pow_nI hn h10)
set_option maxHeartbeats 400000 in
set_option maxRecDepth 100000 in
theorem c_X6_isMixer (l : Launch) (hfl : l.stackTraces = false) (mi : MI) (ml : MJ) (n : Nat) (hn : (mi 62 26).toInt = (n : Int)) (h10 : n ≤ 5) (c : Int32) (C : Int) (hC : c.toInt = C) : Ct l yX6_isMixer (.code yX6_isMixer cX6_isMixer 2 (some .boolean)) 1 0 0 [.ref 61, .int c] (wl mi ml) (QP (some (.int (bI (0 ≤ C ∧ C ≤ (n : Int) - 1)))) (wl mi ml)) noX := by
  refine Ct_of (ini := false) pn_X6 hfl (fun h => nomatch h) (Nat.le_of_ble_eq_true rfl) ?_
  show E l RX6 cX6_isMixer 2 (some .boolean) false [] (rmE 1 0 0) (wl mi ml) (TgM (wl mi ml) 0 0 (QP (some (.int (bI (0 ≤ C ∧ C ≤ (n : Int) - 1)))) (wl mi ml)) noX) 0 0 0 [(0, .ref 61), (1, .int c)] [] (wl mi ml)
  refine E_iload_n 1 dX6_isMixer_0 rfl rfl ?_
  refine E_iconst 0 (by decide) dX6_isMixer_1 ?_
  refine E_aload_n 0 dX6_isMixer_2 rfl rfl ?_
  refine gf_X6_7 tw_61 rfl dX6_isMixer_3 ?_
  refine E_bipush 26 (by decide) dX6_isMixer_6 ?_
  refine S_iald 26 (mi 62 26) tw_62 rfl (by decide) rfl dX6_isMixer_8 ?_
  refine E_iconst 1 (by decide) dX6_isMixer_9 ?_
  refine E_isub dX6_isMixer_10 ?_
  refine E_callS (c_X6_in l hfl mi ml c 0 ((mi 62 26) - 1) C 0 ((n : Int) - 1) hC (show (0 : Int32).toInt = 0 from rfl) (tI_sub hn (show (1 : Int32).toInt = 1 from rfl) (by omega))) cw_X6_53 (As := [.int c, .int 0, .int ((mi 62 26) - 1)]) (st := []) ws_yX6_in rfl ⟨Nat.le_of_ble_eq_true rfl, Nat.le_of_ble_eq_true rfl, Nat.le_of_ble_eq_true rfl, Nat.le_of_ble_eq_true rfl⟩ (Nat.le_of_ble_eq_true rfl) dX6_isMixer_11 (fun _ _ h => h) rfl (kE ?_)
  refine E_zret rfl nbI (Nat.le_of_ble_eq_true rfl) (Nat.le_of_ble_eq_true rfl) dX6_isMixer_14 ?_
  exact okP rfl
set_option maxHeartbeats 400000 in
set_option maxRecDepth 100000 in
theorem c_X6_isTaken (l : Launch) (hfl : l.stackTraces = false) (mi : MI) (ml : MJ) (n : Nat) (hn : (mi 62 5).toInt = (n : Int)) (h10 : n ≤ 10) (c b : Int32) (BT : Int) (hb : b.toInt = BT) : Ct l yX6_isTaken (.code yX6_isTaken cX6_isTaken 5 (some .boolean)) 1 0 0 [.ref 61, .int c, .int b] (wl mi ml) (QP (some (.int (bI (∃ j : Nat, j < n ∧ (j : Int) ≠ BT ∧ mi 62 (6 + 2 * j) = c)))) (wl mi ml)) noX := by
  refine Ct_of (ini := false) pn_X6 hfl (fun h => nomatch h) (Nat.le_of_ble_eq_true rfl) ?_
  show E l RX6 cX6_isTaken 5 (some .boolean) false [] (rmE 1 0 0) (wl mi ml) (TgM (wl mi ml) 0 0 (QP (some (.int (bI (∃ j : Nat, j < n ∧ (j : Int) ≠ BT ∧ mi 62 (6 + 2 * j) = c)))) (wl mi ml)) noX) 0 0 0 [(0, .ref 61), (1, .int c), (2, .int b)] [] (wl mi ml)
  refine E_iconst 0 (by decide) dX6_isTaken_0 ?_
  refine E_istore_n [(3, .int 0), (0, .ref 61), (1, .int c), (2, .int b)] dX6_isTaken_1 rfl (by decide) rfl ?_
  refine E_iconst 0 (by decide) dX6_isTaken_2 ?_
  refine E_istore [(4, .int 0), (3, .int 0), (0, .ref 61), (1, .int c), (2, .int b)] dX6_isTaken_3 (by decide) rfl ?_
  have J5 : ∀ (N : Nat) (xi xs : Int32) (i : Nat), n - i < N → xi.toInt = (i : Int) → i ≤ n → xs = bI (∃ j : Nat, j < i ∧ (j : Int) ≠ BT ∧ mi 62 (6 + 2 * j) = c) → E l RX6 cX6_isTaken 5 (some .boolean) false [] (rmE 1 0 0) (wl mi ml) (TgM (wl mi ml) 0 0 (QP (some (.int (bI (∃ j : Nat, j < n ∧ (j : Int) ≠ BT ∧ mi 62 (6 + 2 * j) = c)))) (wl mi ml)) noX) 0 0 5 [(0, .ref 61), (1, .int c), (2, .int b), (3, .int xs), (4, .int xi)] [] (wl mi ml) := by
    intro N
    induction N with
    | zero => intros; omega
    | succ N ih5 =>
      intro xi xs i hN5 hxi hi hs
      subst hs
      refine E_iload 4 dX6_isTaken_5 rfl ?_
      refine E_aload_n 0 dX6_isTaken_7 rfl rfl ?_
      refine gf_X6_7 tw_61 rfl dX6_isTaken_8 ?_
      refine E_iconst 5 (by decide) dX6_isTaken_11 ?_
      refine S_iald 5 (mi 62 5) tw_62 rfl (by decide) rfl dX6_isTaken_12 ?_
      refine Z_ge (i : Int) (n : Int) hxi hn 48 dX6_isTaken_13 (by decide) (fun c_13 => ?_) (fun c_13 => ?_)
      · skip
        refine E_iload_n 3 dX6_isTaken_48 rfl rfl ?_
        refine E_zret rfl nbI (Nat.le_of_ble_eq_true rfl) (Nat.le_of_ble_eq_true rfl) dX6_isTaken_49 ?_
        exact okP (bI_iff ⟨fun ⟨j, a1, a2⟩ => ⟨j, by omega, a2⟩, fun ⟨j, a1, a2⟩ => ⟨j, by omega, a2⟩⟩)
      · skip
        refine E_iload_n 3 dX6_isTaken_16 rfl rfl ?_
        refine B_ne 36 dX6_isTaken_17 (by decide) (fun c_17 => ?_) (fun c_17 => ?_)
        · skip
          refine E_iconst 1 (by decide) dX6_isTaken_36 ?_
          refine E_goto 41 dX6_isTaken_37 (by decide) ?_
          refine E_istore_n [(3, .int 1), (0, .ref 61), (1, .int c), (2, .int b), (4, .int xi)] dX6_isTaken_41 rfl (by decide) rfl ?_
          refine E_iinc 4 (xi + 1) [(4, .int (xi + 1)), (3, .int 1), (0, .ref 61), (1, .int c), (2, .int b)] dX6_isTaken_42 rfl rfl (by decide) rfl ?_
          refine E_goto 5 dX6_isTaken_45 (by decide) ?_
          refine E_sub [2, 3, 4, 1, 0] rfl ?_
          exact ih5 (xi + 1) 1 (i + 1) (by omega) ((tI_add hxi (show (1 : Int32).toInt = 1 from rfl) (by omega)).trans (by omega)) (by omega) (by first | exact ex_t c_17 | exact ex_n ⟨c_23, Int32.toInt_inj.mp c_33⟩ | exact ex_f c_17 (fun q => q.1 c_23) | exact ex_f c_17 (fun q => c_33 (congrArg Int32.toInt q.2)))
        · skip
          refine E_iload 4 dX6_isTaken_20 rfl ?_
          refine E_iload_n 2 dX6_isTaken_22 rfl rfl ?_
          refine Z_eq (i : Int) BT hxi hb 40 dX6_isTaken_23 (by decide) (fun c_23 => ?_) (fun c_23 => ?_)
          · skip
            refine E_iconst 0 (by decide) dX6_isTaken_40 ?_
            refine E_istore_n [(3, .int 0), (0, .ref 61), (1, .int c), (2, .int b), (4, .int xi)] dX6_isTaken_41 rfl (by decide) rfl ?_
            refine E_iinc 4 (xi + 1) [(4, .int (xi + 1)), (3, .int 0), (0, .ref 61), (1, .int c), (2, .int b)] dX6_isTaken_42 rfl rfl (by decide) rfl ?_
            refine E_goto 5 dX6_isTaken_45 (by decide) ?_
            refine E_sub [2, 3, 4, 1, 0] rfl ?_
            exact ih5 (xi + 1) 0 (i + 1) (by omega) ((tI_add hxi (show (1 : Int32).toInt = 1 from rfl) (by omega)).trans (by omega)) (by omega) (by first | exact ex_t c_17 | exact ex_n ⟨c_23, Int32.toInt_inj.mp c_33⟩ | exact ex_f c_17 (fun q => q.1 c_23) | exact ex_f c_17 (fun q => c_33 (congrArg Int32.toInt q.2)))
          · skip
            refine E_aload_n 0 dX6_isTaken_26 rfl rfl ?_
            refine E_iload 4 dX6_isTaken_27 rfl ?_
            refine E_callV (c_X6_channelOf l hfl mi ml xi i (hxi.trans (by omega)) (by omega)) cw_X6_57 (As := [.int xi]) (st := []) wi_yX6_channelOf we_yX6_channelOf (ci := 6) (q := (RX6, TX6, 23)) rfl rfl (wl_atO tw_61) rfl ⟨Nat.le_of_ble_eq_true rfl, Nat.le_of_ble_eq_true rfl, Nat.le_of_ble_eq_true rfl, Nat.le_of_ble_eq_true rfl⟩ (Nat.le_of_ble_eq_true rfl) dX6_isTaken_29 (fun _ _ h => h) rfl (kE ?_)
            refine E_iload_n 1 dX6_isTaken_32 rfl rfl ?_
            refine Z_ne ((mi 62 (6 + 2 * i)).toInt) c.toInt rfl rfl 40 dX6_isTaken_33 (by decide) (fun c_33 => ?_) (fun c_33 => ?_)
            · skip
              refine E_iconst 0 (by decide) dX6_isTaken_40 ?_
              refine E_istore_n [(3, .int 0), (0, .ref 61), (1, .int c), (2, .int b), (4, .int xi)] dX6_isTaken_41 rfl (by decide) rfl ?_
              refine E_iinc 4 (xi + 1) [(4, .int (xi + 1)), (3, .int 0), (0, .ref 61), (1, .int c), (2, .int b)] dX6_isTaken_42 rfl rfl (by decide) rfl ?_
              refine E_goto 5 dX6_isTaken_45 (by decide) ?_
              refine E_sub [2, 3, 4, 1, 0] rfl ?_
              exact ih5 (xi + 1) 0 (i + 1) (by omega) ((tI_add hxi (show (1 : Int32).toInt = 1 from rfl) (by omega)).trans (by omega)) (by omega) (by first | exact ex_t c_17 | exact ex_n ⟨c_23, Int32.toInt_inj.mp c_33⟩ | exact ex_f c_17 (fun q => q.1 c_23) | exact ex_f c_17 (fun q => c_33 (congrArg Int32.toInt q.2)))
            · skip
              refine E_iconst 1 (by decide) dX6_isTaken_36 ?_
              refine E_goto 41 dX6_isTaken_37 (by decide) ?_
              refine E_istore_n [(3, .int 1), (0, .ref 61), (1, .int c), (2, .int b), (4, .int xi)] dX6_isTaken_41 rfl (by decide) rfl ?_
              refine E_iinc 4 (xi + 1) [(4, .int (xi + 1)), (3, .int 1), (0, .ref 61), (1, .int c), (2, .int b)] dX6_isTaken_42 rfl rfl (by decide) rfl ?_
              refine E_goto 5 dX6_isTaken_45 (by decide) ?_
              refine E_sub [2, 3, 4, 1, 0] rfl ?_
              exact ih5 (xi + 1) 1 (i + 1) (by omega) ((tI_add hxi (show (1 : Int32).toInt = 1 from rfl) (by omega)).trans (by omega)) (by omega) (by first | exact ex_t c_17 | exact ex_n ⟨c_23, Int32.toInt_inj.mp c_33⟩ | exact ex_f c_17 (fun q => q.1 c_23) | exact ex_f c_17 (fun q => c_33 (congrArg Int32.toInt q.2)))
  refine E_sub [2, 3, 4, 1, 0] rfl ?_
  exact J5 _ 0 0 0 (Nat.lt_succ_self _) (show (0 : Int32).toInt = 0 from rfl) (Nat.zero_le _) (b0 (fun ⟨j, h, _⟩ => absurd h (Nat.not_lt_zero j)))
set_option maxHeartbeats 400000 in
set_option maxRecDepth 100000 in
theorem c_X6_isFit (l : Launch) (hfl : l.stackTraces = false) (mi : MI) (ml : MJ) (n : Nat) (hn : (mi 62 5).toInt = (n : Int)) (h10 : n ≤ 10) (c v b : Int32) (C L BT : Int) (hC : c.toInt = C) (hL : v.toInt = L) (hb : b.toInt = BT) : Ct l yX6_isFit (.code yX6_isFit cX6_isFit 4 (some .boolean)) 2 0 0 [.ref 61, .int c, .int v, .int b] (wl mi ml) (QP (some (.int (bI ((0 ≤ C ∧ C ≤ 63) ∧ (0 ≤ L ∧ L ≤ 60) ∧ ¬ ∃ j : Nat, j < n ∧ (j : Int) ≠ BT ∧ mi 62 (6 + 2 * j) = c)))) (wl mi ml)) noX := by
  refine Ct_of (ini := false) pn_X6 hfl (fun h => nomatch h) (Nat.le_of_ble_eq_true rfl) ?_
  show E l RX6 cX6_isFit 4 (some .boolean) false [] (rmE 2 0 0) (wl mi ml) (TgM (wl mi ml) 0 0 (QP (some (.int (bI ((0 ≤ C ∧ C ≤ 63) ∧ (0 ≤ L ∧ L ≤ 60) ∧ ¬ ∃ j : Nat, j < n ∧ (j : Int) ≠ BT ∧ mi 62 (6 + 2 * j) = c)))) (wl mi ml)) noX) 0 0 0 [(0, .ref 61), (1, .int c), (2, .int v), (3, .int b)] [] (wl mi ml)
  refine E_iload_n 1 dX6_isFit_0 rfl rfl ?_
  refine E_callS (c_X6_isChannel l hfl mi ml c C hC) cw_X6_61 (As := [.int c]) (st := []) ws_yX6_isChannel rfl ⟨Nat.le_of_ble_eq_true rfl, Nat.le_of_ble_eq_true rfl, Nat.le_of_ble_eq_true rfl, Nat.le_of_ble_eq_true rfl⟩ (Nat.le_of_ble_eq_true rfl) dX6_isFit_1 (fun _ _ h => h) rfl (kE ?_)
  refine B_eq 30 dX6_isFit_4 (by decide) (fun c_4 => ?_) (fun c_4 => ?_)
  · skip
    refine E_iconst 0 (by decide) dX6_isFit_30 ?_
    refine E_zret rfl rfl (Nat.le_of_ble_eq_true rfl) (Nat.le_of_ble_eq_true rfl) dX6_isFit_31 ?_
    exact okP (b0 (by first | exact fun q => c_4 q.1 | exact fun q => c_14 q.2.1 | exact fun q => q.2.2 c_23))
  · skip
    refine E_iload_n 2 dX6_isFit_7 rfl rfl ?_
    refine E_iconst 0 (by decide) dX6_isFit_8 ?_
    refine E_bipush 60 (by decide) dX6_isFit_9 ?_
    refine E_callS (c_X6_in l hfl mi ml v 0 60 L 0 60 hL (show (0 : Int32).toInt = 0 from rfl) (show (60 : Int32).toInt = 60 from rfl)) cw_X6_53 (As := [.int v, .int 0, .int 60]) (st := []) ws_yX6_in rfl ⟨Nat.le_of_ble_eq_true rfl, Nat.le_of_ble_eq_true rfl, Nat.le_of_ble_eq_true rfl, Nat.le_of_ble_eq_true rfl⟩ (Nat.le_of_ble_eq_true rfl) dX6_isFit_11 (fun _ _ h => h) rfl (kE ?_)
    refine B_eq 30 dX6_isFit_14 (by decide) (fun c_14 => ?_) (fun c_14 => ?_)
    · skip
      refine E_iconst 0 (by decide) dX6_isFit_30 ?_
      refine E_zret rfl rfl (Nat.le_of_ble_eq_true rfl) (Nat.le_of_ble_eq_true rfl) dX6_isFit_31 ?_
      exact okP (b0 (by first | exact fun q => c_4 q.1 | exact fun q => c_14 q.2.1 | exact fun q => q.2.2 c_23))
    · skip
      refine E_aload_n 0 dX6_isFit_17 rfl rfl ?_
      refine E_iload_n 1 dX6_isFit_18 rfl rfl ?_
      refine E_iload_n 3 dX6_isFit_19 rfl rfl ?_
      refine E_callV (c_X6_isTaken l hfl mi ml n hn (by omega) c b BT hb) cw_X6_65 (As := [.int c, .int b]) (st := []) wi_yX6_isTaken we_yX6_isTaken (ci := 6) (q := (RX6, TX6, 23)) rfl rfl (wl_atO tw_61) rfl ⟨Nat.le_of_ble_eq_true rfl, Nat.le_of_ble_eq_true rfl, Nat.le_of_ble_eq_true rfl, Nat.le_of_ble_eq_true rfl⟩ (Nat.le_of_ble_eq_true rfl) dX6_isFit_20 (fun _ _ h => h) rfl (kE ?_)
      refine B_ne 30 dX6_isFit_23 (by decide) (fun c_23 => ?_) (fun c_23 => ?_)
      · skip
        refine E_iconst 0 (by decide) dX6_isFit_30 ?_
        refine E_zret rfl rfl (Nat.le_of_ble_eq_true rfl) (Nat.le_of_ble_eq_true rfl) dX6_isFit_31 ?_
        exact okP (b0 (by first | exact fun q => c_4 q.1 | exact fun q => c_14 q.2.1 | exact fun q => q.2.2 c_23))
      · skip
        refine E_iconst 1 (by decide) dX6_isFit_26 ?_
        refine E_goto 31 dX6_isFit_27 (by decide) ?_
        refine E_zret rfl rfl (Nat.le_of_ble_eq_true rfl) (Nat.le_of_ble_eq_true rfl) dX6_isFit_31 ?_
        exact okP (b1 ⟨c_4, c_14, c_23⟩)
set_option maxHeartbeats 400000 in
set_option maxRecDepth 100000 in
theorem c_X6_lay (l : Launch) (hfl : l.stackTraces = false) (mi : MI) (ml : MJ) (c a b : Int32) (j : Nat) (hj : c.toInt = (j : Int)) (hl : j < 11) : Ct l yX6_lay (.code yX6_lay cX6_lay 4 none) 0 0 0 [.ref 61, .int c, .int a, .int b] (wl mi ml) (QP none (wl (u2 (u2 mi 62 (6 + 2 * j) a) 62 (7 + 2 * j) b) ml)) noX := by
  refine Ct_of (ini := false) pn_X6 hfl (fun h => nomatch h) (Nat.le_of_ble_eq_true rfl) ?_
  show E l RX6 cX6_lay 4 none false [] (rmE 0 0 0) (wl mi ml) (TgM (wl mi ml) 0 0 (QP none (wl (u2 (u2 mi 62 (6 + 2 * j) a) 62 (7 + 2 * j) b) ml)) noX) 0 0 0 [(0, .ref 61), (1, .int c), (2, .int a), (3, .int b)] [] (wl mi ml)
  refine E_aload_n 0 dX6_lay_0 rfl rfl ?_
  refine gf_X6_7 tw_61 rfl dX6_lay_1 ?_
  refine E_bipush 6 (by decide) dX6_lay_4 ?_
  refine E_iconst 2 (by decide) dX6_lay_6 ?_
  refine E_iload_n 1 dX6_lay_7 rfl rfl ?_
  refine E_imul dX6_lay_8 ?_
  refine E_iadd dX6_lay_9 ?_
  refine E_iload_n 2 dX6_lay_10 rfl rfl ?_
  refine S_iast (6 + (2 * j)) tw_62 ((tI_add (show (6 : Int32).toInt = 6 from rfl) (tI_mul (show (2 : Int32).toInt = 2 from rfl) hj (by omega)) (by omega)).trans (by omega)) (by omega) dX6_lay_11 ?_
  refine E_aload_n 0 dX6_lay_12 rfl rfl ?_
  refine gf_X6_7 tw_61 rfl dX6_lay_13 ?_
  refine E_bipush 6 (by decide) dX6_lay_16 ?_
  refine E_iconst 2 (by decide) dX6_lay_18 ?_
  refine E_iload_n 1 dX6_lay_19 rfl rfl ?_
  refine E_imul dX6_lay_20 ?_
  refine E_iadd dX6_lay_21 ?_
  refine E_iconst 1 (by decide) dX6_lay_22 ?_
  refine E_iadd dX6_lay_23 ?_
  refine E_iload_n 3 dX6_lay_24 rfl rfl ?_
  refine S_iast (7 + 2 * j) tw_62 ((tI_add (tI_add (show (6 : Int32).toInt = 6 from rfl) (tI_mul (show (2 : Int32).toInt = 2 from rfl) hj (by omega)) (by omega)) (show (1 : Int32).toInt = 1 from rfl) (by omega)).trans (by omega)) (by omega) dX6_lay_25 ?_
  refine E_vret rfl (Nat.le_of_ble_eq_true rfl) (Nat.le_of_ble_eq_true rfl) dX6_lay_26 ?_
  exact ⟨rfl, rfl⟩
set_option maxHeartbeats 400000 in
set_option maxRecDepth 100000 in
theorem c_X6_bits (l : Launch) (hfl : l.stackTraces = false) (mi : MI) (ml : MJ) (c : Int32) (s : Nat) (hc : c.toInt = (s : Int)) (hs : s < 1024) : Ct l yX6_bits (.code yX6_bits cX6_bits 3 (some .int)) 0 0 0 [.int c] (wl mi ml) (QP (some (.int (nI (popc s)))) (wl mi ml)) noX := by
  refine Ct_of (ini := false) pn_X6 hfl (fun h => nomatch h) (Nat.le_of_ble_eq_true rfl) ?_
  show E l RX6 cX6_bits 3 (some .int) false [] (rmE 0 0 0) (wl mi ml) (TgM (wl mi ml) 0 0 (QP (some (.int (nI (popc s)))) (wl mi ml)) noX) 0 0 0 [(0, .int c)] [] (wl mi ml)
  refine E_iconst 0 (by decide) dX6_bits_0 ?_
  refine E_istore_n [(1, .int 0), (0, .int c)] dX6_bits_1 rfl (by decide) rfl ?_
  refine E_iload_n 1 dX6_bits_2 rfl rfl ?_
  refine E_istore_n [(2, .int c), (1, .int 0), (0, .int c)] dX6_bits_3 rfl (by decide) rfl ?_
  have J4 : ∀ (N : Nat) (xl xn : Int32) (t q : Nat), t < N → xl.toInt = (t : Int) → xn.toInt = (q : Int) → t < 1024 → q + popc t = popc s → E l RX6 cX6_bits 3 (some .int) false [] (rmE 0 0 0) (wl mi ml) (TgM (wl mi ml) 0 0 (QP (some (.int (nI (popc s)))) (wl mi ml)) noX) 0 0 4 [(0, .int c), (1, .int xn), (2, .int xl)] [] (wl mi ml) := by
    intro N
    induction N with
    | zero => intros; omega
    | succ N ih4 =>
      intro xl xn t q hN4 hxl hxn ht hq
      refine E_iload_n 2 dX6_bits_4 rfl rfl ?_
      refine Y_eq (t : Int) hxl 20 dX6_bits_5 (by decide) (fun c_5 => ?_) (fun c_5 => ?_)
      · skip
        refine E_iload_n 1 dX6_bits_20 rfl rfl ?_
        refine E_iret rfl (Nat.le_of_ble_eq_true rfl) (Nat.le_of_ble_eq_true rfl) dX6_bits_21 ?_
        exact okP (tI_nIx (hxn.trans (by rw [show t = 0 by omega, popc_0] at hq; omega)))
      · skip
        have pq := popc_le s
        refine E_iinc 1 (xn + 1) [(1, .int (xn + 1)), (0, .int c), (2, .int xl)] dX6_bits_8 rfl rfl (by decide) rfl ?_
        refine E_iload_n 2 dX6_bits_11 rfl rfl ?_
        refine E_iload_n 2 dX6_bits_12 rfl rfl ?_
        refine E_iconst 1 (by decide) dX6_bits_13 ?_
        refine E_isub dX6_bits_14 ?_
        refine E_iand dX6_bits_15 ?_
        refine E_istore_n [(2, .int (xl &&& (xl - 1))), (1, .int (xn + 1)), (0, .int c)] dX6_bits_16 rfl (by decide) rfl ?_
        refine E_goto 4 dX6_bits_17 (by decide) ?_
        refine E_sub [2, 1, 0] rfl ?_
        exact ih4 (xl &&& (xl - 1)) (xn + 1) (t &&& (t - 1)) (q + 1) (by have := (bits_step t ht (by omega)).2.1; omega) (by rw [tI_nIx hxl, (bits_step t ht (by omega)).1]; exact tI_nI (by have := (bits_step t ht (by omega)).2.1; omega)) ((tI_add hxn (show (1 : Int32).toInt = 1 from rfl) (by omega)).trans (by omega)) (by have := (bits_step t ht (by omega)).2.1; omega) (by have := (bits_step t ht (by omega)).2.2; omega)
  refine E_sub [2, 1, 0] rfl ?_
  exact J4 _ c 0 s 0 (Nat.lt_succ_self _) hc (show (0 : Int32).toInt = 0 from rfl) hs (Nat.zero_add _)
/-- places outside F are as they were -/
def Fr (F : List Nat) (mi mi' : MI) : Prop := ∀ p, p ∉ F → mi' p = mi p
theorem Fr.rfl' {F : List Nat} {mi : MI} : Fr F mi mi := fun _ _ => rfl
theorem Fr.trans {F G H : List Nat} {a b c : MI} (h1 : Fr F a b) (h2 : Fr G b c) (hF : ∀ p, p ∈ F → p ∈ H) (hG : ∀ p, p ∈ G → p ∈ H) : Fr H a c := fun p hp => (h2 p (fun q => hp (hG p q))).trans (h1 p (fun q => hp (hF p q)))
theorem Fr.u {F : List Nat} {mi mi' : MI} {p k : Nat} {v : Int32} (h : Fr F mi mi') (hp : p ∈ F) : Fr F mi (u2 mi' p k v) := fun q hq => (u2_p (fun e => hq (by rw [e]; exact hp))).trans (h q hq)
/-- what keep() does to the saved blocks -/
def Kept (mi mi' : MI) : Prop := Fr [61, 63] mi mi' ∧ (∀ k, k ≠ 2 → mi' 61 k = mi 61 k) ∧ ∃ sc sc' : Nat, (mi 61 2).toInt = (sc : Int) ∧ (mi' 61 2).toInt = (sc' : Int) ∧ sc ≤ 4 ∧ ((sc < 4 ∧ sc' = sc + 1 ∧ ∀ i k, i < sc → k < 81 → mi' 63 (81 * i + k) = mi 63 (81 * i + k)) ∨ (sc = 4 ∧ sc' = 4 ∧ ∀ i k, i < 3 → k < 81 → mi' 63 (81 * i + k) = mi 63 (81 * (i + 1) + k))) ∧ ∀ k, k < 81 → mi' 63 (81 * (sc' - 1) + k) = mi 62 k
end MO2
