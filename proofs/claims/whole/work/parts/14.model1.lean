section MO1
set_option maxHeartbeats 400000 in
set_option maxRecDepth 100000 in
theorem c_X6_thrown (l : Launch) (hfl : l.stackTraces = false) (mi : MI) (ml : MJ) : Ct l yX6_thrown (.code yX6_thrown cX6_thrown 1 (some .int)) 0 0 0 [.ref 61] (wl mi ml) (QP (some (.int (mi 61 5))) (wl mi ml)) noX := by
  refine Ct_of (ini := false) pn_X6 hfl (fun h => nomatch h) (Nat.le_of_ble_eq_true rfl) ?_
  show E l RX6 cX6_thrown 1 (some .int) false [] (rmE 0 0 0) (wl mi ml) (TgM (wl mi ml) 0 0 (QP (some (.int (mi 61 5))) (wl mi ml)) noX) 0 0 0 [(0, .ref 61)] [] (wl mi ml)
  refine E_aload_n 0 dX6_thrown_0 rfl rfl ?_
  refine gf_X6_43 (mi 61 5) tw_61 rfl rfl dX6_thrown_1 ?_
  refine E_iret rfl (Nat.le_of_ble_eq_true rfl) (Nat.le_of_ble_eq_true rfl) dX6_thrown_4 ?_
  exact okP rfl
set_option maxHeartbeats 400000 in
set_option maxRecDepth 100000 in
theorem c_X6_in (l : Launch) (hfl : l.stackTraces = false) (mi : MI) (ml : MJ) (a b c : Int32) (A B C : Int) (hA : a.toInt = A) (hB : b.toInt = B) (hC : c.toInt = C) : Ct l yX6_in (.code yX6_in cX6_in 3 (some .boolean)) 0 0 0 [.int a, .int b, .int c] (wl mi ml) (QP (some (.int (bI (B ≤ A ∧ A ≤ C)))) (wl mi ml)) noX := by
  refine Ct_of (ini := false) pn_X6 hfl (fun h => nomatch h) (Nat.le_of_ble_eq_true rfl) ?_
  show E l RX6 cX6_in 3 (some .boolean) false [] (rmE 0 0 0) (wl mi ml) (TgM (wl mi ml) 0 0 (QP (some (.int (bI (B ≤ A ∧ A ≤ C)))) (wl mi ml)) noX) 0 0 0 [(0, .int a), (1, .int b), (2, .int c)] [] (wl mi ml)
  refine E_iload_n 0 dX6_in_0 rfl rfl ?_
  refine E_iload_n 1 dX6_in_1 rfl rfl ?_
  refine Z_lt A B hA hB 14 dX6_in_2 (by decide) (fun c_2 => ?_) (fun c_2 => ?_)
  · skip
    refine E_iconst 0 (by decide) dX6_in_14 ?_
    refine E_zret rfl rfl (Nat.le_of_ble_eq_true rfl) (Nat.le_of_ble_eq_true rfl) dX6_in_15 ?_
    exact okP (b0 (by omega))
  · skip
    refine E_iload_n 0 dX6_in_5 rfl rfl ?_
    refine E_iload_n 2 dX6_in_6 rfl rfl ?_
    refine Z_gt A C hA hC 14 dX6_in_7 (by decide) (fun c_7 => ?_) (fun c_7 => ?_)
    · skip
      refine E_iconst 0 (by decide) dX6_in_14 ?_
      refine E_zret rfl rfl (Nat.le_of_ble_eq_true rfl) (Nat.le_of_ble_eq_true rfl) dX6_in_15 ?_
      exact okP (b0 (by omega))
    · skip
      refine E_iconst 1 (by decide) dX6_in_10 ?_
      refine E_goto 15 dX6_in_11 (by decide) ?_
      refine E_zret rfl rfl (Nat.le_of_ble_eq_true rfl) (Nat.le_of_ble_eq_true rfl) dX6_in_15 ?_
      exact okP (b1 (by omega))
theorem has_bit : ∀ (s k : Nat), s < 1024 → k < 11 → (((nI s) >>> ((nI k) &&& 31)) &&& 1) = if s.testBit k then 1 else 0 := by
  intro s k hs hk
  have h1 : ((nI k &&& 31).toBitVec.smod 32).toNat = k := s_l k (by omega)
  rw [pk_shrN (by omega) _ k h1, pk_andN (m := 1) (by
    have : s / 2 ^ k ≤ s := Nat.div_le_self _ _
    omega) 1 rfl]
  rw [Nat.testBit_eq_decide_div_mod_eq]
  rcases Nat.mod_two_eq_zero_or_one (s / 2 ^ k) with h | h
  · rw [if_neg (by simp [h]), show (2 : Nat) ^ 1 = 2 from rfl, h]; rfl
  · rw [if_pos (by simp [h]), show (2 : Nat) ^ 1 = 2 from rfl, h]; rfl
theorem has_toInt {a b : Int32} {s k : Nat} (ha : a.toInt = (s : Int)) (hb : b.toInt = (k : Int)) (hs : s < 1024) (hk : k < 11) : ((a >>> (b &&& 31)) &&& 1).toInt = if s.testBit k then 1 else 0 := by
  rw [tI_nIx ha, tI_nIx hb, has_bit s k hs hk]
  split <;> rfl
set_option maxHeartbeats 400000 in
set_option maxRecDepth 100000 in
theorem c_X6_has (l : Launch) (hfl : l.stackTraces = false) (mi : MI) (ml : MJ) (a b : Int32) (s k : Nat) (ha : a.toInt = (s : Int)) (hb : b.toInt = (k : Int)) (hs : s < 1024) (hk : k < 11) : Ct l yX6_has (.code yX6_has cX6_has 2 (some .boolean)) 0 0 0 [.int a, .int b] (wl mi ml) (QP (some (.int (bI (s.testBit k = true)))) (wl mi ml)) noX := by
  refine Ct_of (ini := false) pn_X6 hfl (fun h => nomatch h) (Nat.le_of_ble_eq_true rfl) ?_
  show E l RX6 cX6_has 2 (some .boolean) false [] (rmE 0 0 0) (wl mi ml) (TgM (wl mi ml) 0 0 (QP (some (.int (bI (s.testBit k = true)))) (wl mi ml)) noX) 0 0 0 [(0, .int a), (1, .int b)] [] (wl mi ml)
  refine E_iload_n 0 dX6_has_0 rfl rfl ?_
  refine E_iload_n 1 dX6_has_1 rfl rfl ?_
  refine E_ishr dX6_has_2 ?_
  refine E_iconst 1 (by decide) dX6_has_3 ?_
  refine E_iand dX6_has_4 ?_
  refine E_iconst 1 (by decide) dX6_has_5 ?_
  refine Z_ne (((a >>> (b &&& 31)) &&& 1).toInt) 1 rfl (show (1 : Int32).toInt = 1 from rfl) 13 dX6_has_6 (by decide) (fun c_6 => ?_) (fun c_6 => ?_)
  · skip
    refine E_iconst 0 (by decide) dX6_has_13 ?_
    refine E_zret rfl rfl (Nat.le_of_ble_eq_true rfl) (Nat.le_of_ble_eq_true rfl) dX6_has_14 ?_
    rw [has_toInt ha hb hs hk] at c_6
    exact okP (b0 (by by_cases q : s.testBit k = true <;> simp_all))
  · skip
    refine E_iconst 1 (by decide) dX6_has_9 ?_
    refine E_goto 14 dX6_has_10 (by decide) ?_
    refine E_zret rfl rfl (Nat.le_of_ble_eq_true rfl) (Nat.le_of_ble_eq_true rfl) dX6_has_14 ?_
    rw [has_toInt ha hb hs hk] at c_6
    exact okP (b1 (by by_cases q : s.testBit k = true <;> simp_all))
set_option maxHeartbeats 400000 in
set_option maxRecDepth 100000 in
theorem c_X6_channelOf (l : Launch) (hfl : l.stackTraces = false) (mi : MI) (ml : MJ) (c : Int32) (j : Nat) (hj : c.toInt = (j : Int)) (hl : j < 11) : Ct l yX6_channelOf (.code yX6_channelOf cX6_channelOf 2 (some .int)) 0 0 0 [.ref 61, .int c] (wl mi ml) (QP (some (.int (mi 62 (6 + 2 * j)))) (wl mi ml)) noX := by
  refine Ct_of (ini := false) pn_X6 hfl (fun h => nomatch h) (Nat.le_of_ble_eq_true rfl) ?_
  show E l RX6 cX6_channelOf 2 (some .int) false [] (rmE 0 0 0) (wl mi ml) (TgM (wl mi ml) 0 0 (QP (some (.int (mi 62 (6 + 2 * j)))) (wl mi ml)) noX) 0 0 0 [(0, .ref 61), (1, .int c)] [] (wl mi ml)
  refine E_aload_n 0 dX6_channelOf_0 rfl rfl ?_
  refine gf_X6_7 tw_61 rfl dX6_channelOf_1 ?_
  refine E_bipush 6 (by decide) dX6_channelOf_4 ?_
  refine E_iconst 2 (by decide) dX6_channelOf_6 ?_
  refine E_iload_n 1 dX6_channelOf_7 rfl rfl ?_
  refine E_imul dX6_channelOf_8 ?_
  refine E_iadd dX6_channelOf_9 ?_
  refine S_iald (6 + (2 * j)) (mi 62 (6 + (2 * j))) tw_62 ((tI_add (show (6 : Int32).toInt = 6 from rfl) (tI_mul (show (2 : Int32).toInt = 2 from rfl) hj (by omega)) (by omega)).trans (by omega)) (by omega) rfl dX6_channelOf_10 ?_
  refine E_iret rfl (Nat.le_of_ble_eq_true rfl) (Nat.le_of_ble_eq_true rfl) dX6_channelOf_11 ?_
  exact okP rfl
set_option maxHeartbeats 400000 in
set_option maxRecDepth 100000 in
theorem c_X6_levelOf (l : Launch) (hfl : l.stackTraces = false) (mi : MI) (ml : MJ) (c : Int32) (j : Nat) (hj : c.toInt = (j : Int)) (hl : j < 11) : Ct l yX6_levelOf (.code yX6_levelOf cX6_levelOf 2 (some .int)) 0 0 0 [.ref 61, .int c] (wl mi ml) (QP (some (.int (mi 62 (7 + 2 * j)))) (wl mi ml)) noX := by
  refine Ct_of (ini := false) pn_X6 hfl (fun h => nomatch h) (Nat.le_of_ble_eq_true rfl) ?_
  show E l RX6 cX6_levelOf 2 (some .int) false [] (rmE 0 0 0) (wl mi ml) (TgM (wl mi ml) 0 0 (QP (some (.int (mi 62 (7 + 2 * j)))) (wl mi ml)) noX) 0 0 0 [(0, .ref 61), (1, .int c)] [] (wl mi ml)
  refine E_aload_n 0 dX6_levelOf_0 rfl rfl ?_
  refine gf_X6_7 tw_61 rfl dX6_levelOf_1 ?_
  refine E_bipush 6 (by decide) dX6_levelOf_4 ?_
  refine E_iconst 2 (by decide) dX6_levelOf_6 ?_
  refine E_iload_n 1 dX6_levelOf_7 rfl rfl ?_
  refine E_imul dX6_levelOf_8 ?_
  refine E_iadd dX6_levelOf_9 ?_
  refine E_iconst 1 (by decide) dX6_levelOf_10 ?_
  refine E_iadd dX6_levelOf_11 ?_
  refine S_iald (7 + 2 * j) (mi 62 (7 + 2 * j)) tw_62 ((tI_add (tI_add (show (6 : Int32).toInt = 6 from rfl) (tI_mul (show (2 : Int32).toInt = 2 from rfl) hj (by omega)) (by omega)) (show (1 : Int32).toInt = 1 from rfl) (by omega)).trans (by omega)) (by omega) rfl dX6_levelOf_12 ?_
  refine E_iret rfl (Nat.le_of_ble_eq_true rfl) (Nat.le_of_ble_eq_true rfl) dX6_levelOf_13 ?_
  exact okP rfl
set_option maxHeartbeats 400000 in
set_option maxRecDepth 100000 in
theorem c_X6_isCarrier (l : Launch) (hfl : l.stackTraces = false) (mi : MI) (ml : MJ) (n : Nat) (hn : (mi 62 5).toInt = (n : Int)) (h10 : n ≤ 10) (c : Int32) (C : Int) (hC : c.toInt = C) : Ct l yX6_isCarrier (.code yX6_isCarrier cX6_isCarrier 2 (some .boolean)) 1 0 0 [.ref 61, .int c] (wl mi ml) (QP (some (.int (bI (0 ≤ C ∧ C ≤ (n : Int) - 1)))) (wl mi ml)) noX := by
  refine Ct_of (ini := false) pn_X6 hfl (fun h => nomatch h) (Nat.le_of_ble_eq_true rfl) ?_
  show E l RX6 cX6_isCarrier 2 (some .boolean) false [] (rmE 1 0 0) (wl mi ml) (TgM (wl mi ml) 0 0 (QP (some (.int (bI (0 ≤ C ∧ C ≤ (n : Int) - 1)))) (wl mi ml)) noX) 0 0 0 [(0, .ref 61), (1, .int c)] [] (wl mi ml)
  refine E_iload_n 1 dX6_isCarrier_0 rfl rfl ?_
  refine E_iconst 0 (by decide) dX6_isCarrier_1 ?_
  refine E_aload_n 0 dX6_isCarrier_2 rfl rfl ?_
  refine gf_X6_7 tw_61 rfl dX6_isCarrier_3 ?_
  refine E_iconst 5 (by decide) dX6_isCarrier_6 ?_
  refine S_iald 5 (mi 62 5) tw_62 rfl (by decide) rfl dX6_isCarrier_7 ?_
  refine E_iconst 1 (by decide) dX6_isCarrier_8 ?_
  refine E_isub dX6_isCarrier_9 ?_
  refine E_callS (c_X6_in l hfl mi ml c 0 ((mi 62 5) - 1) C 0 ((n : Int) - 1) hC (show (0 : Int32).toInt = 0 from rfl) (tI_sub hn (show (1 : Int32).toInt = 1 from rfl) (by omega))) cw_X6_53 (As := [.int c, .int 0, .int ((mi 62 5) - 1)]) (st := []) ws_yX6_in rfl ⟨Nat.le_of_ble_eq_true rfl, Nat.le_of_ble_eq_true rfl, Nat.le_of_ble_eq_true rfl, Nat.le_of_ble_eq_true rfl⟩ (Nat.le_of_ble_eq_true rfl) dX6_isCarrier_10 (fun _ _ h => h) rfl (kE ?_)
  refine E_zret rfl nbI (Nat.le_of_ble_eq_true rfl) (Nat.le_of_ble_eq_true rfl) dX6_isCarrier_13 ?_
  exact okP rfl
set_option maxHeartbeats 400000 in
set_option maxRecDepth 100000 in
theorem c_X6_isChannel (l : Launch) (hfl : l.stackTraces = false) (mi : MI) (ml : MJ) (c : Int32) (C : Int) (hC : c.toInt = C) : Ct l yX6_isChannel (.code yX6_isChannel cX6_isChannel 1 (some .boolean)) 1 0 0 [.int c] (wl mi ml) (QP (some (.int (bI (0 ≤ C ∧ C ≤ 63)))) (wl mi ml)) noX := by
  refine Ct_of (ini := false) pn_X6 hfl (fun h => nomatch h) (Nat.le_of_ble_eq_true rfl) ?_
  show E l RX6 cX6_isChannel 1 (some .boolean) false [] (rmE 1 0 0) (wl mi ml) (TgM (wl mi ml) 0 0 (QP (some (.int (bI (0 ≤ C ∧ C ≤ 63)))) (wl mi ml)) noX) 0 0 0 [(0, .int c)] [] (wl mi ml)
  refine E_iload_n 0 dX6_isChannel_0 rfl rfl ?_
  refine E_iconst 0 (by decide) dX6_isChannel_1 ?_
  refine E_bipush 63 (by decide) dX6_isChannel_2 ?_
  refine E_callS (c_X6_in l hfl mi ml c 0 63 C 0 63 hC (show (0 : Int32).toInt = 0 from rfl) (show (63 : Int32).toInt = 63 from rfl)) cw_X6_53 (As := [.int c, .int 0, .int 63]) (st := []) ws_yX6_in rfl ⟨Nat.le_of_ble_eq_true rfl, Nat.le_of_ble_eq_true rfl, Nat.le_of_ble_eq_true rfl, Nat.le_of_ble_eq_true rfl⟩ (Nat.le_of_ble_eq_true rfl) dX6_isChannel_4 (fun _ _ h => h) rfl (kE ?_)
  refine E_zret rfl nbI (Nat.le_of_ble_eq_true rfl) (Nat.le_of_ble_eq_true rfl) dX6_isChannel_7 ?_
  exact okP rfl
end MO1
