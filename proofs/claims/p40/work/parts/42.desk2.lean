section DS2
set_option maxHeartbeats 1600000 in
set_option maxRecDepth 100000 in
theorem c_X1_setCarrier (l : Launch) (hfl : l.stackTraces = false) (h : Nat) (hd : isD h) (mi : MI) (ml : MJ) (c a b : Int32) (j : Nat) (hj : c.toInt = (j : Int)) (n : Nat) (hn : (mi h 5).toInt = (n : Int)) (ln : n ≤ 10) (hjn : j < n) : Ct l yX1_setCarrier (.code yX1_setCarrier cX1_setCarrier 4 none) 1 0 0 [.ref h, .int c, .int a, .int b] (wl mi ml) (QP none (wl (u2 (u2 (u2 mi (h + 1) j a) (h + 2) j b) h 10 0) ml)) noX := by
  refine Ct_of (ini := false) pn_X1 hfl (fun h => nomatch h) (Nat.le_of_ble_eq_true rfl) ?_
  show E l RX1 cX1_setCarrier 4 none false [] (rmE 1 0 0) (wl mi ml) (TgM (wl mi ml) 0 0 (QP none (wl (u2 (u2 (u2 mi (h + 1) j a) (h + 2) j b) h 10 0) ml)) noX) 0 0 0 [(0, .ref h), (1, .int c), (2, .int a), (3, .int b)] [] (wl mi ml)
  refine E_aload_n 0 dX1_setCarrier_0 rfl rfl ?_
  refine E_iload_n 1 dX1_setCarrier_1 rfl rfl ?_
  refine E_callV (c_X1_hasCarrier l hfl h hd mi ml c (j : Int) (n : Int) hj hn) cw_X1_64 (As := [.int c]) (st := []) wi_yX1_hasCarrier we_yX1_hasCarrier (ci := 1) (q := (RX1, TX1, 15)) rfl rfl (wl_atO hd.t) rfl ⟨Nat.le_of_ble_eq_true rfl, Nat.le_of_ble_eq_true rfl, Nat.le_of_ble_eq_true rfl, Nat.le_of_ble_eq_true rfl⟩ (Nat.le_of_ble_eq_true rfl) dX1_setCarrier_2 (fun _ _ h => h) rfl (kE ?_)
  refine B_eq 22 dX1_setCarrier_5 (by decide) (fun c_5 => ?_) (fun c_5 => ?_)
  · exact absurd (by omega) c_5
  · skip
    refine E_aload_n 0 dX1_setCarrier_8 rfl rfl ?_
    refine gf_X1_27 hd.t rfl dX1_setCarrier_9 ?_
    refine E_iload_n 1 dX1_setCarrier_12 rfl rfl ?_
    refine E_iload_n 2 dX1_setCarrier_13 rfl rfl ?_
    refine S_iast j hd.a1 (hj.trans (by omega)) (by omega) dX1_setCarrier_14 ?_
    refine E_aload_n 0 dX1_setCarrier_15 rfl rfl ?_
    refine gf_X1_31 hd.t rfl dX1_setCarrier_16 ?_
    refine E_iload_n 1 dX1_setCarrier_19 rfl rfl ?_
    refine E_iload_n 3 dX1_setCarrier_20 rfl rfl ?_
    refine S_iast j hd.a2 (hj.trans (by omega)) (by omega) dX1_setCarrier_21 ?_
    refine E_aload_n 0 dX1_setCarrier_22 rfl rfl ?_
    refine E_iconst 0 (by decide) dX1_setCarrier_23 ?_
    refine pf_X1_55 hd.t rfl dX1_setCarrier_24 ?_
    refine E_vret rfl (Nat.le_of_ble_eq_true rfl) (Nat.le_of_ble_eq_true rfl) dX1_setCarrier_27 ?_
    exact ⟨rfl, rfl⟩
set_option maxHeartbeats 1600000 in
set_option maxRecDepth 100000 in
theorem c_X1_putCarrier (l : Launch) (hfl : l.stackTraces = false) (h : Nat) (hd : isD h) (mi : MI) (ml : MJ) (a b : Int32) (n : Nat) (hn : (mi h 5).toInt = (n : Int)) (ln : n ≤ 10) (hlt : n < 10) : Ct l yX1_putCarrier (.code yX1_putCarrier cX1_putCarrier 3 none) 2 0 0 [.ref h, .int a, .int b] (wl mi ml) (QP none (wl (u2 (u2 (u2 (u2 mi h 5 (mi h 5 + 1)) (h + 1) n a) (h + 2) n b) h 10 0) ml)) noX := by
  refine Ct_of (ini := false) pn_X1 hfl (fun h => nomatch h) (Nat.le_of_ble_eq_true rfl) ?_
  show E l RX1 cX1_putCarrier 3 none false [] (rmE 2 0 0) (wl mi ml) (TgM (wl mi ml) 0 0 (QP none (wl (u2 (u2 (u2 (u2 mi h 5 (mi h 5 + 1)) (h + 1) n a) (h + 2) n b) h 10 0) ml)) noX) 0 0 0 [(0, .ref h), (1, .int a), (2, .int b)] [] (wl mi ml)
  refine E_aload_n 0 dX1_putCarrier_0 rfl rfl ?_
  refine gf_X1_49 (mi h 5) hd.t rfl rfl dX1_putCarrier_1 ?_
  refine E_bipush 10 (by decide) dX1_putCarrier_4 ?_
  refine Z_ge (n : Int) 10 hn (show (10 : Int32).toInt = 10 from rfl) 31 dX1_putCarrier_6 (by decide) (fun c_6 => ?_) (fun c_6 => ?_)
  · exact absurd c_6 (by omega)
  · skip
    refine E_aload_n 0 dX1_putCarrier_9 rfl rfl ?_
    refine E_dup rfl dX1_putCarrier_10 ?_
    refine gf_X1_49 (mi h 5) hd.t rfl rfl dX1_putCarrier_11 ?_
    refine E_iconst 1 (by decide) dX1_putCarrier_14 ?_
    refine E_iadd dX1_putCarrier_15 ?_
    refine pf_X1_49 hd.t rfl dX1_putCarrier_16 ?_
    refine E_aload_n 0 dX1_putCarrier_19 rfl rfl ?_
    refine E_aload_n 0 dX1_putCarrier_20 rfl rfl ?_
    refine gf_X1_49 ((mi h 5) + 1) hd.t rfl (u2_s _ _ _ _) dX1_putCarrier_21 ?_
    refine E_iconst 1 (by decide) dX1_putCarrier_24 ?_
    refine E_isub dX1_putCarrier_25 ?_
    refine E_iload_n 1 dX1_putCarrier_26 rfl rfl ?_
    refine E_iload_n 2 dX1_putCarrier_27 rfl rfl ?_
    refine E_callV (c_X1_setCarrier l hfl h hd (u2 mi h 5 ((mi h 5) + 1)) ml (((mi h 5) + 1) - 1) a b n ((tI_sub (tI_add hn (show (1 : Int32).toInt = 1 from rfl) (by omega)) (show (1 : Int32).toInt = 1 from rfl) (by omega)).trans (by omega)) (n + 1) (((congrArg Int32.toInt (u2_s _ _ _ _)).trans (tI_add hn (show (1 : Int32).toInt = 1 from rfl) (by omega))).trans (by omega)) (by omega) (by omega)) cw_X1_72 (As := [.int (((mi h 5) + 1) - 1), .int a, .int b]) (st := []) wi_yX1_setCarrier we_yX1_setCarrier (ci := 1) (q := (RX1, TX1, 15)) rfl rfl (wl_atO hd.t) rfl ⟨Nat.le_of_ble_eq_true rfl, Nat.le_of_ble_eq_true rfl, Nat.le_of_ble_eq_true rfl, Nat.le_of_ble_eq_true rfl⟩ (Nat.le_of_ble_eq_true rfl) dX1_putCarrier_28 (fun _ _ h => h) rfl (kE0 ?_)
    refine E_vret rfl (Nat.le_of_ble_eq_true rfl) (Nat.le_of_ble_eq_true rfl) dX1_putCarrier_31 ?_
    exact ⟨rfl, rfl⟩
set_option maxHeartbeats 1600000 in
set_option maxRecDepth 100000 in
theorem c_X1_membersOf (l : Launch) (hfl : l.stackTraces = false) (h : Nat) (hd : isD h) (mi : MI) (ml : MJ) (c : Int32) (C : Int) (hC : c.toInt = C) (m : Nat) (hm : (mi h 8).toInt = (m : Int)) (lm : m ≤ 5) : Ct l yX1_membersOf (.code yX1_membersOf cX1_membersOf 2 (some .int)) 1 0 0 [.ref h, .int c] (wl mi ml) (QI (fun r mi9 ml9 => mi = mi9 ∧ ml = ml9 ∧ ((∃ k : Nat, C = (k : Int) ∧ k < m ∧ r = mi (h + 3) k) ∨ (¬ (0 ≤ C ∧ C < (m : Int)) ∧ r = 0)))) noX := by
  refine Ct_of (ini := false) pn_X1 hfl (fun h => nomatch h) (Nat.le_of_ble_eq_true rfl) ?_
  show E l RX1 cX1_membersOf 2 (some .int) false [] (rmE 1 0 0) (wl mi ml) (TgM (wl mi ml) 0 0 (QI (fun r mi9 ml9 => mi = mi9 ∧ ml = ml9 ∧ ((∃ k : Nat, C = (k : Int) ∧ k < m ∧ r = mi (h + 3) k) ∨ (¬ (0 ≤ C ∧ C < (m : Int)) ∧ r = 0)))) noX) 0 0 0 [(0, .ref h), (1, .int c)] [] (wl mi ml)
  refine E_aload_n 0 dX1_membersOf_0 rfl rfl ?_
  refine E_iload_n 1 dX1_membersOf_1 rfl rfl ?_
  refine E_callV (c_X1_hasMixer l hfl h hd mi ml c C (m : Int) hC hm) cw_X1_86 (As := [.int c]) (st := []) wi_yX1_hasMixer we_yX1_hasMixer (ci := 1) (q := (RX1, TX1, 15)) rfl rfl (wl_atO hd.t) rfl ⟨Nat.le_of_ble_eq_true rfl, Nat.le_of_ble_eq_true rfl, Nat.le_of_ble_eq_true rfl, Nat.le_of_ble_eq_true rfl⟩ (Nat.le_of_ble_eq_true rfl) dX1_membersOf_2 (fun _ _ h => h) rfl (kE ?_)
  refine B_eq 17 dX1_membersOf_5 (by decide) (fun c_5 => ?_) (fun c_5 => ?_)
  · skip
    refine E_iconst 0 (by decide) dX1_membersOf_17 ?_
    refine E_iret rfl (Nat.le_of_ble_eq_true rfl) (Nat.le_of_ble_eq_true rfl) dX1_membersOf_18 ?_
    exact okQI ⟨rfl, rfl, Or.inr ⟨by omega, rfl⟩⟩
  · skip
    obtain ⟨k, hk9⟩ : ∃ k : Nat, C = (k : Int) := ⟨C.toNat, by omega⟩
    refine E_aload_n 0 dX1_membersOf_8 rfl rfl ?_
    refine gf_X1_34 hd.t rfl dX1_membersOf_9 ?_
    refine E_iload_n 1 dX1_membersOf_12 rfl rfl ?_
    refine S_iald k (mi (h + 3) k) hd.a3 (hC.trans hk9) (by omega) rfl dX1_membersOf_13 ?_
    refine E_goto 18 dX1_membersOf_14 (by decide) ?_
    refine E_iret rfl (Nat.le_of_ble_eq_true rfl) (Nat.le_of_ble_eq_true rfl) dX1_membersOf_18 ?_
    exact okQI ⟨rfl, rfl, Or.inl ⟨k, hk9, by omega, rfl⟩⟩
set_option maxHeartbeats 1600000 in
set_option maxRecDepth 100000 in
theorem c_X1_setMembers (l : Launch) (hfl : l.stackTraces = false) (h : Nat) (hd : isD h) (mi : MI) (ml : MJ) (c a : Int32) (j : Nat) (hj : c.toInt = (j : Int)) (m : Nat) (hm : (mi h 8).toInt = (m : Int)) (lm : m ≤ 5) (hjm : j < m) : Ct l yX1_setMembers (.code yX1_setMembers cX1_setMembers 3 none) 1 0 0 [.ref h, .int c, .int a] (wl mi ml) (QP none (wl (u2 (u2 mi (h + 3) j a) h 10 0) ml)) noX := by
  refine Ct_of (ini := false) pn_X1 hfl (fun h => nomatch h) (Nat.le_of_ble_eq_true rfl) ?_
  show E l RX1 cX1_setMembers 3 none false [] (rmE 1 0 0) (wl mi ml) (TgM (wl mi ml) 0 0 (QP none (wl (u2 (u2 mi (h + 3) j a) h 10 0) ml)) noX) 0 0 0 [(0, .ref h), (1, .int c), (2, .int a)] [] (wl mi ml)
  refine E_aload_n 0 dX1_setMembers_0 rfl rfl ?_
  refine E_iload_n 1 dX1_setMembers_1 rfl rfl ?_
  refine E_callV (c_X1_hasMixer l hfl h hd mi ml c (j : Int) (m : Int) hj hm) cw_X1_86 (As := [.int c]) (st := []) wi_yX1_hasMixer we_yX1_hasMixer (ci := 1) (q := (RX1, TX1, 15)) rfl rfl (wl_atO hd.t) rfl ⟨Nat.le_of_ble_eq_true rfl, Nat.le_of_ble_eq_true rfl, Nat.le_of_ble_eq_true rfl, Nat.le_of_ble_eq_true rfl⟩ (Nat.le_of_ble_eq_true rfl) dX1_setMembers_2 (fun _ _ h => h) rfl (kE ?_)
  refine B_eq 15 dX1_setMembers_5 (by decide) (fun c_5 => ?_) (fun c_5 => ?_)
  · exact absurd (by omega) c_5
  · skip
    refine E_aload_n 0 dX1_setMembers_8 rfl rfl ?_
    refine gf_X1_34 hd.t rfl dX1_setMembers_9 ?_
    refine E_iload_n 1 dX1_setMembers_12 rfl rfl ?_
    refine E_iload_n 2 dX1_setMembers_13 rfl rfl ?_
    refine S_iast j hd.a3 (hj.trans (by omega)) (by omega) dX1_setMembers_14 ?_
    refine E_aload_n 0 dX1_setMembers_15 rfl rfl ?_
    refine E_iconst 0 (by decide) dX1_setMembers_16 ?_
    refine pf_X1_55 hd.t rfl dX1_setMembers_17 ?_
    refine E_vret rfl (Nat.le_of_ble_eq_true rfl) (Nat.le_of_ble_eq_true rfl) dX1_setMembers_20 ?_
    exact ⟨rfl, rfl⟩
set_option maxHeartbeats 1600000 in
set_option maxRecDepth 100000 in
theorem c_X1_putMixer (l : Launch) (hfl : l.stackTraces = false) (h : Nat) (hd : isD h) (mi : MI) (ml : MJ) (a : Int32) (m : Nat) (hm : (mi h 8).toInt = (m : Int)) (lm : m ≤ 5) (hlt : m < 5) : Ct l yX1_putMixer (.code yX1_putMixer cX1_putMixer 2 none) 2 0 0 [.ref h, .int a] (wl mi ml) (QP none (wl (u2 (u2 (u2 mi h 8 (mi h 8 + 1)) (h + 3) m a) h 10 0) ml)) noX := by
  refine Ct_of (ini := false) pn_X1 hfl (fun h => nomatch h) (Nat.le_of_ble_eq_true rfl) ?_
  show E l RX1 cX1_putMixer 2 none false [] (rmE 2 0 0) (wl mi ml) (TgM (wl mi ml) 0 0 (QP none (wl (u2 (u2 (u2 mi h 8 (mi h 8 + 1)) (h + 3) m a) h 10 0) ml)) noX) 0 0 0 [(0, .ref h), (1, .int a)] [] (wl mi ml)
  refine E_aload_n 0 dX1_putMixer_0 rfl rfl ?_
  refine gf_X1_52 (mi h 8) hd.t rfl rfl dX1_putMixer_1 ?_
  refine E_iconst 5 (by decide) dX1_putMixer_4 ?_
  refine Z_ge (m : Int) 5 hm (show (5 : Int32).toInt = 5 from rfl) 29 dX1_putMixer_5 (by decide) (fun c_5 => ?_) (fun c_5 => ?_)
  · exact absurd c_5 (by omega)
  · skip
    refine E_aload_n 0 dX1_putMixer_8 rfl rfl ?_
    refine E_dup rfl dX1_putMixer_9 ?_
    refine gf_X1_52 (mi h 8) hd.t rfl rfl dX1_putMixer_10 ?_
    refine E_iconst 1 (by decide) dX1_putMixer_13 ?_
    refine E_iadd dX1_putMixer_14 ?_
    refine pf_X1_52 hd.t rfl dX1_putMixer_15 ?_
    refine E_aload_n 0 dX1_putMixer_18 rfl rfl ?_
    refine E_aload_n 0 dX1_putMixer_19 rfl rfl ?_
    refine gf_X1_52 ((mi h 8) + 1) hd.t rfl (u2_s _ _ _ _) dX1_putMixer_20 ?_
    refine E_iconst 1 (by decide) dX1_putMixer_23 ?_
    refine E_isub dX1_putMixer_24 ?_
    refine E_iload_n 1 dX1_putMixer_25 rfl rfl ?_
    refine E_callV (c_X1_setMembers l hfl h hd (u2 mi h 8 ((mi h 8) + 1)) ml (((mi h 8) + 1) - 1) a m ((tI_sub (tI_add hm (show (1 : Int32).toInt = 1 from rfl) (by omega)) (show (1 : Int32).toInt = 1 from rfl) (by omega)).trans (by omega)) (m + 1) (((congrArg Int32.toInt (u2_s _ _ _ _)).trans (tI_add hm (show (1 : Int32).toInt = 1 from rfl) (by omega))).trans (by omega)) (by omega) (by omega)) cw_X1_82 (As := [.int (((mi h 8) + 1) - 1), .int a]) (st := []) wi_yX1_setMembers we_yX1_setMembers (ci := 1) (q := (RX1, TX1, 15)) rfl rfl (wl_atO hd.t) rfl ⟨Nat.le_of_ble_eq_true rfl, Nat.le_of_ble_eq_true rfl, Nat.le_of_ble_eq_true rfl, Nat.le_of_ble_eq_true rfl⟩ (Nat.le_of_ble_eq_true rfl) dX1_putMixer_26 (fun _ _ h => h) rfl (kE0 ?_)
    refine E_vret rfl (Nat.le_of_ble_eq_true rfl) (Nat.le_of_ble_eq_true rfl) dX1_putMixer_29 ?_
    exact ⟨rfl, rfl⟩
end DS2
