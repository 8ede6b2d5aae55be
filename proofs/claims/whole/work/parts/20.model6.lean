section MO6
set_option maxHeartbeats 1600000 in
set_option maxRecDepth 100000 in
theorem c_X6_level (l : Launch) (hfl : l.stackTraces = false) (mi : MI) (ml : MJ) (K : Nat) (L3 L5 : Int) (rc rl : Nat → Int) (N : Nat) (hset : SetM mi (K, L3, L5, rc, rl)) (hrow : RowM mi (K, L3, L5, rc, rl) N) (hN : N ≤ 12) (xk xa xb xc : Int32) (kd a b c : Nat) (hk : xk.toInt = (kd : Int)) (hxa : xa.toInt = (a : Int)) (hxb : xb.toInt = (b : Int)) (hxc : xc.toInt = (c : Int)) (hk3 : kd < 3) (ha : a < N) (hb : b < N) (hc : c < N) : Ct l yX6_level (.code yX6_level cX6_level 5 (some .int)) 0 0 0 [.ref 61, .int xk, .int xa, .int xb, .int xc] (wl mi ml) (QI (fun r mi9 ml9 => mi = mi9 ∧ ml = ml9 ∧ r.toInt = pLv (K, L3, L5, rc, rl) kd a b c)) noX := by
  refine Ct_of (ini := false) pn_X6 hfl (fun h => nomatch h) (Nat.le_of_ble_eq_true rfl) ?_
  show E l RX6 cX6_level 5 (some .int) false [] (rmE 0 0 0) (wl mi ml) (TgM (wl mi ml) 0 0 (QI (fun r mi9 ml9 => mi = mi9 ∧ ml = ml9 ∧ r.toInt = pLv (K, L3, L5, rc, rl) kd a b c)) noX) 0 0 0 [(0, .ref 61), (1, .int xk), (2, .int xa), (3, .int xb), (4, .int xc)] [] (wl mi ml)
  have ba := hrow a ha
  have bb := hrow b hb
  have bc := hrow c hc
  have bs := hset
  simp only [SetM] at bs
  simp only [] at ba bb bc
  refine E_iload_n 1 dX6_level_0 rfl rfl ?_
  refine E_iconst 2 (by decide) dX6_level_1 ?_
  refine Z_ne (kd : Int) 2 hk (show (2 : Int32).toInt = 2 from rfl) 30 dX6_level_2 (by decide) (fun c_2 => ?_) (fun c_2 => ?_)
  · skip
    refine E_aload_n 0 dX6_level_30 rfl rfl ?_
    refine gf_X6_22 tw_61 rfl dX6_level_31 ?_
    refine E_iload_n 2 dX6_level_34 rfl rfl ?_
    refine S_iald a (mi 66 a) tw_66 (hxa.trans (by omega)) (by omega) rfl dX6_level_35 ?_
    refine E_aload_n 0 dX6_level_36 rfl rfl ?_
    refine gf_X6_22 tw_61 rfl dX6_level_37 ?_
    refine E_iload_n 3 dX6_level_40 rfl rfl ?_
    refine S_iald b (mi 66 b) tw_66 (hxb.trans (by omega)) (by omega) rfl dX6_level_41 ?_
    refine E_iadd dX6_level_42 ?_
    refine E_aload_n 0 dX6_level_43 rfl rfl ?_
    refine gf_X6_22 tw_61 rfl dX6_level_44 ?_
    refine E_iload_n 1 dX6_level_47 rfl rfl ?_
    refine Y_ne (kd : Int) hk 55 dX6_level_48 (by decide) (fun c_48 => ?_) (fun c_48 => ?_)
    · skip
      refine E_iload 4 dX6_level_55 rfl ?_
      refine S_iald c (mi 66 c) tw_66 (hxc.trans (by omega)) (by omega) rfl dX6_level_57 ?_
      refine E_iadd dX6_level_58 ?_
      refine E_aload_n 0 dX6_level_59 rfl rfl ?_
      refine gf_X6_7 tw_61 rfl dX6_level_60 ?_
      refine E_iconst 1 (by decide) dX6_level_63 ?_
      refine S_iald 1 (mi 62 1) tw_62 rfl (by decide) rfl dX6_level_64 ?_
      refine E_isub dX6_level_65 ?_
      refine E_iret rfl (Nat.le_of_ble_eq_true rfl) (Nat.le_of_ble_eq_true rfl) dX6_level_66 ?_
      exact okQI ⟨rfl, rfl, (by first | rw [pLv_0 (by omega)]; exact (tI_sub (tI_add (tI_add (show (mi 66 a).toInt = rl a from (hrow a ha).2.1) (show (mi 66 b).toInt = rl b from (hrow b hb).2.1) (by omega)) (show (mi 66 c).toInt = rl c from (hrow c hc).2.1) (by omega)) (show (mi 62 1).toInt = L3 from hset.2.1.1) (by omega)) | rw [pLv_1 (by omega) (by omega)]; exact (tI_sub (tI_add (tI_add (show (mi 66 a).toInt = rl a from (hrow a ha).2.1) (show (mi 66 b).toInt = rl b from (hrow b hb).2.1) (by omega)) (show (mi 66 c).toInt = rl c from (hrow c hc).2.1) (by omega)) (show (mi 62 1).toInt = L3 from hset.2.1.1) (by omega)))⟩
    · skip
      refine E_iload_n 2 dX6_level_51 rfl rfl ?_
      refine E_goto 57 dX6_level_52 (by decide) ?_
      refine S_iald a (mi 66 a) tw_66 (hxa.trans (by omega)) (by omega) rfl dX6_level_57 ?_
      refine E_iadd dX6_level_58 ?_
      refine E_aload_n 0 dX6_level_59 rfl rfl ?_
      refine gf_X6_7 tw_61 rfl dX6_level_60 ?_
      refine E_iconst 1 (by decide) dX6_level_63 ?_
      refine S_iald 1 (mi 62 1) tw_62 rfl (by decide) rfl dX6_level_64 ?_
      refine E_isub dX6_level_65 ?_
      refine E_iret rfl (Nat.le_of_ble_eq_true rfl) (Nat.le_of_ble_eq_true rfl) dX6_level_66 ?_
      exact okQI ⟨rfl, rfl, (by first | rw [pLv_0 (by omega)]; exact (tI_sub (tI_add (tI_add (show (mi 66 a).toInt = rl a from (hrow a ha).2.1) (show (mi 66 b).toInt = rl b from (hrow b hb).2.1) (by omega)) (show (mi 66 a).toInt = rl a from (hrow a ha).2.1) (by omega)) (show (mi 62 1).toInt = L3 from hset.2.1.1) (by omega)) | rw [pLv_1 (by omega) (by omega)]; exact (tI_sub (tI_add (tI_add (show (mi 66 a).toInt = rl a from (hrow a ha).2.1) (show (mi 66 b).toInt = rl b from (hrow b hb).2.1) (by omega)) (show (mi 66 a).toInt = rl a from (hrow a ha).2.1) (by omega)) (show (mi 62 1).toInt = L3 from hset.2.1.1) (by omega)))⟩
  · skip
    refine E_iconst 3 (by decide) dX6_level_5 ?_
    refine E_aload_n 0 dX6_level_6 rfl rfl ?_
    refine gf_X6_22 tw_61 rfl dX6_level_7 ?_
    refine E_iload_n 2 dX6_level_10 rfl rfl ?_
    refine S_iald a (mi 66 a) tw_66 (hxa.trans (by omega)) (by omega) rfl dX6_level_11 ?_
    refine E_imul dX6_level_12 ?_
    refine E_iconst 2 (by decide) dX6_level_13 ?_
    refine E_aload_n 0 dX6_level_14 rfl rfl ?_
    refine gf_X6_22 tw_61 rfl dX6_level_15 ?_
    refine E_iload_n 3 dX6_level_18 rfl rfl ?_
    refine S_iald b (mi 66 b) tw_66 (hxb.trans (by omega)) (by omega) rfl dX6_level_19 ?_
    refine E_imul dX6_level_20 ?_
    refine E_iadd dX6_level_21 ?_
    refine E_aload_n 0 dX6_level_22 rfl rfl ?_
    refine gf_X6_7 tw_61 rfl dX6_level_23 ?_
    refine E_iconst 2 (by decide) dX6_level_26 ?_
    refine S_iald 2 (mi 62 2) tw_62 rfl (by decide) rfl dX6_level_27 ?_
    refine E_isub dX6_level_28 ?_
    refine E_iret rfl (Nat.le_of_ble_eq_true rfl) (Nat.le_of_ble_eq_true rfl) dX6_level_29 ?_
    exact okQI ⟨rfl, rfl, by rw [pLv_2 (by omega)]; exact (tI_sub (tI_add (tI_mul (show (3 : Int32).toInt = 3 from rfl) (show (mi 66 a).toInt = rl a from (hrow a ha).2.1) (by omega)) (tI_mul (show (2 : Int32).toInt = 2 from rfl) (show (mi 66 b).toInt = rl b from (hrow b hb).2.1) (by omega)) (by omega)) (show (mi 62 2).toInt = L5 from hset.2.2.1) (by omega))⟩
set_option maxHeartbeats 1600000 in
set_option maxRecDepth 100000 in
theorem c_X6_falls (l : Launch) (hfl : l.stackTraces = false) (mi : MI) (ml : MJ) (K : Nat) (L3 L5 : Int) (rc rl : Nat → Int) (N : Nat) (hset : SetM mi (K, L3, L5, rc, rl)) (hrow : RowM mi (K, L3, L5, rc, rl) N) (hN : N ≤ 12) (xk xa xb xc : Int32) (kd a b c : Nat) (hk : xk.toInt = (kd : Int)) (hxa : xa.toInt = (a : Int)) (hxb : xb.toInt = (b : Int)) (hxc : xc.toInt = (c : Int)) (hk3 : kd < 3) (ha : a < N) (hb : b < N) (hc : c < N) : Ct l yX6_falls (.code yX6_falls cX6_falls 6 (some .int)) 2 0 0 [.ref 61, .int xk, .int xa, .int xb, .int xc] (wl mi ml) (QI (fun r mi9 ml9 => mi = mi9 ∧ ml = ml9 ∧ ((Sg (K, L3, L5, rc, rl) kd a b c ∧ r.toInt = pCh (K, L3, L5, rc, rl) kd a b c) ∨ (¬ Sg (K, L3, L5, rc, rl) kd a b c ∧ r = -1)))) noX := by
  refine Ct_of (ini := false) pn_X6 hfl (fun h => nomatch h) (Nat.le_of_ble_eq_true rfl) ?_
  show E l RX6 cX6_falls 6 (some .int) false [] (rmE 2 0 0) (wl mi ml) (TgM (wl mi ml) 0 0 (QI (fun r mi9 ml9 => mi = mi9 ∧ ml = ml9 ∧ ((Sg (K, L3, L5, rc, rl) kd a b c ∧ r.toInt = pCh (K, L3, L5, rc, rl) kd a b c) ∨ (¬ Sg (K, L3, L5, rc, rl) kd a b c ∧ r = -1)))) noX) 0 0 0 [(0, .ref 61), (1, .int xk), (2, .int xa), (3, .int xb), (4, .int xc)] [] (wl mi ml)
  have ba := hrow a ha
  have bb := hrow b hb
  have bc := hrow c hc
  have bs := hset
  simp only [SetM] at bs
  simp only [] at ba bb bc
  refine E_iload_n 1 dX6_falls_0 rfl rfl ?_
  refine Y_ne (kd : Int) hk 22 dX6_falls_1 (by decide) (fun c_1 => ?_) (fun c_1 => ?_)
  · skip
    refine E_iload_n 1 dX6_falls_22 rfl rfl ?_
    refine E_iconst 1 (by decide) dX6_falls_23 ?_
    refine Z_ne (kd : Int) 1 hk (show (1 : Int32).toInt = 1 from rfl) 51 dX6_falls_24 (by decide) (fun c_24 => ?_) (fun c_24 => ?_)
    · skip
      refine E_iconst 3 (by decide) dX6_falls_51 ?_
      refine E_aload_n 0 dX6_falls_52 rfl rfl ?_
      refine gf_X6_19 tw_61 rfl dX6_falls_53 ?_
      refine E_iload_n 2 dX6_falls_56 rfl rfl ?_
      refine S_iald a (mi 65 a) tw_65 (hxa.trans (by omega)) (by omega) rfl dX6_falls_57 ?_
      refine E_imul dX6_falls_58 ?_
      refine E_iconst 2 (by decide) dX6_falls_59 ?_
      refine E_aload_n 0 dX6_falls_60 rfl rfl ?_
      refine gf_X6_19 tw_61 rfl dX6_falls_61 ?_
      refine E_iload_n 3 dX6_falls_64 rfl rfl ?_
      refine S_iald b (mi 65 b) tw_65 (hxb.trans (by omega)) (by omega) rfl dX6_falls_65 ?_
      refine E_imul dX6_falls_66 ?_
      refine E_isub dX6_falls_67 ?_
      refine E_istore [(5, .int ((3 * (mi 65 a)) - (2 * (mi 65 b)))), (0, .ref 61), (1, .int xk), (2, .int xa), (3, .int xb), (4, .int xc)] dX6_falls_68 (by decide) rfl ?_
      refine E_iload 0 dX6_falls_70 rfl ?_
      refine E_callS (c_X6_isChannel l hfl mi ml ((3 * (mi 65 a)) - (2 * (mi 65 b))) ((3 * (rc a)) - (2 * (rc b))) (tI_sub (tI_mul (show (3 : Int32).toInt = 3 from rfl) (show (mi 65 a).toInt = rc a from (hrow a ha).1.1) (by omega)) (tI_mul (show (2 : Int32).toInt = 2 from rfl) (show (mi 65 b).toInt = rc b from (hrow b hb).1.1) (by omega)) (by omega))) cw_X6_61 (As := [.int ((3 * (mi 65 a)) - (2 * (mi 65 b)))]) (st := []) ws_yX6_isChannel rfl ⟨Nat.le_of_ble_eq_true rfl, Nat.le_of_ble_eq_true rfl, Nat.le_of_ble_eq_true rfl, Nat.le_of_ble_eq_true rfl⟩ (Nat.le_of_ble_eq_true rfl) dX6_falls_72 (fun _ _ h => h) rfl (kE ?_)
      refine B_eq 108 dX6_falls_75 (by decide) (fun c_75 => ?_) (fun c_75 => ?_)
      · skip
        refine E_iconst (-1) (by decide) dX6_falls_108 ?_
        refine E_iret rfl (Nat.le_of_ble_eq_true rfl) (Nat.le_of_ble_eq_true rfl) dX6_falls_109 ?_
        have hp9 : pCh (K, L3, L5, rc, rl) kd a b c = ((3 * (rc a)) - (2 * (rc b))) := by first | exact pCh_0 (by omega) | exact pCh_1 (by omega) | exact pCh_2 (by omega) (by omega)
        exact okQI ⟨rfl, rfl, Or.inr ⟨by first | exact fun q => c_75 (hp9 ▸ q.1) | exact fun q => c_88 q.2.1 | exact fun q => absurd q.2.2 (by omega), rfl⟩⟩
      · skip
        refine E_aload_n 1 dX6_falls_78 rfl rfl ?_
        refine gf_X6_7 tw_61 rfl dX6_falls_79 ?_
        refine E_iconst 0 (by decide) dX6_falls_82 ?_
        refine S_iald 0 (mi 62 0) tw_62 rfl (by decide) rfl dX6_falls_83 ?_
        refine E_iload_n 2 dX6_falls_84 rfl rfl ?_
        refine E_callS (c_X6_has l hfl mi ml (mi 62 0) xk K kd ((show (mi 62 0).toInt = (K : Int) from hset.1.1).trans (by omega)) (hk.trans (by omega)) (by omega) (by omega)) cw_X6_85 (As := [.int (mi 62 0), .int xk]) (st := []) ws_yX6_has rfl ⟨Nat.le_of_ble_eq_true rfl, Nat.le_of_ble_eq_true rfl, Nat.le_of_ble_eq_true rfl, Nat.le_of_ble_eq_true rfl⟩ (Nat.le_of_ble_eq_true rfl) dX6_falls_85 (fun _ _ h => h) rfl (kE ?_)
        refine B_eq 108 dX6_falls_88 (by decide) (fun c_88 => ?_) (fun c_88 => ?_)
        · skip
          refine E_iconst (-1) (by decide) dX6_falls_108 ?_
          refine E_iret rfl (Nat.le_of_ble_eq_true rfl) (Nat.le_of_ble_eq_true rfl) dX6_falls_109 ?_
          have hp9 : pCh (K, L3, L5, rc, rl) kd a b c = ((3 * (rc a)) - (2 * (rc b))) := by first | exact pCh_0 (by omega) | exact pCh_1 (by omega) | exact pCh_2 (by omega) (by omega)
          exact okQI ⟨rfl, rfl, Or.inr ⟨by first | exact fun q => c_75 (hp9 ▸ q.1) | exact fun q => c_88 q.2.1 | exact fun q => absurd q.2.2 (by omega), rfl⟩⟩
        · skip
          refine E_aload_n 1 dX6_falls_91 rfl rfl ?_
          refine E_iload_n 2 dX6_falls_92 rfl rfl ?_
          refine E_iload_n 3 dX6_falls_93 rfl rfl ?_
          refine E_iload_n 4 dX6_falls_94 rfl rfl ?_
          refine E_iload 5 dX6_falls_95 rfl ?_
          refine E_callV (c_X6_level l hfl mi ml K L3 L5 rc rl N hset hrow hN xk xa xb xc kd a b c (hk.trans (by omega)) (hxa.trans (by omega)) (hxb.trans (by omega)) (hxc.trans (by omega)) (by omega) (by omega) (by omega) (by omega)) cw_X6_88 (As := [.int xk, .int xa, .int xb, .int xc]) (st := []) wi_yX6_level we_yX6_level (ci := 6) (q := (RX6, TX6, 23)) rfl rfl (wl_atO tw_61) rfl ⟨Nat.le_of_ble_eq_true rfl, Nat.le_of_ble_eq_true rfl, Nat.le_of_ble_eq_true rfl, Nat.le_of_ble_eq_true rfl⟩ (Nat.le_of_ble_eq_true rfl) dX6_falls_97 (fun _ _ h => h) rfl (kI (fun r_97 mi_97 ml_97 h_97 => ?_))
          obtain ⟨rfl, rfl, hv_97⟩ := h_97
          refine Y_lt (pLv (K, L3, L5, rc, rl) kd a b c) hv_97 108 dX6_falls_100 (by decide) (fun c_100 => ?_) (fun c_100 => ?_)
          · skip
            refine E_iconst (-1) (by decide) dX6_falls_108 ?_
            refine E_iret rfl (Nat.le_of_ble_eq_true rfl) (Nat.le_of_ble_eq_true rfl) dX6_falls_109 ?_
            have hp9 : pCh (K, L3, L5, rc, rl) kd a b c = ((3 * (rc a)) - (2 * (rc b))) := by first | exact pCh_0 (by omega) | exact pCh_1 (by omega) | exact pCh_2 (by omega) (by omega)
            exact okQI ⟨rfl, rfl, Or.inr ⟨by first | exact fun q => c_75 (hp9 ▸ q.1) | exact fun q => c_88 q.2.1 | exact fun q => absurd q.2.2 (by omega), rfl⟩⟩
          · skip
            refine E_iload 0 dX6_falls_103 rfl ?_
            refine E_goto 109 dX6_falls_105 (by decide) ?_
            refine E_iret rfl (Nat.le_of_ble_eq_true rfl) (Nat.le_of_ble_eq_true rfl) dX6_falls_109 ?_
            have hp9 : pCh (K, L3, L5, rc, rl) kd a b c = ((3 * (rc a)) - (2 * (rc b))) := by first | exact pCh_0 (by omega) | exact pCh_1 (by omega) | exact pCh_2 (by omega) (by omega)
            exact okQI ⟨rfl, rfl, Or.inl ⟨⟨hp9.symm ▸ c_75, c_88, c_100⟩, (tI_sub (tI_mul (show (3 : Int32).toInt = 3 from rfl) (show (mi 65 a).toInt = rc a from (hrow a ha).1.1) (by omega)) (tI_mul (show (2 : Int32).toInt = 2 from rfl) (show (mi 65 b).toInt = rc b from (hrow b hb).1.1) (by omega)) (by omega)).trans hp9.symm⟩⟩
    · skip
      refine E_aload_n 0 dX6_falls_27 rfl rfl ?_
      refine gf_X6_19 tw_61 rfl dX6_falls_28 ?_
      refine E_iload_n 2 dX6_falls_31 rfl rfl ?_
      refine S_iald a (mi 65 a) tw_65 (hxa.trans (by omega)) (by omega) rfl dX6_falls_32 ?_
      refine E_aload_n 0 dX6_falls_33 rfl rfl ?_
      refine gf_X6_19 tw_61 rfl dX6_falls_34 ?_
      refine E_iload_n 3 dX6_falls_37 rfl rfl ?_
      refine S_iald b (mi 65 b) tw_65 (hxb.trans (by omega)) (by omega) rfl dX6_falls_38 ?_
      refine E_iadd dX6_falls_39 ?_
      refine E_aload_n 0 dX6_falls_40 rfl rfl ?_
      refine gf_X6_19 tw_61 rfl dX6_falls_41 ?_
      refine E_iload 4 dX6_falls_44 rfl ?_
      refine S_iald c (mi 65 c) tw_65 (hxc.trans (by omega)) (by omega) rfl dX6_falls_46 ?_
      refine E_isub dX6_falls_47 ?_
      refine E_goto 68 dX6_falls_48 (by decide) ?_
      refine E_istore [(5, .int (((mi 65 a) + (mi 65 b)) - (mi 65 c))), (0, .ref 61), (1, .int xk), (2, .int xa), (3, .int xb), (4, .int xc)] dX6_falls_68 (by decide) rfl ?_
      refine E_iload 0 dX6_falls_70 rfl ?_
      refine E_callS (c_X6_isChannel l hfl mi ml (((mi 65 a) + (mi 65 b)) - (mi 65 c)) (((rc a) + (rc b)) - (rc c)) (tI_sub (tI_add (show (mi 65 a).toInt = rc a from (hrow a ha).1.1) (show (mi 65 b).toInt = rc b from (hrow b hb).1.1) (by omega)) (show (mi 65 c).toInt = rc c from (hrow c hc).1.1) (by omega))) cw_X6_61 (As := [.int (((mi 65 a) + (mi 65 b)) - (mi 65 c))]) (st := []) ws_yX6_isChannel rfl ⟨Nat.le_of_ble_eq_true rfl, Nat.le_of_ble_eq_true rfl, Nat.le_of_ble_eq_true rfl, Nat.le_of_ble_eq_true rfl⟩ (Nat.le_of_ble_eq_true rfl) dX6_falls_72 (fun _ _ h => h) rfl (kE ?_)
      refine B_eq 108 dX6_falls_75 (by decide) (fun c_75 => ?_) (fun c_75 => ?_)
      · skip
        refine E_iconst (-1) (by decide) dX6_falls_108 ?_
        refine E_iret rfl (Nat.le_of_ble_eq_true rfl) (Nat.le_of_ble_eq_true rfl) dX6_falls_109 ?_
        have hp9 : pCh (K, L3, L5, rc, rl) kd a b c = (((rc a) + (rc b)) - (rc c)) := by first | exact pCh_0 (by omega) | exact pCh_1 (by omega) | exact pCh_2 (by omega) (by omega)
        exact okQI ⟨rfl, rfl, Or.inr ⟨by first | exact fun q => c_75 (hp9 ▸ q.1) | exact fun q => c_88 q.2.1 | exact fun q => absurd q.2.2 (by omega), rfl⟩⟩
      · skip
        refine E_aload_n 1 dX6_falls_78 rfl rfl ?_
        refine gf_X6_7 tw_61 rfl dX6_falls_79 ?_
        refine E_iconst 0 (by decide) dX6_falls_82 ?_
        refine S_iald 0 (mi 62 0) tw_62 rfl (by decide) rfl dX6_falls_83 ?_
        refine E_iload_n 2 dX6_falls_84 rfl rfl ?_
        refine E_callS (c_X6_has l hfl mi ml (mi 62 0) xk K kd ((show (mi 62 0).toInt = (K : Int) from hset.1.1).trans (by omega)) (hk.trans (by omega)) (by omega) (by omega)) cw_X6_85 (As := [.int (mi 62 0), .int xk]) (st := []) ws_yX6_has rfl ⟨Nat.le_of_ble_eq_true rfl, Nat.le_of_ble_eq_true rfl, Nat.le_of_ble_eq_true rfl, Nat.le_of_ble_eq_true rfl⟩ (Nat.le_of_ble_eq_true rfl) dX6_falls_85 (fun _ _ h => h) rfl (kE ?_)
        refine B_eq 108 dX6_falls_88 (by decide) (fun c_88 => ?_) (fun c_88 => ?_)
        · skip
          refine E_iconst (-1) (by decide) dX6_falls_108 ?_
          refine E_iret rfl (Nat.le_of_ble_eq_true rfl) (Nat.le_of_ble_eq_true rfl) dX6_falls_109 ?_
          have hp9 : pCh (K, L3, L5, rc, rl) kd a b c = (((rc a) + (rc b)) - (rc c)) := by first | exact pCh_0 (by omega) | exact pCh_1 (by omega) | exact pCh_2 (by omega) (by omega)
          exact okQI ⟨rfl, rfl, Or.inr ⟨by first | exact fun q => c_75 (hp9 ▸ q.1) | exact fun q => c_88 q.2.1 | exact fun q => absurd q.2.2 (by omega), rfl⟩⟩
        · skip
          refine E_aload_n 1 dX6_falls_91 rfl rfl ?_
          refine E_iload_n 2 dX6_falls_92 rfl rfl ?_
          refine E_iload_n 3 dX6_falls_93 rfl rfl ?_
          refine E_iload_n 4 dX6_falls_94 rfl rfl ?_
          refine E_iload 5 dX6_falls_95 rfl ?_
          refine E_callV (c_X6_level l hfl mi ml K L3 L5 rc rl N hset hrow hN xk xa xb xc kd a b c (hk.trans (by omega)) (hxa.trans (by omega)) (hxb.trans (by omega)) (hxc.trans (by omega)) (by omega) (by omega) (by omega) (by omega)) cw_X6_88 (As := [.int xk, .int xa, .int xb, .int xc]) (st := []) wi_yX6_level we_yX6_level (ci := 6) (q := (RX6, TX6, 23)) rfl rfl (wl_atO tw_61) rfl ⟨Nat.le_of_ble_eq_true rfl, Nat.le_of_ble_eq_true rfl, Nat.le_of_ble_eq_true rfl, Nat.le_of_ble_eq_true rfl⟩ (Nat.le_of_ble_eq_true rfl) dX6_falls_97 (fun _ _ h => h) rfl (kI (fun r_97 mi_97 ml_97 h_97 => ?_))
          obtain ⟨rfl, rfl, hv_97⟩ := h_97
          refine Y_lt (pLv (K, L3, L5, rc, rl) kd a b c) hv_97 108 dX6_falls_100 (by decide) (fun c_100 => ?_) (fun c_100 => ?_)
          · skip
            refine E_iconst (-1) (by decide) dX6_falls_108 ?_
            refine E_iret rfl (Nat.le_of_ble_eq_true rfl) (Nat.le_of_ble_eq_true rfl) dX6_falls_109 ?_
            have hp9 : pCh (K, L3, L5, rc, rl) kd a b c = (((rc a) + (rc b)) - (rc c)) := by first | exact pCh_0 (by omega) | exact pCh_1 (by omega) | exact pCh_2 (by omega) (by omega)
            exact okQI ⟨rfl, rfl, Or.inr ⟨by first | exact fun q => c_75 (hp9 ▸ q.1) | exact fun q => c_88 q.2.1 | exact fun q => absurd q.2.2 (by omega), rfl⟩⟩
          · skip
            refine E_iload 0 dX6_falls_103 rfl ?_
            refine E_goto 109 dX6_falls_105 (by decide) ?_
            refine E_iret rfl (Nat.le_of_ble_eq_true rfl) (Nat.le_of_ble_eq_true rfl) dX6_falls_109 ?_
            have hp9 : pCh (K, L3, L5, rc, rl) kd a b c = (((rc a) + (rc b)) - (rc c)) := by first | exact pCh_0 (by omega) | exact pCh_1 (by omega) | exact pCh_2 (by omega) (by omega)
            exact okQI ⟨rfl, rfl, Or.inl ⟨⟨hp9.symm ▸ c_75, c_88, c_100⟩, (tI_sub (tI_add (show (mi 65 a).toInt = rc a from (hrow a ha).1.1) (show (mi 65 b).toInt = rc b from (hrow b hb).1.1) (by omega)) (show (mi 65 c).toInt = rc c from (hrow c hc).1.1) (by omega)).trans hp9.symm⟩⟩
  · skip
    refine E_iconst 2 (by decide) dX6_falls_4 ?_
    refine E_aload_n 0 dX6_falls_5 rfl rfl ?_
    refine gf_X6_19 tw_61 rfl dX6_falls_6 ?_
    refine E_iload_n 2 dX6_falls_9 rfl rfl ?_
    refine S_iald a (mi 65 a) tw_65 (hxa.trans (by omega)) (by omega) rfl dX6_falls_10 ?_
    refine E_imul dX6_falls_11 ?_
    refine E_aload_n 0 dX6_falls_12 rfl rfl ?_
    refine gf_X6_19 tw_61 rfl dX6_falls_13 ?_
    refine E_iload_n 3 dX6_falls_16 rfl rfl ?_
    refine S_iald b (mi 65 b) tw_65 (hxb.trans (by omega)) (by omega) rfl dX6_falls_17 ?_
    refine E_isub dX6_falls_18 ?_
    refine E_goto 68 dX6_falls_19 (by decide) ?_
    refine E_istore [(5, .int ((2 * (mi 65 a)) - (mi 65 b))), (0, .ref 61), (1, .int xk), (2, .int xa), (3, .int xb), (4, .int xc)] dX6_falls_68 (by decide) rfl ?_
    refine E_iload 0 dX6_falls_70 rfl ?_
    refine E_callS (c_X6_isChannel l hfl mi ml ((2 * (mi 65 a)) - (mi 65 b)) ((2 * (rc a)) - (rc b)) (tI_sub (tI_mul (show (2 : Int32).toInt = 2 from rfl) (show (mi 65 a).toInt = rc a from (hrow a ha).1.1) (by omega)) (show (mi 65 b).toInt = rc b from (hrow b hb).1.1) (by omega))) cw_X6_61 (As := [.int ((2 * (mi 65 a)) - (mi 65 b))]) (st := []) ws_yX6_isChannel rfl ⟨Nat.le_of_ble_eq_true rfl, Nat.le_of_ble_eq_true rfl, Nat.le_of_ble_eq_true rfl, Nat.le_of_ble_eq_true rfl⟩ (Nat.le_of_ble_eq_true rfl) dX6_falls_72 (fun _ _ h => h) rfl (kE ?_)
    refine B_eq 108 dX6_falls_75 (by decide) (fun c_75 => ?_) (fun c_75 => ?_)
    · skip
      refine E_iconst (-1) (by decide) dX6_falls_108 ?_
      refine E_iret rfl (Nat.le_of_ble_eq_true rfl) (Nat.le_of_ble_eq_true rfl) dX6_falls_109 ?_
      have hp9 : pCh (K, L3, L5, rc, rl) kd a b c = ((2 * (rc a)) - (rc b)) := by first | exact pCh_0 (by omega) | exact pCh_1 (by omega) | exact pCh_2 (by omega) (by omega)
      exact okQI ⟨rfl, rfl, Or.inr ⟨by first | exact fun q => c_75 (hp9 ▸ q.1) | exact fun q => c_88 q.2.1 | exact fun q => absurd q.2.2 (by omega), rfl⟩⟩
    · skip
      refine E_aload_n 1 dX6_falls_78 rfl rfl ?_
      refine gf_X6_7 tw_61 rfl dX6_falls_79 ?_
      refine E_iconst 0 (by decide) dX6_falls_82 ?_
      refine S_iald 0 (mi 62 0) tw_62 rfl (by decide) rfl dX6_falls_83 ?_
      refine E_iload_n 2 dX6_falls_84 rfl rfl ?_
      refine E_callS (c_X6_has l hfl mi ml (mi 62 0) xk K kd ((show (mi 62 0).toInt = (K : Int) from hset.1.1).trans (by omega)) (hk.trans (by omega)) (by omega) (by omega)) cw_X6_85 (As := [.int (mi 62 0), .int xk]) (st := []) ws_yX6_has rfl ⟨Nat.le_of_ble_eq_true rfl, Nat.le_of_ble_eq_true rfl, Nat.le_of_ble_eq_true rfl, Nat.le_of_ble_eq_true rfl⟩ (Nat.le_of_ble_eq_true rfl) dX6_falls_85 (fun _ _ h => h) rfl (kE ?_)
      refine B_eq 108 dX6_falls_88 (by decide) (fun c_88 => ?_) (fun c_88 => ?_)
      · skip
        refine E_iconst (-1) (by decide) dX6_falls_108 ?_
        refine E_iret rfl (Nat.le_of_ble_eq_true rfl) (Nat.le_of_ble_eq_true rfl) dX6_falls_109 ?_
        have hp9 : pCh (K, L3, L5, rc, rl) kd a b c = ((2 * (rc a)) - (rc b)) := by first | exact pCh_0 (by omega) | exact pCh_1 (by omega) | exact pCh_2 (by omega) (by omega)
        exact okQI ⟨rfl, rfl, Or.inr ⟨by first | exact fun q => c_75 (hp9 ▸ q.1) | exact fun q => c_88 q.2.1 | exact fun q => absurd q.2.2 (by omega), rfl⟩⟩
      · skip
        refine E_aload_n 1 dX6_falls_91 rfl rfl ?_
        refine E_iload_n 2 dX6_falls_92 rfl rfl ?_
        refine E_iload_n 3 dX6_falls_93 rfl rfl ?_
        refine E_iload_n 4 dX6_falls_94 rfl rfl ?_
        refine E_iload 5 dX6_falls_95 rfl ?_
        refine E_callV (c_X6_level l hfl mi ml K L3 L5 rc rl N hset hrow hN xk xa xb xc kd a b c (hk.trans (by omega)) (hxa.trans (by omega)) (hxb.trans (by omega)) (hxc.trans (by omega)) (by omega) (by omega) (by omega) (by omega)) cw_X6_88 (As := [.int xk, .int xa, .int xb, .int xc]) (st := []) wi_yX6_level we_yX6_level (ci := 6) (q := (RX6, TX6, 23)) rfl rfl (wl_atO tw_61) rfl ⟨Nat.le_of_ble_eq_true rfl, Nat.le_of_ble_eq_true rfl, Nat.le_of_ble_eq_true rfl, Nat.le_of_ble_eq_true rfl⟩ (Nat.le_of_ble_eq_true rfl) dX6_falls_97 (fun _ _ h => h) rfl (kI (fun r_97 mi_97 ml_97 h_97 => ?_))
        obtain ⟨rfl, rfl, hv_97⟩ := h_97
        refine Y_lt (pLv (K, L3, L5, rc, rl) kd a b c) hv_97 108 dX6_falls_100 (by decide) (fun c_100 => ?_) (fun c_100 => ?_)
        · skip
          refine E_iconst (-1) (by decide) dX6_falls_108 ?_
          refine E_iret rfl (Nat.le_of_ble_eq_true rfl) (Nat.le_of_ble_eq_true rfl) dX6_falls_109 ?_
          have hp9 : pCh (K, L3, L5, rc, rl) kd a b c = ((2 * (rc a)) - (rc b)) := by first | exact pCh_0 (by omega) | exact pCh_1 (by omega) | exact pCh_2 (by omega) (by omega)
          exact okQI ⟨rfl, rfl, Or.inr ⟨by first | exact fun q => c_75 (hp9 ▸ q.1) | exact fun q => c_88 q.2.1 | exact fun q => absurd q.2.2 (by omega), rfl⟩⟩
        · skip
          refine E_iload 0 dX6_falls_103 rfl ?_
          refine E_goto 109 dX6_falls_105 (by decide) ?_
          refine E_iret rfl (Nat.le_of_ble_eq_true rfl) (Nat.le_of_ble_eq_true rfl) dX6_falls_109 ?_
          have hp9 : pCh (K, L3, L5, rc, rl) kd a b c = ((2 * (rc a)) - (rc b)) := by first | exact pCh_0 (by omega) | exact pCh_1 (by omega) | exact pCh_2 (by omega) (by omega)
          exact okQI ⟨rfl, rfl, Or.inl ⟨⟨hp9.symm ▸ c_75, c_88, c_100⟩, (tI_sub (tI_mul (show (2 : Int32).toInt = 2 from rfl) (show (mi 65 a).toInt = rc a from (hrow a ha).1.1) (by omega)) (show (mi 65 b).toInt = rc b from (hrow b hb).1.1) (by omega)).trans hp9.symm⟩⟩
set_option maxHeartbeats 1600000 in
set_option maxRecDepth 100000 in
theorem c_X6_lists (l : Launch) (hfl : l.stackTraces = false) (mi : MI) (ml : MJ) (K : Nat) (L3 L5 : Int) (rc rl : Nat → Int) (N : Nat) (hset : SetM mi (K, L3, L5, rc, rl)) (hrow : RowM mi (K, L3, L5, rc, rl) N) (hN : N ≤ 12) (xk xa xb xc : Int32) (kd a b c : Nat) (hk : xk.toInt = (kd : Int)) (hxa : xa.toInt = (a : Int)) (hxb : xb.toInt = (b : Int)) (hxc : xc.toInt = (c : Int)) (hk3 : kd < 3) (ha : a < N) (hb : b < N) (hc : c < N) (m : Nat) (hm : (mi 61 9).toInt = (m : Int)) (hm5 : m < 540) : Ct l yX6_lists (.code yX6_lists cX6_lists 7 none) 3 0 0 [.ref 61, .int xk, .int xa, .int xb, .int xc] (wl mi ml) (QV (fun mi9 ml9 => ml = ml9 ∧ ((¬ Sg (K, L3, L5, rc, rl) kd a b c ∧ mi = mi9) ∨ (Sg (K, L3, L5, rc, rl) kd a b c ∧ (Fr [61, 67] mi mi9 ∧ (∀ k, k ≠ 9 → mi9 61 k = mi 61 k) ∧ (mi9 61 9).toInt = (m : Int) + 1 ∧ (∀ k, k < 6 * m → mi9 67 k = mi 67 k) ∧ encq (K, L3, L5, rc, rl) (mi9 67) m (kd, a, b, c)))))) noX := by
  refine Ct_of (ini := false) pn_X6 hfl (fun h => nomatch h) (Nat.le_of_ble_eq_true rfl) ?_
  show E l RX6 cX6_lists 7 none false [] (rmE 3 0 0) (wl mi ml) (TgM (wl mi ml) 0 0 (QV (fun mi9 ml9 => ml = ml9 ∧ ((¬ Sg (K, L3, L5, rc, rl) kd a b c ∧ mi = mi9) ∨ (Sg (K, L3, L5, rc, rl) kd a b c ∧ (Fr [61, 67] mi mi9 ∧ (∀ k, k ≠ 9 → mi9 61 k = mi 61 k) ∧ (mi9 61 9).toInt = (m : Int) + 1 ∧ (∀ k, k < 6 * m → mi9 67 k = mi 67 k) ∧ encq (K, L3, L5, rc, rl) (mi9 67) m (kd, a, b, c)))))) noX) 0 0 0 [(0, .ref 61), (1, .int xk), (2, .int xa), (3, .int xb), (4, .int xc)] [] (wl mi ml)
  have ba := hrow a ha
  have bb := hrow b hb
  have bc := hrow c hc
  have bs := hset
  simp only [SetM] at bs
  simp only [] at ba bb bc
  refine E_aload_n 0 dX6_lists_0 rfl rfl ?_
  refine E_iload_n 1 dX6_lists_1 rfl rfl ?_
  refine E_iload_n 2 dX6_lists_2 rfl rfl ?_
  refine E_iload_n 3 dX6_lists_3 rfl rfl ?_
  refine E_iload 4 dX6_lists_4 rfl ?_
  refine E_callV (c_X6_falls l hfl mi ml K L3 L5 rc rl N hset hrow hN xk xa xb xc kd a b c (hk.trans (by omega)) (hxa.trans (by omega)) (hxb.trans (by omega)) (hxc.trans (by omega)) (by omega) (by omega) (by omega) (by omega)) cw_X6_92 (As := [.int xk, .int xa, .int xb, .int xc]) (st := []) wi_yX6_falls we_yX6_falls (ci := 6) (q := (RX6, TX6, 23)) rfl rfl (wl_atO tw_61) rfl ⟨Nat.le_of_ble_eq_true rfl, Nat.le_of_ble_eq_true rfl, Nat.le_of_ble_eq_true rfl, Nat.le_of_ble_eq_true rfl⟩ (Nat.le_of_ble_eq_true rfl) dX6_lists_6 (fun _ _ h => h) rfl (kI (fun r_6 mi_6 ml_6 h_6 => ?_))
  obtain ⟨rfl, rfl, hv_6⟩ := h_6
  refine E_istore [(5, .int r_6), (0, .ref 61), (1, .int xk), (2, .int xa), (3, .int xb), (4, .int xc)] dX6_lists_9 (by decide) rfl ?_
  refine E_iload 0 dX6_lists_11 rfl ?_
  refine E_iconst (-1) (by decide) dX6_lists_13 ?_
  refine Z_eq r_6.toInt (-1) rfl (show ((-1) : Int32).toInt = (-1) from rfl) 113 dX6_lists_14 (by decide) (fun c_14 => ?_) (fun c_14 => ?_)
  · skip
    refine E_vret rfl (Nat.le_of_ble_eq_true rfl) (Nat.le_of_ble_eq_true rfl) dX6_lists_113 ?_
    exact okQV ⟨rfl, Or.inl ⟨hv_6.elim (fun q => by have q2 := q.1.1.1; have q3 := q.2; omega) (fun q => q.1), rfl⟩⟩
  · skip
    obtain ⟨hsg, hch⟩ : Sg (K, L3, L5, rc, rl) kd a b c ∧ r_6.toInt = pCh (K, L3, L5, rc, rl) kd a b c := by
      rcases hv_6 with q | q
      · exact q
      · exact absurd (congrArg Int32.toInt q.2) c_14
    refine E_bipush 6 (by decide) dX6_lists_17 ?_
    refine E_aload_n 1 dX6_lists_19 rfl rfl ?_
    refine gf_X6_95 (mi 61 9) tw_61 rfl rfl dX6_lists_20 ?_
    refine E_imul dX6_lists_23 ?_
    have hat : (6 * mi 61 9).toInt = 6 * (m : Int) := tI_mul (show (6 : Int32).toInt = 6 from rfl) hm (by omega)
    refine E_istore [(6, .int (6 * (mi 61 9))), (5, .int r_6), (0, .ref 61), (1, .int xk), (2, .int xa), (3, .int xb), (4, .int xc)] dX6_lists_24 (by decide) rfl ?_
    refine E_aload_n 2 dX6_lists_26 rfl rfl ?_
    refine gf_X6_25 tw_61 rfl dX6_lists_27 ?_
    refine E_iload 0 dX6_lists_30 rfl ?_
    refine E_iload_n 3 dX6_lists_32 rfl rfl ?_
    refine S_iast (6 * m) tw_67 (hat.trans (by omega)) (by omega) dX6_lists_33 ?_
    refine E_aload_n 2 dX6_lists_34 rfl rfl ?_
    refine gf_X6_25 tw_61 rfl dX6_lists_35 ?_
    refine E_iload 0 dX6_lists_38 rfl ?_
    refine E_iconst 1 (by decide) dX6_lists_40 ?_
    refine E_iadd dX6_lists_41 ?_
    refine E_iload_n 4 dX6_lists_42 rfl rfl ?_
    refine S_iast (6 * m + 1) tw_67 ((tI_add hat (show (1 : Int32).toInt = 1 from rfl) (by omega)).trans (by omega)) (by omega) dX6_lists_43 ?_
    refine E_aload_n 2 dX6_lists_44 rfl rfl ?_
    refine gf_X6_25 tw_61 rfl dX6_lists_45 ?_
    refine E_iload 0 dX6_lists_48 rfl ?_
    refine E_iconst 2 (by decide) dX6_lists_50 ?_
    refine E_iadd dX6_lists_51 ?_
    refine E_iload_n 5 dX6_lists_52 rfl rfl ?_
    refine S_iast (6 * m + 2) tw_67 ((tI_add hat (show (2 : Int32).toInt = 2 from rfl) (by omega)).trans (by omega)) (by omega) dX6_lists_53 ?_
    refine E_aload_n 2 dX6_lists_54 rfl rfl ?_
    refine gf_X6_25 tw_61 rfl dX6_lists_55 ?_
    refine E_iload 0 dX6_lists_58 rfl ?_
    refine E_iconst 3 (by decide) dX6_lists_60 ?_
    refine E_iadd dX6_lists_61 ?_
    refine E_iload_n 3 dX6_lists_62 rfl rfl ?_
    refine E_iconst 1 (by decide) dX6_lists_63 ?_
    refine Z_ne (kd : Int) 1 hk (show (1 : Int32).toInt = 1 from rfl) 72 dX6_lists_64 (by decide) (fun c_64 => ?_) (fun c_64 => ?_)
    · skip
      refine E_iconst (-1) (by decide) dX6_lists_72 ?_
      refine S_iast (6 * m + 3) tw_67 ((tI_add hat (show (3 : Int32).toInt = 3 from rfl) (by omega)).trans (by omega)) (by omega) dX6_lists_73 ?_
      refine E_aload_n 2 dX6_lists_74 rfl rfl ?_
      refine gf_X6_25 tw_61 rfl dX6_lists_75 ?_
      refine E_iload 0 dX6_lists_78 rfl ?_
      refine E_iconst 4 (by decide) dX6_lists_80 ?_
      refine E_iadd dX6_lists_81 ?_
      refine E_iload 1 dX6_lists_82 rfl ?_
      refine S_iast (6 * m + 4) tw_67 ((tI_add hat (show (4 : Int32).toInt = 4 from rfl) (by omega)).trans (by omega)) (by omega) dX6_lists_84 ?_
      refine E_aload_n 2 dX6_lists_85 rfl rfl ?_
      refine gf_X6_25 tw_61 rfl dX6_lists_86 ?_
      refine E_iload 0 dX6_lists_89 rfl ?_
      refine E_iconst 5 (by decide) dX6_lists_91 ?_
      refine E_iadd dX6_lists_92 ?_
      refine E_aload_n 2 dX6_lists_93 rfl rfl ?_
      refine E_iload_n 3 dX6_lists_94 rfl rfl ?_
      refine E_iload_n 4 dX6_lists_95 rfl rfl ?_
      refine E_iload_n 5 dX6_lists_96 rfl rfl ?_
      refine E_iload 6 dX6_lists_97 rfl ?_
      refine E_callV (c_X6_level l hfl (u2 (u2 (u2 (u2 (u2 mi 67 (6 * m) xk) 67 (6 * m + 1) xa) 67 (6 * m + 2) xb) 67 (6 * m + 3) (-1)) 67 (6 * m + 4) r_6) ml K L3 L5 rc rl N (hset.c ((u2_p (by decide)).trans ((u2_p (by decide)).trans ((u2_p (by decide)).trans ((u2_p (by decide)).trans (u2_p (by decide))))))) (hrow.c ((u2_p (by decide)).trans ((u2_p (by decide)).trans ((u2_p (by decide)).trans ((u2_p (by decide)).trans (u2_p (by decide)))))) ((u2_p (by decide)).trans ((u2_p (by decide)).trans ((u2_p (by decide)).trans ((u2_p (by decide)).trans (u2_p (by decide))))))) hN xk xa xb xc kd a b c (hk.trans (by omega)) (hxa.trans (by omega)) (hxb.trans (by omega)) (hxc.trans (by omega)) (by omega) (by omega) (by omega) (by omega)) cw_X6_88 (As := [.int xk, .int xa, .int xb, .int xc]) (st := [.int ((6 * (mi 61 9)) + 5), .ref 67]) wi_yX6_level we_yX6_level (ci := 6) (q := (RX6, TX6, 23)) rfl rfl (wl_atO tw_61) rfl ⟨Nat.le_of_ble_eq_true rfl, Nat.le_of_ble_eq_true rfl, Nat.le_of_ble_eq_true rfl, Nat.le_of_ble_eq_true rfl⟩ (Nat.le_of_ble_eq_true rfl) dX6_lists_99 (fun _ _ h => h) rfl (kI (fun r_99 mi_99 ml_99 h_99 => ?_))
      obtain ⟨rfl, rfl, hv_99⟩ := h_99
      refine S_iast (6 * m + 5) tw_67 ((tI_add hat (show (5 : Int32).toInt = 5 from rfl) (by omega)).trans (by omega)) (by omega) dX6_lists_102 ?_
      refine E_aload_n 2 dX6_lists_103 rfl rfl ?_
      refine E_dup rfl dX6_lists_104 ?_
      refine gf_X6_95 (mi 61 9) tw_61 rfl ((u2_n (by omega)).trans ((u2_n (by omega)).trans ((u2_n (by omega)).trans ((u2_n (by omega)).trans ((u2_n (by omega)).trans ((u2_n (by omega)).trans rfl)))))) dX6_lists_105 ?_
      refine E_iconst 1 (by decide) dX6_lists_108 ?_
      refine E_iadd dX6_lists_109 ?_
      refine pf_X6_95 tw_61 rfl dX6_lists_110 ?_
      refine E_vret rfl (Nat.le_of_ble_eq_true rfl) (Nat.le_of_ble_eq_true rfl) dX6_lists_113 ?_
      refine okQV ⟨rfl, Or.inr ⟨hsg, (((((((Fr.rfl'.u (by decide)).u (by decide)).u (by decide)).u (by decide)).u (by decide)).u (by decide)).u (by decide)), fun k hk => ?_, ?_, fun k hk => ?_, ?_⟩⟩
      · rw [u2_n (by omega), u2_n (by omega), u2_n (by omega), u2_n (by omega), u2_n (by omega), u2_n (by omega), u2_n (by omega)]
      · exact (congrArg Int32.toInt (u2_s _ _ _ _)).trans (tI_add hm (show (1 : Int32).toInt = 1 from rfl) (by omega))
      · rw [u2_n (by omega), u2_n (by omega), u2_n (by omega), u2_n (by omega), u2_n (by omega), u2_n (by omega), u2_n (by omega)]
      · unfold encq
        simp only []
        refine ⟨?_, ?_, ?_, ?_, ?_, ?_⟩
        · rw [u2_n (by omega), u2_n (by omega), u2_n (by omega), u2_n (by omega), u2_n (by omega), u2_n (by omega), u2_s]; exact hk
        · rw [u2_n (by omega), u2_n (by omega), u2_n (by omega), u2_n (by omega), u2_n (by omega), u2_s]; exact hxa
        · rw [u2_n (by omega), u2_n (by omega), u2_n (by omega), u2_n (by omega), u2_s]; exact hxb
        · rw [u2_n (by omega), u2_n (by omega), u2_n (by omega), u2_s]; exact by rw [if_neg (by omega)]; rfl
        · rw [u2_n (by omega), u2_n (by omega), u2_s]; exact hch
        · rw [u2_n (by omega), u2_s]; exact hv_99
    · skip
      refine E_iload 6 dX6_lists_67 rfl ?_
      refine E_goto 73 dX6_lists_69 (by decide) ?_
      refine S_iast (6 * m + 3) tw_67 ((tI_add hat (show (3 : Int32).toInt = 3 from rfl) (by omega)).trans (by omega)) (by omega) dX6_lists_73 ?_
      refine E_aload_n 2 dX6_lists_74 rfl rfl ?_
      refine gf_X6_25 tw_61 rfl dX6_lists_75 ?_
      refine E_iload 0 dX6_lists_78 rfl ?_
      refine E_iconst 4 (by decide) dX6_lists_80 ?_
      refine E_iadd dX6_lists_81 ?_
      refine E_iload 1 dX6_lists_82 rfl ?_
      refine S_iast (6 * m + 4) tw_67 ((tI_add hat (show (4 : Int32).toInt = 4 from rfl) (by omega)).trans (by omega)) (by omega) dX6_lists_84 ?_
      refine E_aload_n 2 dX6_lists_85 rfl rfl ?_
      refine gf_X6_25 tw_61 rfl dX6_lists_86 ?_
      refine E_iload 0 dX6_lists_89 rfl ?_
      refine E_iconst 5 (by decide) dX6_lists_91 ?_
      refine E_iadd dX6_lists_92 ?_
      refine E_aload_n 2 dX6_lists_93 rfl rfl ?_
      refine E_iload_n 3 dX6_lists_94 rfl rfl ?_
      refine E_iload_n 4 dX6_lists_95 rfl rfl ?_
      refine E_iload_n 5 dX6_lists_96 rfl rfl ?_
      refine E_iload 6 dX6_lists_97 rfl ?_
      refine E_callV (c_X6_level l hfl (u2 (u2 (u2 (u2 (u2 mi 67 (6 * m) xk) 67 (6 * m + 1) xa) 67 (6 * m + 2) xb) 67 (6 * m + 3) xc) 67 (6 * m + 4) r_6) ml K L3 L5 rc rl N (hset.c ((u2_p (by decide)).trans ((u2_p (by decide)).trans ((u2_p (by decide)).trans ((u2_p (by decide)).trans (u2_p (by decide))))))) (hrow.c ((u2_p (by decide)).trans ((u2_p (by decide)).trans ((u2_p (by decide)).trans ((u2_p (by decide)).trans (u2_p (by decide)))))) ((u2_p (by decide)).trans ((u2_p (by decide)).trans ((u2_p (by decide)).trans ((u2_p (by decide)).trans (u2_p (by decide))))))) hN xk xa xb xc kd a b c (hk.trans (by omega)) (hxa.trans (by omega)) (hxb.trans (by omega)) (hxc.trans (by omega)) (by omega) (by omega) (by omega) (by omega)) cw_X6_88 (As := [.int xk, .int xa, .int xb, .int xc]) (st := [.int ((6 * (mi 61 9)) + 5), .ref 67]) wi_yX6_level we_yX6_level (ci := 6) (q := (RX6, TX6, 23)) rfl rfl (wl_atO tw_61) rfl ⟨Nat.le_of_ble_eq_true rfl, Nat.le_of_ble_eq_true rfl, Nat.le_of_ble_eq_true rfl, Nat.le_of_ble_eq_true rfl⟩ (Nat.le_of_ble_eq_true rfl) dX6_lists_99 (fun _ _ h => h) rfl (kI (fun r_99 mi_99 ml_99 h_99 => ?_))
      obtain ⟨rfl, rfl, hv_99⟩ := h_99
      refine S_iast (6 * m + 5) tw_67 ((tI_add hat (show (5 : Int32).toInt = 5 from rfl) (by omega)).trans (by omega)) (by omega) dX6_lists_102 ?_
      refine E_aload_n 2 dX6_lists_103 rfl rfl ?_
      refine E_dup rfl dX6_lists_104 ?_
      refine gf_X6_95 (mi 61 9) tw_61 rfl ((u2_n (by omega)).trans ((u2_n (by omega)).trans ((u2_n (by omega)).trans ((u2_n (by omega)).trans ((u2_n (by omega)).trans ((u2_n (by omega)).trans rfl)))))) dX6_lists_105 ?_
      refine E_iconst 1 (by decide) dX6_lists_108 ?_
      refine E_iadd dX6_lists_109 ?_
      refine pf_X6_95 tw_61 rfl dX6_lists_110 ?_
      refine E_vret rfl (Nat.le_of_ble_eq_true rfl) (Nat.le_of_ble_eq_true rfl) dX6_lists_113 ?_
      refine okQV ⟨rfl, Or.inr ⟨hsg, (((((((Fr.rfl'.u (by decide)).u (by decide)).u (by decide)).u (by decide)).u (by decide)).u (by decide)).u (by decide)), fun k hk => ?_, ?_, fun k hk => ?_, ?_⟩⟩
      · rw [u2_n (by omega), u2_n (by omega), u2_n (by omega), u2_n (by omega), u2_n (by omega), u2_n (by omega), u2_n (by omega)]
      · exact (congrArg Int32.toInt (u2_s _ _ _ _)).trans (tI_add hm (show (1 : Int32).toInt = 1 from rfl) (by omega))
      · rw [u2_n (by omega), u2_n (by omega), u2_n (by omega), u2_n (by omega), u2_n (by omega), u2_n (by omega), u2_n (by omega)]
      · unfold encq
        simp only []
        refine ⟨?_, ?_, ?_, ?_, ?_, ?_⟩
        · rw [u2_n (by omega), u2_n (by omega), u2_n (by omega), u2_n (by omega), u2_n (by omega), u2_n (by omega), u2_s]; exact hk
        · rw [u2_n (by omega), u2_n (by omega), u2_n (by omega), u2_n (by omega), u2_n (by omega), u2_s]; exact hxa
        · rw [u2_n (by omega), u2_n (by omega), u2_n (by omega), u2_n (by omega), u2_s]; exact hxb
        · rw [u2_n (by omega), u2_n (by omega), u2_n (by omega), u2_s]; exact by rw [if_pos (by omega)]; exact hxc
        · rw [u2_n (by omega), u2_n (by omega), u2_s]; exact hch
        · rw [u2_n (by omega), u2_s]; exact hv_99
end MO6
