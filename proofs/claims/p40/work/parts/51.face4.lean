section FA4
set_option maxHeartbeats 1600000 in
set_option maxRecDepth 100000 in
theorem c_X5_setProducts (l : Launch) (hfl : l.stackTraces = false) (mi : MI) (ml : MJ) (V : Nat → Int32) (hV : WFV V) (hD : DR 1 mi V) (p sz : Nat) (hp : (mi 17 1).toInt = (p : Int)) (hp4 : p < 4) (hsz : (mi 17 2).toInt = (sz : Int)) (hs4 : sz ≤ 4) (a : Int32) (A : Int) (hA : a.toInt = A) (b : Int32) (B : Int) (hB : b.toInt = B) (c : Int32) (C : Int) (hC : c.toInt = C) : Ct l yX5_setProducts (.code yX5_setProducts cX5_setProducts 5 (some .int)) 3 1 6 [.ref 0, .int a, .int b, .int c] (wl mi ml) (QI (fun r mi9 ml9 => ml = ml9 ∧ ((0 ≤ A ∧ A ≤ 7) ∧ (0 ≤ B ∧ B ≤ 300) ∧ (0 ≤ C ∧ C ≤ 300)) ∧ r = V 0 ∧ ∃ mk, PUS p sz mi mk ∧ u2 (u2 (u2 (u2 mk 1 0 a) 1 1 b) 1 2 c) 1 10 0 = mi9)) (XW (fun En mi9 ml9 => mi = mi9 ∧ ml = ml9 ∧ En = xIA ∧ ¬ ((0 ≤ A ∧ A ≤ 7) ∧ (0 ≤ B ∧ B ≤ 300) ∧ (0 ≤ C ∧ C ≤ 300)))) := by
  refine Ct_of (ini := false) pn_X5 hfl (fun h => nomatch h) (Nat.le_of_ble_eq_true rfl) ?_
  show E l RX5 cX5_setProducts 5 (some .int) false [] (rmE 3 1 6) (wl mi ml) (TgM (wl mi ml) 1 6 (QI (fun r mi9 ml9 => ml = ml9 ∧ ((0 ≤ A ∧ A ≤ 7) ∧ (0 ≤ B ∧ B ≤ 300) ∧ (0 ≤ C ∧ C ≤ 300)) ∧ r = V 0 ∧ ∃ mk, PUS p sz mi mk ∧ u2 (u2 (u2 (u2 mk 1 0 a) 1 1 b) 1 2 c) 1 10 0 = mi9)) (XW (fun En mi9 ml9 => mi = mi9 ∧ ml = ml9 ∧ En = xIA ∧ ¬ ((0 ≤ A ∧ A ≤ 7) ∧ (0 ≤ B ∧ B ≤ 300) ∧ (0 ≤ C ∧ C ≤ 300))))) 0 0 0 [(0, .ref 0), (1, .int a), (2, .int b), (3, .int c)] [] (wl mi ml)
  refine E_iload_n 1 dX5_setProducts_0 rfl rfl ?_
  refine E_iconst 0 (by decide) dX5_setProducts_1 ?_
  refine E_bipush 7 (by decide) dX5_setProducts_2 ?_
  refine E_callS (c_X5_isWithin l hfl mi ml a A hA 0 0 (show (0 : Int32).toInt = 0 from rfl) 7 7 (show (7 : Int32).toInt = 7 from rfl)) cw_X5_112 (As := [.int a, .int 0, .int 7]) (st := []) ws_yX5_isWithin rfl ⟨Nat.le_of_ble_eq_true rfl, Nat.le_of_ble_eq_true rfl, Nat.le_of_ble_eq_true rfl, Nat.le_of_ble_eq_true rfl⟩ (Nat.le_of_ble_eq_true rfl) dX5_setProducts_4 (fun _ _ h => h) rfl (kE ?_)
  refine B_eq 32 dX5_setProducts_7 (by decide) (fun c_7 => ?_) (fun c_7 => ?_)
  · skip
    refine E_throw (cls := "java/lang/IllegalArgumentException") (names := ["java/lang/RuntimeException", "java/lang/Exception"]) (by decide) fitX wcl_X5_62 wz_IllegalArgumentException str_116 atIA otIA rfl ⟨Nat.le_of_ble_eq_true rfl, Nat.le_of_ble_eq_true rfl, Nat.le_of_ble_eq_true rfl, Nat.le_of_ble_eq_true rfl⟩ (Nat.le_of_ble_eq_true rfl) (Nat.le_of_ble_eq_true rfl) dX5_setProducts_32 dX5_setProducts_35 dX5_setProducts_36 dX5_setProducts_38 dX5_setProducts_41 ?_
    exact okXW ⟨rfl, rfl, rfl, fun q => c_7 q.1⟩
  · skip
    refine E_iload_n 2 dX5_setProducts_10 rfl rfl ?_
    refine E_iconst 0 (by decide) dX5_setProducts_11 ?_
    refine E_sipush 300 (by decide) dX5_setProducts_12 ?_
    refine E_callS (c_X5_isWithin l hfl mi ml b B hB 0 0 (show (0 : Int32).toInt = 0 from rfl) 300 300 (show (300 : Int32).toInt = 300 from rfl)) cw_X5_112 (As := [.int b, .int 0, .int 300]) (st := []) ws_yX5_isWithin rfl ⟨Nat.le_of_ble_eq_true rfl, Nat.le_of_ble_eq_true rfl, Nat.le_of_ble_eq_true rfl, Nat.le_of_ble_eq_true rfl⟩ (Nat.le_of_ble_eq_true rfl) dX5_setProducts_15 (fun _ _ h => h) rfl (kE ?_)
    refine B_eq 32 dX5_setProducts_18 (by decide) (fun c_18 => ?_) (fun c_18 => ?_)
    · skip
      refine E_throw (cls := "java/lang/IllegalArgumentException") (names := ["java/lang/RuntimeException", "java/lang/Exception"]) (by decide) fitX wcl_X5_62 wz_IllegalArgumentException str_116 atIA otIA rfl ⟨Nat.le_of_ble_eq_true rfl, Nat.le_of_ble_eq_true rfl, Nat.le_of_ble_eq_true rfl, Nat.le_of_ble_eq_true rfl⟩ (Nat.le_of_ble_eq_true rfl) (Nat.le_of_ble_eq_true rfl) dX5_setProducts_32 dX5_setProducts_35 dX5_setProducts_36 dX5_setProducts_38 dX5_setProducts_41 ?_
      exact okXW ⟨rfl, rfl, rfl, fun q => c_18 q.2.1⟩
    · skip
      refine E_iload_n 3 dX5_setProducts_21 rfl rfl ?_
      refine E_iconst 0 (by decide) dX5_setProducts_22 ?_
      refine E_sipush 300 (by decide) dX5_setProducts_23 ?_
      refine E_callS (c_X5_isWithin l hfl mi ml c C hC 0 0 (show (0 : Int32).toInt = 0 from rfl) 300 300 (show (300 : Int32).toInt = 300 from rfl)) cw_X5_112 (As := [.int c, .int 0, .int 300]) (st := []) ws_yX5_isWithin rfl ⟨Nat.le_of_ble_eq_true rfl, Nat.le_of_ble_eq_true rfl, Nat.le_of_ble_eq_true rfl, Nat.le_of_ble_eq_true rfl⟩ (Nat.le_of_ble_eq_true rfl) dX5_setProducts_26 (fun _ _ h => h) rfl (kE ?_)
      refine B_ne 42 dX5_setProducts_29 (by decide) (fun c_29 => ?_) (fun c_29 => ?_)
      · skip
        refine E_aload_n 0 dX5_setProducts_42 rfl rfl ?_
        refine gf_X5_22 tw_0 rfl dX5_setProducts_43 ?_
        refine E_aload_n 0 dX5_setProducts_46 rfl rfl ?_
        refine gf_X5_10 tw_0 rfl dX5_setProducts_47 ?_
        refine E_callV (c_X2_push l hfl mi ml p sz hp hp4 hsz hs4) cw_X5_72 (As := [.ref 1]) (st := []) wi_yX2_push we_yX2_push (ci := 2) (q := (RX2, TX2, 3)) rfl rfl (wl_atO tw_17) rfl ⟨Nat.le_of_ble_eq_true rfl, Nat.le_of_ble_eq_true rfl, Nat.le_of_ble_eq_true rfl, Nat.le_of_ble_eq_true rfl⟩ (Nat.le_of_ble_eq_true rfl) dX5_setProducts_50 (fun _ _ h => h) rfl (kV (fun mi_50 ml_50 h_50 => ?_))
        obtain ⟨rfl, h_50⟩ := h_50
        refine E_aload_n 0 dX5_setProducts_53 rfl rfl ?_
        refine gf_X5_10 tw_0 rfl dX5_setProducts_54 ?_
        refine gf_X5_118 (V 0) isD_1.t rfl ((congrFun (h_50.1 1 (by decide) (Or.inl (by omega))) 0).trans hD.1.1) dX5_setProducts_57 ?_
        refine E_istore [(4, .int (V 0)), (0, .ref 0), (1, .int a), (2, .int b), (3, .int c)] dX5_setProducts_60 (by decide) rfl ?_
        refine E_aload_n 1 dX5_setProducts_62 rfl rfl ?_
        refine gf_X5_10 tw_0 rfl dX5_setProducts_63 ?_
        refine E_iload_n 2 dX5_setProducts_66 rfl rfl ?_
        refine pf_X5_118 isD_1.t rfl dX5_setProducts_67 ?_
        refine E_aload_n 1 dX5_setProducts_70 rfl rfl ?_
        refine gf_X5_10 tw_0 rfl dX5_setProducts_71 ?_
        refine E_iload_n 3 dX5_setProducts_74 rfl rfl ?_
        refine pf_X5_121 isD_1.t rfl dX5_setProducts_75 ?_
        refine E_aload_n 1 dX5_setProducts_78 rfl rfl ?_
        refine gf_X5_10 tw_0 rfl dX5_setProducts_79 ?_
        refine E_iload_n 4 dX5_setProducts_82 rfl rfl ?_
        refine pf_X5_124 isD_1.t rfl dX5_setProducts_83 ?_
        refine E_aload_n 1 dX5_setProducts_86 rfl rfl ?_
        refine gf_X5_10 tw_0 rfl dX5_setProducts_87 ?_
        refine E_iconst 0 (by decide) dX5_setProducts_90 ?_
        refine pf_X5_127 isD_1.t rfl dX5_setProducts_91 ?_
        refine E_iload 0 dX5_setProducts_94 rfl ?_
        refine E_iret rfl (Nat.le_of_ble_eq_true rfl) (Nat.le_of_ble_eq_true rfl) dX5_setProducts_96 ?_
        exact okQI ⟨rfl, ⟨c_7, c_18, c_29⟩, rfl, mi_50, h_50, rfl⟩
      · skip
        refine E_throw (cls := "java/lang/IllegalArgumentException") (names := ["java/lang/RuntimeException", "java/lang/Exception"]) (by decide) fitX wcl_X5_62 wz_IllegalArgumentException str_116 atIA otIA rfl ⟨Nat.le_of_ble_eq_true rfl, Nat.le_of_ble_eq_true rfl, Nat.le_of_ble_eq_true rfl, Nat.le_of_ble_eq_true rfl⟩ (Nat.le_of_ble_eq_true rfl) (Nat.le_of_ble_eq_true rfl) dX5_setProducts_32 dX5_setProducts_35 dX5_setProducts_36 dX5_setProducts_38 dX5_setProducts_41 ?_
        exact okXW ⟨rfl, rfl, rfl, fun q => c_29 q.2.2⟩
set_option maxHeartbeats 1600000 in
set_option maxRecDepth 100000 in
theorem c_X5_setSpacing (l : Launch) (hfl : l.stackTraces = false) (mi : MI) (ml : MJ) (V : Nat → Int32) (hV : WFV V) (hD : DR 1 mi V) (p sz : Nat) (hp : (mi 17 1).toInt = (p : Int)) (hp4 : p < 4) (hsz : (mi 17 2).toInt = (sz : Int)) (hs4 : sz ≤ 4) (a : Int32) (A : Int) (hA : a.toInt = A) (b : Int32) (B : Int) (hB : b.toInt = B) : Ct l yX5_setSpacing (.code yX5_setSpacing cX5_setSpacing 4 (some .int)) 3 1 6 [.ref 0, .int a, .int b] (wl mi ml) (QI (fun r mi9 ml9 => ml = ml9 ∧ ((0 ≤ A ∧ A ≤ 5) ∧ (1 ≤ B ∧ B ≤ 10)) ∧ r = V 3 ∧ ∃ mk, PUS p sz mi mk ∧ u2 (u2 (u2 mk 1 3 a) 1 4 b) 1 10 0 = mi9)) (XW (fun En mi9 ml9 => mi = mi9 ∧ ml = ml9 ∧ En = xIA ∧ ¬ ((0 ≤ A ∧ A ≤ 5) ∧ (1 ≤ B ∧ B ≤ 10)))) := by
  refine Ct_of (ini := false) pn_X5 hfl (fun h => nomatch h) (Nat.le_of_ble_eq_true rfl) ?_
  show E l RX5 cX5_setSpacing 4 (some .int) false [] (rmE 3 1 6) (wl mi ml) (TgM (wl mi ml) 1 6 (QI (fun r mi9 ml9 => ml = ml9 ∧ ((0 ≤ A ∧ A ≤ 5) ∧ (1 ≤ B ∧ B ≤ 10)) ∧ r = V 3 ∧ ∃ mk, PUS p sz mi mk ∧ u2 (u2 (u2 mk 1 3 a) 1 4 b) 1 10 0 = mi9)) (XW (fun En mi9 ml9 => mi = mi9 ∧ ml = ml9 ∧ En = xIA ∧ ¬ ((0 ≤ A ∧ A ≤ 5) ∧ (1 ≤ B ∧ B ≤ 10))))) 0 0 0 [(0, .ref 0), (1, .int a), (2, .int b)] [] (wl mi ml)
  refine E_iload_n 1 dX5_setSpacing_0 rfl rfl ?_
  refine E_iconst 0 (by decide) dX5_setSpacing_1 ?_
  refine E_iconst 5 (by decide) dX5_setSpacing_2 ?_
  refine E_callS (c_X5_isWithin l hfl mi ml a A hA 0 0 (show (0 : Int32).toInt = 0 from rfl) 5 5 (show (5 : Int32).toInt = 5 from rfl)) cw_X5_112 (As := [.int a, .int 0, .int 5]) (st := []) ws_yX5_isWithin rfl ⟨Nat.le_of_ble_eq_true rfl, Nat.le_of_ble_eq_true rfl, Nat.le_of_ble_eq_true rfl, Nat.le_of_ble_eq_true rfl⟩ (Nat.le_of_ble_eq_true rfl) dX5_setSpacing_3 (fun _ _ h => h) rfl (kE ?_)
  refine B_eq 19 dX5_setSpacing_6 (by decide) (fun c_6 => ?_) (fun c_6 => ?_)
  · skip
    refine E_throw (cls := "java/lang/IllegalArgumentException") (names := ["java/lang/RuntimeException", "java/lang/Exception"]) (by decide) fitX wcl_X5_62 wz_IllegalArgumentException str_130 atIA otIA rfl ⟨Nat.le_of_ble_eq_true rfl, Nat.le_of_ble_eq_true rfl, Nat.le_of_ble_eq_true rfl, Nat.le_of_ble_eq_true rfl⟩ (Nat.le_of_ble_eq_true rfl) (Nat.le_of_ble_eq_true rfl) dX5_setSpacing_19 dX5_setSpacing_22 dX5_setSpacing_23 dX5_setSpacing_25 dX5_setSpacing_28 ?_
    exact okXW ⟨rfl, rfl, rfl, fun q => c_6 q.1⟩
  · skip
    refine E_iload_n 2 dX5_setSpacing_9 rfl rfl ?_
    refine E_iconst 1 (by decide) dX5_setSpacing_10 ?_
    refine E_bipush 10 (by decide) dX5_setSpacing_11 ?_
    refine E_callS (c_X5_isWithin l hfl mi ml b B hB 1 1 (show (1 : Int32).toInt = 1 from rfl) 10 10 (show (10 : Int32).toInt = 10 from rfl)) cw_X5_112 (As := [.int b, .int 1, .int 10]) (st := []) ws_yX5_isWithin rfl ⟨Nat.le_of_ble_eq_true rfl, Nat.le_of_ble_eq_true rfl, Nat.le_of_ble_eq_true rfl, Nat.le_of_ble_eq_true rfl⟩ (Nat.le_of_ble_eq_true rfl) dX5_setSpacing_13 (fun _ _ h => h) rfl (kE ?_)
    refine B_ne 29 dX5_setSpacing_16 (by decide) (fun c_16 => ?_) (fun c_16 => ?_)
    · skip
      refine E_aload_n 0 dX5_setSpacing_29 rfl rfl ?_
      refine gf_X5_22 tw_0 rfl dX5_setSpacing_30 ?_
      refine E_aload_n 0 dX5_setSpacing_33 rfl rfl ?_
      refine gf_X5_10 tw_0 rfl dX5_setSpacing_34 ?_
      refine E_callV (c_X2_push l hfl mi ml p sz hp hp4 hsz hs4) cw_X5_72 (As := [.ref 1]) (st := []) wi_yX2_push we_yX2_push (ci := 2) (q := (RX2, TX2, 3)) rfl rfl (wl_atO tw_17) rfl ⟨Nat.le_of_ble_eq_true rfl, Nat.le_of_ble_eq_true rfl, Nat.le_of_ble_eq_true rfl, Nat.le_of_ble_eq_true rfl⟩ (Nat.le_of_ble_eq_true rfl) dX5_setSpacing_37 (fun _ _ h => h) rfl (kV (fun mi_37 ml_37 h_37 => ?_))
      obtain ⟨rfl, h_37⟩ := h_37
      refine E_aload_n 0 dX5_setSpacing_40 rfl rfl ?_
      refine gf_X5_10 tw_0 rfl dX5_setSpacing_41 ?_
      refine gf_X5_132 (V 3) isD_1.t rfl ((congrFun (h_37.1 1 (by decide) (Or.inl (by omega))) 3).trans hD.1.2.2.2.1) dX5_setSpacing_44 ?_
      refine E_istore_n [(3, .int (V 3)), (0, .ref 0), (1, .int a), (2, .int b)] dX5_setSpacing_47 rfl (by decide) rfl ?_
      refine E_aload_n 1 dX5_setSpacing_48 rfl rfl ?_
      refine gf_X5_10 tw_0 rfl dX5_setSpacing_49 ?_
      refine E_iload_n 2 dX5_setSpacing_52 rfl rfl ?_
      refine pf_X5_132 isD_1.t rfl dX5_setSpacing_53 ?_
      refine E_aload_n 1 dX5_setSpacing_56 rfl rfl ?_
      refine gf_X5_10 tw_0 rfl dX5_setSpacing_57 ?_
      refine E_iload_n 3 dX5_setSpacing_60 rfl rfl ?_
      refine pf_X5_135 isD_1.t rfl dX5_setSpacing_61 ?_
      refine E_aload_n 1 dX5_setSpacing_64 rfl rfl ?_
      refine gf_X5_10 tw_0 rfl dX5_setSpacing_65 ?_
      refine E_iconst 0 (by decide) dX5_setSpacing_68 ?_
      refine pf_X5_127 isD_1.t rfl dX5_setSpacing_69 ?_
      refine E_iload_n 0 dX5_setSpacing_72 rfl rfl ?_
      refine E_iret rfl (Nat.le_of_ble_eq_true rfl) (Nat.le_of_ble_eq_true rfl) dX5_setSpacing_73 ?_
      exact okQI ⟨rfl, ⟨c_6, c_16⟩, rfl, mi_37, h_37, rfl⟩
    · skip
      refine E_throw (cls := "java/lang/IllegalArgumentException") (names := ["java/lang/RuntimeException", "java/lang/Exception"]) (by decide) fitX wcl_X5_62 wz_IllegalArgumentException str_130 atIA otIA rfl ⟨Nat.le_of_ble_eq_true rfl, Nat.le_of_ble_eq_true rfl, Nat.le_of_ble_eq_true rfl, Nat.le_of_ble_eq_true rfl⟩ (Nat.le_of_ble_eq_true rfl) (Nat.le_of_ble_eq_true rfl) dX5_setSpacing_19 dX5_setSpacing_22 dX5_setSpacing_23 dX5_setSpacing_25 dX5_setSpacing_28 ?_
      exact okXW ⟨rfl, rfl, rfl, fun q => c_16 q.2⟩
set_option maxHeartbeats 1600000 in
set_option maxRecDepth 100000 in
theorem c_X5_size (l : Launch) (hfl : l.stackTraces = false) (mi : MI) (ml : MJ) (V : Nat → Int32) (hD : DR 1 mi V) (a : Int32) (A : Int) (hA : a.toInt = A) : Ct l yX5_size (.code yX5_size cX5_size 2 (some .int)) 1 1 6 [.ref 0, .int a] (wl mi ml) (QI (fun r mi9 ml9 => mi = mi9 ∧ ml = ml9 ∧ (0 ≤ A ∧ A ≤ 2) ∧ ((A = 0 ∧ r = V 5) ∨ (A = 1 ∧ r = V 26) ∨ (A = 2 ∧ r = V 32)))) (XW (fun En mi9 ml9 => mi = mi9 ∧ ml = ml9 ∧ En = xIA ∧ ¬ (0 ≤ A ∧ A ≤ 2))) := by
  refine Ct_of (ini := false) pn_X5 hfl (fun h => nomatch h) (Nat.le_of_ble_eq_true rfl) ?_
  show E l RX5 cX5_size 2 (some .int) false [] (rmE 1 1 6) (wl mi ml) (TgM (wl mi ml) 1 6 (QI (fun r mi9 ml9 => mi = mi9 ∧ ml = ml9 ∧ (0 ≤ A ∧ A ≤ 2) ∧ ((A = 0 ∧ r = V 5) ∨ (A = 1 ∧ r = V 26) ∨ (A = 2 ∧ r = V 32)))) (XW (fun En mi9 ml9 => mi = mi9 ∧ ml = ml9 ∧ En = xIA ∧ ¬ (0 ≤ A ∧ A ≤ 2)))) 0 0 0 [(0, .ref 0), (1, .int a)] [] (wl mi ml)
  refine E_iload_n 1 dX5_size_0 rfl rfl ?_
  refine E_tab3 A hA 28 36 44 52 dX5_size_1 (by decide) (by decide) (by decide) (by decide) (fun c_1 => ?_) (fun c_1 => ?_) (fun c_1 => ?_) (fun c_1 => ?_)
  · skip
    refine E_aload_n 0 dX5_size_28 rfl rfl ?_
    refine gf_X5_10 tw_0 rfl dX5_size_29 ?_
    refine gf_X5_80 (V 5) isD_1.t rfl hD.2.1.1 dX5_size_32 ?_
    refine E_iret rfl (Nat.le_of_ble_eq_true rfl) (Nat.le_of_ble_eq_true rfl) dX5_size_35 ?_
    exact okQI ⟨rfl, rfl, by omega, Or.inl ⟨c_1, rfl⟩⟩
  · skip
    refine E_aload_n 0 dX5_size_36 rfl rfl ?_
    refine gf_X5_10 tw_0 rfl dX5_size_37 ?_
    refine gf_X5_138 (V 26) isD_1.t rfl hD.2.1.2.1 dX5_size_40 ?_
    refine E_iret rfl (Nat.le_of_ble_eq_true rfl) (Nat.le_of_ble_eq_true rfl) dX5_size_43 ?_
    exact okQI ⟨rfl, rfl, by omega, Or.inr (Or.inl ⟨c_1, rfl⟩)⟩
  · skip
    refine E_aload_n 0 dX5_size_44 rfl rfl ?_
    refine gf_X5_10 tw_0 rfl dX5_size_45 ?_
    refine gf_X5_127 (V 32) isD_1.t rfl hD.2.1.2.2 dX5_size_48 ?_
    refine E_iret rfl (Nat.le_of_ble_eq_true rfl) (Nat.le_of_ble_eq_true rfl) dX5_size_51 ?_
    exact okQI ⟨rfl, rfl, by omega, Or.inr (Or.inr ⟨c_1, rfl⟩)⟩
  · skip
    refine E_throw (cls := "java/lang/IllegalArgumentException") (names := ["java/lang/RuntimeException", "java/lang/Exception"]) (by decide) fitX wcl_X5_62 wz_IllegalArgumentException str_141 atIA otIA rfl ⟨Nat.le_of_ble_eq_true rfl, Nat.le_of_ble_eq_true rfl, Nat.le_of_ble_eq_true rfl, Nat.le_of_ble_eq_true rfl⟩ (Nat.le_of_ble_eq_true rfl) (Nat.le_of_ble_eq_true rfl) dX5_size_52 dX5_size_55 dX5_size_56 dX5_size_58 dX5_size_61 ?_
    exact okXW ⟨rfl, rfl, rfl, by omega⟩
set_option maxHeartbeats 1600000 in
set_option maxRecDepth 100000 in
theorem c_X5_carrier (l : Launch) (hfl : l.stackTraces = false) (mi : MI) (ml : MJ) (V : Nat → Int32) (hV : WFV V) (hD : DR 1 mi V) (n : Nat) (hn : (V 5).toInt = (n : Int)) (h10 : n ≤ 10) (a : Int32) (A : Int) (hA : a.toInt = A) (xb : Int32) (P : Prop) (hxb : xb = bI P) : Ct l yX5_carrier (.code yX5_carrier cX5_carrier 3 (some .int)) 3 1 6 [.ref 0, .int a, .int (bI (P))] (wl mi ml) (QI (fun r mi9 ml9 => mi = mi9 ∧ ml = ml9 ∧ ∃ b : Nat, b < n ∧ A = (b : Int) ∧ ((P ∧ r = V (7 + 2 * b)) ∨ (¬ P ∧ r = V (6 + 2 * b))))) (XW (fun En mi9 ml9 => mi = mi9 ∧ ml = ml9 ∧ En = xIO ∧ ¬ (0 ≤ A ∧ A < (n : Int)))) := by
  subst hxb
  refine Ct_of (ini := false) pn_X5 hfl (fun h => nomatch h) (Nat.le_of_ble_eq_true rfl) ?_
  show E l RX5 cX5_carrier 3 (some .int) false [] (rmE 3 1 6) (wl mi ml) (TgM (wl mi ml) 1 6 (QI (fun r mi9 ml9 => mi = mi9 ∧ ml = ml9 ∧ ∃ b : Nat, b < n ∧ A = (b : Int) ∧ ((P ∧ r = V (7 + 2 * b)) ∨ (¬ P ∧ r = V (6 + 2 * b))))) (XW (fun En mi9 ml9 => mi = mi9 ∧ ml = ml9 ∧ En = xIO ∧ ¬ (0 ≤ A ∧ A < (n : Int))))) 0 0 0 [(0, .ref 0), (1, .int a), (2, .int (bI (P)))] [] (wl mi ml)
  refine E_aload_n 0 dX5_carrier_0 rfl rfl ?_
  refine E_iload_n 1 dX5_carrier_1 rfl rfl ?_
  refine E_callVx (c_X5_needCarrier l hfl mi ml  n ((congrArg Int32.toInt hD.2.1.1).trans hn) (by omega) a A hA) cw_X5_84 (As := [.int a]) (st := []) wi_yX5_needCarrier we_yX5_needCarrier (ci := 5) (q := (RX5, TX5, 7)) rfl rfl (wl_atO tw_0) rfl ⟨Nat.le_of_ble_eq_true rfl, Nat.le_of_ble_eq_true rfl, Nat.le_of_ble_eq_true rfl, Nat.le_of_ble_eq_true rfl⟩ (Nat.le_of_ble_eq_true rfl) dX5_carrier_2 rfl (Nat.le_of_ble_eq_true rfl) (Nat.le_of_ble_eq_true rfl) (XW.w (by rintro _ _ _ ⟨rfl, rfl, rfl, q⟩; exact ⟨rfl, rfl, rfl, q⟩)) rfl (kV (fun mi_2 ml_2 h_2 => ?_))
  obtain ⟨rfl, rfl, h_2⟩ := h_2
  obtain ⟨b, hb⟩ : ∃ q : Nat, A = (q : Int) := ⟨A.toNat, by omega⟩
  refine E_iload_n 2 dX5_carrier_5 rfl rfl ?_
  refine B_eq 20 dX5_carrier_6 (by decide) (fun c_6 => ?_) (fun c_6 => ?_)
  · skip
    refine E_aload_n 0 dX5_carrier_20 rfl rfl ?_
    refine gf_X5_10 tw_0 rfl dX5_carrier_21 ?_
    refine E_iload_n 1 dX5_carrier_24 rfl rfl ?_
    refine E_callV (c_X1_channelOf l hfl 1 isD_1 mi ml a b n (hA.trans (by omega)) ((congrArg Int32.toInt hD.2.1.1).trans hn) (by omega) (by omega)) cw_X5_92 (As := [.int a]) (st := []) wi_yX1_channelOf we_yX1_channelOf (ci := 1) (q := (RX1, TX1, 15)) rfl rfl (wl_atO isD_1.t) rfl ⟨Nat.le_of_ble_eq_true rfl, Nat.le_of_ble_eq_true rfl, Nat.le_of_ble_eq_true rfl, Nat.le_of_ble_eq_true rfl⟩ (Nat.le_of_ble_eq_true rfl) dX5_carrier_25 (fun _ _ h => h) rfl (kE ?_)
    rw [show mi 2 b = (V (6 + 2 * b)) from (hD.2.2.1 b (by omega)).1]
    refine E_iret rfl (Nat.le_of_ble_eq_true rfl) (Nat.le_of_ble_eq_true rfl) dX5_carrier_28 ?_
    exact okQI ⟨rfl, rfl, b, by omega, hb, Or.inr ⟨c_6, rfl⟩⟩
  · skip
    refine E_aload_n 0 dX5_carrier_9 rfl rfl ?_
    refine gf_X5_10 tw_0 rfl dX5_carrier_10 ?_
    refine E_iload_n 1 dX5_carrier_13 rfl rfl ?_
    refine E_callV (c_X1_levelOf l hfl 1 isD_1 mi ml a b n (hA.trans (by omega)) ((congrArg Int32.toInt hD.2.1.1).trans hn) (by omega) (by omega)) cw_X5_143 (As := [.int a]) (st := []) wi_yX1_levelOf we_yX1_levelOf (ci := 1) (q := (RX1, TX1, 15)) rfl rfl (wl_atO isD_1.t) rfl ⟨Nat.le_of_ble_eq_true rfl, Nat.le_of_ble_eq_true rfl, Nat.le_of_ble_eq_true rfl, Nat.le_of_ble_eq_true rfl⟩ (Nat.le_of_ble_eq_true rfl) dX5_carrier_14 (fun _ _ h => h) rfl (kE ?_)
    rw [show mi 3 b = (V (7 + 2 * b)) from (hD.2.2.1 b (by omega)).2]
    refine E_goto 28 dX5_carrier_17 (by decide) ?_
    refine E_iret rfl (Nat.le_of_ble_eq_true rfl) (Nat.le_of_ble_eq_true rfl) dX5_carrier_28 ?_
    exact okQI ⟨rfl, rfl, b, by omega, hb, Or.inl ⟨c_6, rfl⟩⟩
set_option maxHeartbeats 1600000 in
set_option maxRecDepth 100000 in
theorem c_X5_channels (l : Launch) (hfl : l.stackTraces = false) (mi : MI) (ml : MJ) (V : Nat → Int32) (hV : WFV V) (hD : DR 1 mi V) (n : Nat) (hn : (V 5).toInt = (n : Int)) (h10 : n ≤ 10) : Ct l yX5_channels (.code yX5_channels cX5_channels 4 (some .long)) 2 0 0 [.ref 0] (wl mi ml) (QP (some (.long (chS (fun j => V (6 + 2 * j)) n))) (wl mi ml)) noX := by
  refine Ct_of (ini := false) pn_X5 hfl (fun h => nomatch h) (Nat.le_of_ble_eq_true rfl) ?_
  show E l RX5 cX5_channels 4 (some .long) false [] (rmE 2 0 0) (wl mi ml) (TgM (wl mi ml) 0 0 (QP (some (.long (chS (fun j => V (6 + 2 * j)) n))) (wl mi ml)) noX) 0 0 0 [(0, .ref 0)] [] (wl mi ml)
  refine E_lconst 0 rfl dX5_channels_0 ?_
  refine E_lstore_n [(1, .long 0), (0, .ref 0)] dX5_channels_1 rfl (by decide) rfl ?_
  refine E_iconst 0 (by decide) dX5_channels_2 ?_
  refine E_istore_n [(3, .int 0), (1, .long 0), (0, .ref 0)] dX5_channels_3 rfl (by decide) rfl ?_
  have J4 : ∀ (Nm : Nat) (xi : Int32) (v : Int64) (i : Nat), n - i < Nm → xi.toInt = (i : Int) → v = chS (fun j => V (6 + 2 * j)) i → i ≤ n → E l RX5 cX5_channels 4 (some .long) false [] (rmE 2 0 0) (wl mi ml) (TgM (wl mi ml) 0 0 (QP (some (.long (chS (fun j => V (6 + 2 * j)) n))) (wl mi ml)) noX) 0 0 4 [(0, .ref 0), (1, .long v), (3, .int xi)] [] (wl mi ml) := by
    intro Nm
    induction Nm with
    | zero => intros; omega
    | succ Nm ih4 =>
      intro xi v i hN4 hi hv hin
      refine E_iload_n 2 dX5_channels_4 rfl rfl ?_
      refine E_aload_n 0 dX5_channels_5 rfl rfl ?_
      refine gf_X5_10 tw_0 rfl dX5_channels_6 ?_
      refine gf_X5_80 (V 5) isD_1.t rfl hD.2.1.1 dX5_channels_9 ?_
      refine Z_ge (i : Int) (n : Int) hi hn 34 dX5_channels_12 (by decide) (fun c_12 => ?_) (fun c_12 => ?_)
      · skip
        refine E_lload_n 1 dX5_channels_34 rfl rfl ?_
        refine E_lret rfl (Nat.le_of_ble_eq_true rfl) (Nat.le_of_ble_eq_true rfl) dX5_channels_35 ?_
        exact okPJ (by rw [hv, show i = n by omega])
      · skip
        refine E_lload_n 1 dX5_channels_15 rfl rfl ?_
        refine E_lconst 1 rfl dX5_channels_16 ?_
        refine E_aload_n 0 dX5_channels_17 rfl rfl ?_
        refine gf_X5_10 tw_0 rfl dX5_channels_18 ?_
        refine E_iload_n 2 dX5_channels_21 rfl rfl ?_
        refine E_callV (c_X1_channelOf l hfl 1 isD_1 mi ml xi i n (hi.trans (by omega)) ((congrArg Int32.toInt hD.2.1.1).trans hn) (by omega) (by omega)) cw_X5_92 (As := [.int xi]) (st := [.long 1, .long v]) wi_yX1_channelOf we_yX1_channelOf (ci := 1) (q := (RX1, TX1, 15)) rfl rfl (wl_atO isD_1.t) rfl ⟨Nat.le_of_ble_eq_true rfl, Nat.le_of_ble_eq_true rfl, Nat.le_of_ble_eq_true rfl, Nat.le_of_ble_eq_true rfl⟩ (Nat.le_of_ble_eq_true rfl) dX5_channels_22 (fun _ _ h => h) rfl (kE ?_)
        rw [show mi 2 i = (V (6 + 2 * i)) from (hD.2.2.1 i (by omega)).1]
        refine E_lshl dX5_channels_25 ?_
        refine E_lor dX5_channels_26 ?_
        refine E_lstore_n [(1, .long (v ||| (1 <<< ((V (6 + 2 * i)).toInt64 &&& 63)))), (0, .ref 0), (3, .int xi)] dX5_channels_27 rfl (by decide) rfl ?_
        refine E_iinc 2 (xi + 1) [(3, .int (xi + 1)), (1, .long (v ||| (1 <<< ((V (6 + 2 * i)).toInt64 &&& 63)))), (0, .ref 0)] dX5_channels_28 rfl rfl (by decide) rfl ?_
        refine E_goto 4 dX5_channels_31 (by decide) ?_
        refine E_sub [2, 1, 0] rfl ?_
        exact ih4 (xi + 1) (v ||| (1 <<< ((V (6 + 2 * i)).toInt64 &&& 63))) (i + 1) (by omega) ((tI_add hi (show (1 : Int32).toInt = 1 from rfl) (by omega)).trans (by omega)) (by rw [chS, hv]) (by omega)
  refine E_sub [2, 1, 0] rfl ?_
  exact J4 _ 0 0 0 (Nat.lt_succ_self _) (show (0 : Int32).toInt = 0 from rfl) rfl (Nat.zero_le _)
/-- pairs (a, b) with a before i, or a = i and b before j -/
def clI (f : Nat → Int) (n i j : Nat) (x : Int) : Prop := (x = -1 ∧ ∀ a b, a < b → b < n → ¬ (a < i ∨ (a = i ∧ b < j))) ∨ ((∃ a b, a < b ∧ b < n ∧ (a < i ∨ (a = i ∧ b < j)) ∧ x = (if 0 ≤ f a - f b then f a - f b else 0 - (f a - f b))) ∧ ∀ a b, a < b → b < n → (a < i ∨ (a = i ∧ b < j)) → x ≤ (if 0 ≤ f a - f b then f a - f b else 0 - (f a - f b)))
theorem clI_i {f : Nat → Int} {n i j : Nat} {x : Int} (h : clI f n i j x) (hj : n ≤ j) : clI f n (i + 1) (i + 1 + 1) x := by
  have e : ∀ a b, a < b → b < n → ((a < i + 1 ∨ (a = i + 1 ∧ b < i + 1 + 1)) ↔ (a < i ∨ (a = i ∧ b < j))) := fun a b h1 h2 => by omega
  rcases h with ⟨h1, h2⟩ | ⟨⟨a, b, h1, h2, h3, h4⟩, h5⟩
  · exact Or.inl ⟨h1, fun a b p q z => h2 a b p q ((e a b p q).mp z)⟩
  · exact Or.inr ⟨⟨a, b, h1, h2, (e a b h1 h2).mpr h3, h4⟩, fun a b p q z => h5 a b p q ((e a b p q).mp z)⟩
theorem clI_y {f : Nat → Int} {n i j : Nat} {x y : Int} (h : clI f n i j x) (hij : i < j) (hj : j < n) (hy : y = (if 0 ≤ f i - f j then f i - f j else 0 - (f i - f j))) (hx : x = -1 ∨ y < x) : clI f n i (j + 1) y := by
  refine Or.inr ⟨⟨i, j, hij, hj, Or.inr ⟨rfl, by omega⟩, hy⟩, fun a b p q z => ?_⟩
  rcases Decidable.em (a = i ∧ b = j) with ⟨e1, e2⟩ | e
  · subst e1 e2; omega
  · have z2 : a < i ∨ (a = i ∧ b < j) := by omega
    have h0 := h
    rcases h with ⟨h1, h2⟩ | ⟨_, h5⟩
    · exact absurd z2 (h2 a b p q)
    · have h6 := h5 a b p q z2
      rcases hx with hx | hx
      · rw [hx] at h6
        have h7 : (0 : Int) ≤ y := by rw [hy]; split <;> omega
        rcases h0 with ⟨_, h2⟩ | ⟨⟨a2, b2, _, _, _, h8⟩, _⟩
        · exact absurd z2 (h2 a b p q)
        · rw [hx] at h8
          split at h8 <;> omega
      · omega
theorem clI_n {f : Nat → Int} {n i j : Nat} {x y : Int} (h : clI f n i j x) (hy : y = (if 0 ≤ f i - f j then f i - f j else 0 - (f i - f j))) (hx : x ≠ -1) (hxy : x ≤ y) : clI f n i (j + 1) x := by
  rcases h with ⟨h1, _⟩ | ⟨⟨a, b, h1, h2, h3, h4⟩, h5⟩
  · exact absurd h1 hx
  · refine Or.inr ⟨⟨a, b, h1, h2, by omega, h4⟩, fun a b p q z => ?_⟩
    rcases Decidable.em (a = i ∧ b = j) with ⟨e1, e2⟩ | e
    · subst e1 e2; omega
    · exact h5 a b p q (by omega)
theorem clI_nn {f : Nat → Int} {n i j : Nat} {x : Int} (h : clI f n i j x) : x = -1 ∨ 0 ≤ x := by
  rcases h with ⟨h1, _⟩ | ⟨⟨a, b, h1, h2, h3, h4⟩, h5⟩
  · exact Or.inl h1
  · exact Or.inr (by rw [h4]; split <;> omega)
theorem cl_mn {V : Nat → Int32} {n i : Nat} {x : Int} (hw : WFV V) (hn : (V 5).toInt = (n : Int)) (hi : n ≤ i) (h : clI (fun k => (V (6 + 2 * k)).toInt) n i (i + 1) x) : mnP (fun a b => (V (6 + 2 * a)).toInt - (V (6 + 2 * b)).toInt) (fun a1 b1 => a1 < n ∧ b1 < n) x := by
  have hne : ∀ a b, a < n → b < n → a ≠ b → (V (6 + 2 * a)).toInt ≠ (V (6 + 2 * b)).toInt := fun a b p q z e => z (hw.2.2.2.1 a b (by omega) (by omega) (Int32.toInt_inj.mp e))
  rcases h with ⟨h1, h2⟩ | ⟨⟨a, b, h1, h2, h3, h4⟩, h5⟩
  · refine Or.inl ⟨h1, fun a b z => ?_⟩
    rcases Nat.lt_trichotomy a b with q | q | q
    · exact absurd (Or.inl (by omega)) (h2 a b q z.2)
    · subst q; show _ - _ ≤ (0 : Int); omega
    · exact absurd (Or.inl (by omega)) (h2 b a q z.1)
  · have hab := hne a b (by omega) h2 (by omega)
    have h4' : x = (if 0 ≤ (V (6 + 2 * a)).toInt - (V (6 + 2 * b)).toInt then (V (6 + 2 * a)).toInt - (V (6 + 2 * b)).toInt else 0 - ((V (6 + 2 * a)).toInt - (V (6 + 2 * b)).toInt)) := h4
    refine Or.inr ⟨?_, fun c d z hz => ?_⟩
    · rcases Int.lt_or_le 0 ((V (6 + 2 * a)).toInt - (V (6 + 2 * b)).toInt) with q | q
      · exact ⟨a, b, ⟨by omega, h2⟩, q, by show x = (V (6 + 2 * a)).toInt - (V (6 + 2 * b)).toInt; rw [h4', if_pos (by omega)]⟩
      · refine ⟨b, a, ⟨h2, by omega⟩, ?_, ?_⟩
        · show 0 < (V (6 + 2 * b)).toInt - (V (6 + 2 * a)).toInt
          omega
        · show x = (V (6 + 2 * b)).toInt - (V (6 + 2 * a)).toInt
          rw [h4', if_neg (by omega)]; omega
    · have hz' : 0 < (V (6 + 2 * c)).toInt - (V (6 + 2 * d)).toInt := hz
      show x ≤ (V (6 + 2 * c)).toInt - (V (6 + 2 * d)).toInt
      rcases Nat.lt_trichotomy c d with q | q | q
      · have := h5 c d q z.2 (Or.inl (by omega))
        rw [if_pos (by show (0 : Int) ≤ (V (6 + 2 * c)).toInt - (V (6 + 2 * d)).toInt; omega)] at this
        exact this
      · subst q; omega
      · have := h5 d c q z.1 (Or.inl (by omega))
        rw [if_neg (by show ¬ (0 : Int) ≤ (V (6 + 2 * d)).toInt - (V (6 + 2 * c)).toInt; omega)] at this
        have e2 : x ≤ 0 - ((V (6 + 2 * d)).toInt - (V (6 + 2 * c)).toInt) := this
        omega
set_option maxHeartbeats 1600000 in
set_option maxRecDepth 100000 in
theorem c_X5_closest (l : Launch) (hfl : l.stackTraces = false) (mi : MI) (ml : MJ) (V : Nat → Int32) (hV : WFV V) (hD : DR 1 mi V) (n : Nat) (hn : (V 5).toInt = (n : Int)) (h10 : n ≤ 10) : Ct l yX5_closest (.code yX5_closest cX5_closest 5 (some .int)) 2 0 0 [.ref 0] (wl mi ml) (QI (fun r mi9 ml9 => mi = mi9 ∧ ml = ml9 ∧ mnP (fun a b => (V (6 + 2 * a)).toInt - (V (6 + 2 * b)).toInt) (fun a1 b1 => a1 < n ∧ b1 < n) r.toInt)) noX := by
  refine Ct_of (ini := false) pn_X5 hfl (fun h => nomatch h) (Nat.le_of_ble_eq_true rfl) ?_
  show E l RX5 cX5_closest 5 (some .int) false [] (rmE 2 0 0) (wl mi ml) (TgM (wl mi ml) 0 0 (QI (fun r mi9 ml9 => mi = mi9 ∧ ml = ml9 ∧ mnP (fun a b => (V (6 + 2 * a)).toInt - (V (6 + 2 * b)).toInt) (fun a1 b1 => a1 < n ∧ b1 < n) r.toInt)) noX) 0 0 0 [(0, .ref 0)] [] (wl mi ml)
  refine E_iconst (-1) (by decide) dX5_closest_0 ?_
  refine E_istore_n [(1, .int (-1)), (0, .ref 0)] dX5_closest_1 rfl (by decide) rfl ?_
  refine E_iconst 0 (by decide) dX5_closest_2 ?_
  refine E_istore_n [(2, .int 0), (1, .int (-1)), (0, .ref 0)] dX5_closest_3 rfl (by decide) rfl ?_
  have J4 : ∀ (Nm : Nat) (xi xl : Int32) (i : Nat), n - i < Nm → xi.toInt = (i : Int) → i ≤ n → clI (fun k => (V (6 + 2 * k)).toInt) n i (i + 1) xl.toInt → E l RX5 cX5_closest 5 (some .int) false [] (rmE 2 0 0) (wl mi ml) (TgM (wl mi ml) 0 0 (QI (fun r mi9 ml9 => mi = mi9 ∧ ml = ml9 ∧ mnP (fun a b => (V (6 + 2 * a)).toInt - (V (6 + 2 * b)).toInt) (fun a1 b1 => a1 < n ∧ b1 < n) r.toInt)) noX) 0 0 4 [(0, .ref 0), (1, .int xl), (2, .int xi)] [] (wl mi ml) := by
    intro Nm
    induction Nm with
    | zero => intros; omega
    | succ Nm ih4 =>
      intro xi xl i hN4 hi hin hc
      refine E_iload_n 2 dX5_closest_4 rfl rfl ?_
      refine E_aload_n 0 dX5_closest_5 rfl rfl ?_
      refine gf_X5_10 tw_0 rfl dX5_closest_6 ?_
      refine gf_X5_80 (V 5) isD_1.t rfl hD.2.1.1 dX5_closest_9 ?_
      refine Z_ge (i : Int) (n : Int) hi hn 78 dX5_closest_12 (by decide) (fun c_12 => ?_) (fun c_12 => ?_)
      · skip
        refine E_iload_n 1 dX5_closest_78 rfl rfl ?_
        refine E_iret rfl (Nat.le_of_ble_eq_true rfl) (Nat.le_of_ble_eq_true rfl) dX5_closest_79 ?_
        exact okQI ⟨rfl, rfl, cl_mn hV hn (by omega) hc⟩
      · skip
        refine E_iload_n 2 dX5_closest_15 rfl rfl ?_
        refine E_iconst 1 (by decide) dX5_closest_16 ?_
        refine E_iadd dX5_closest_17 ?_
        refine E_istore_n [(3, .int (xi + 1)), (0, .ref 0), (1, .int xl), (2, .int xi)] dX5_closest_18 rfl (by decide) rfl ?_
        have J19 : ∀ (Nm : Nat) (xj xm : Int32) (j : Nat), n + 1 - j < Nm → xj.toInt = (j : Int) → j ≤ n → i < j → clI (fun k => (V (6 + 2 * k)).toInt) n i j xm.toInt → E l RX5 cX5_closest 5 (some .int) false [] (rmE 2 0 0) (wl mi ml) (TgM (wl mi ml) 0 0 (QI (fun r mi9 ml9 => mi = mi9 ∧ ml = ml9 ∧ mnP (fun a b => (V (6 + 2 * a)).toInt - (V (6 + 2 * b)).toInt) (fun a1 b1 => a1 < n ∧ b1 < n) r.toInt)) noX) 0 0 19 [(0, .ref 0), (1, .int xm), (2, .int xi), (3, .int xj)] [] (wl mi ml) := by
          intro Nm
          induction Nm with
          | zero => intros; omega
          | succ Nm ih19 =>
            intro xj xm j hN19 hj hjn hij hc2
            refine E_iload_n 3 dX5_closest_19 rfl rfl ?_
            refine E_aload_n 0 dX5_closest_20 rfl rfl ?_
            refine gf_X5_10 tw_0 rfl dX5_closest_21 ?_
            refine gf_X5_80 (V 5) isD_1.t rfl hD.2.1.1 dX5_closest_24 ?_
            refine Z_ge (j : Int) (n : Int) hj hn 72 dX5_closest_27 (by decide) (fun c_27 => ?_) (fun c_27 => ?_)
            · skip
              refine E_iinc 2 (xi + 1) [(2, .int (xi + 1)), (0, .ref 0), (1, .int xm), (3, .int xj)] dX5_closest_72 rfl rfl (by decide) rfl ?_
              refine E_goto 4 dX5_closest_75 (by decide) ?_
              refine E_sub [1, 2, 0] rfl ?_
              exact ih4 (xi + 1) xm (i + 1) (by omega) ((tI_add hi (show (1 : Int32).toInt = 1 from rfl) (by omega)).trans (by omega)) (by omega) (clI_i hc2 (by omega))
            · skip
              have bi := hV.b hn (show i < n by omega)
              have bj := hV.b hn (show j < n by omega)
              refine E_aload_n 0 dX5_closest_30 rfl rfl ?_
              refine gf_X5_10 tw_0 rfl dX5_closest_31 ?_
              refine E_iload_n 2 dX5_closest_34 rfl rfl ?_
              refine E_callV (c_X1_channelOf l hfl 1 isD_1 mi ml xi i n (hi.trans (by omega)) ((congrArg Int32.toInt hD.2.1.1).trans hn) (by omega) (by omega)) cw_X5_92 (As := [.int xi]) (st := []) wi_yX1_channelOf we_yX1_channelOf (ci := 1) (q := (RX1, TX1, 15)) rfl rfl (wl_atO isD_1.t) rfl ⟨Nat.le_of_ble_eq_true rfl, Nat.le_of_ble_eq_true rfl, Nat.le_of_ble_eq_true rfl, Nat.le_of_ble_eq_true rfl⟩ (Nat.le_of_ble_eq_true rfl) dX5_closest_35 (fun _ _ h => h) rfl (kE ?_)
              rw [show mi 2 i = (V (6 + 2 * i)) from (hD.2.2.1 i (by omega)).1]
              refine E_aload_n 0 dX5_closest_38 rfl rfl ?_
              refine gf_X5_10 tw_0 rfl dX5_closest_39 ?_
              refine E_iload_n 3 dX5_closest_42 rfl rfl ?_
              refine E_callV (c_X1_channelOf l hfl 1 isD_1 mi ml xj j n (hj.trans (by omega)) ((congrArg Int32.toInt hD.2.1.1).trans hn) (by omega) (by omega)) cw_X5_92 (As := [.int xj]) (st := [.int (V (6 + 2 * i))]) wi_yX1_channelOf we_yX1_channelOf (ci := 1) (q := (RX1, TX1, 15)) rfl rfl (wl_atO isD_1.t) rfl ⟨Nat.le_of_ble_eq_true rfl, Nat.le_of_ble_eq_true rfl, Nat.le_of_ble_eq_true rfl, Nat.le_of_ble_eq_true rfl⟩ (Nat.le_of_ble_eq_true rfl) dX5_closest_43 (fun _ _ h => h) rfl (kE ?_)
              rw [show mi 2 j = (V (6 + 2 * j)) from (hD.2.2.1 j (by omega)).1]
              refine E_isub dX5_closest_46 ?_
              refine E_abs wl_X5_179 ws_abs wz_Math wc_abs ⟨Nat.le_of_ble_eq_true rfl, Nat.le_of_ble_eq_true rfl, Nat.le_of_ble_eq_true rfl, Nat.le_of_ble_eq_true rfl⟩ dX5_closest_47 ?_
              have habs : (if 0 ≤ ((V (6 + 2 * i)) - (V (6 + 2 * j))) then ((V (6 + 2 * i)) - (V (6 + 2 * j))) else 0 - ((V (6 + 2 * i)) - (V (6 + 2 * j)))).toInt = (if 0 ≤ (V (6 + 2 * i)).toInt - (V (6 + 2 * j)).toInt then (V (6 + 2 * i)).toInt - (V (6 + 2 * j)).toInt else 0 - ((V (6 + 2 * i)).toInt - (V (6 + 2 * j)).toInt)) := (tI_abs (tI_sub rfl rfl (by omega)) (by omega))
              refine E_istore [(4, .int (if 0 ≤ ((V (6 + 2 * i)) - (V (6 + 2 * j))) then ((V (6 + 2 * i)) - (V (6 + 2 * j))) else 0 - ((V (6 + 2 * i)) - (V (6 + 2 * j))))), (0, .ref 0), (1, .int xm), (2, .int xi), (3, .int xj)] dX5_closest_50 (by decide) rfl ?_
              refine E_iload_n 2 dX5_closest_52 rfl rfl ?_
              refine E_iconst (-1) (by decide) dX5_closest_53 ?_
              refine Z_eq xm.toInt (-1) rfl (show ((-1) : Int32).toInt = (-1) from rfl) 63 dX5_closest_54 (by decide) (fun c_54 => ?_) (fun c_54 => ?_)
              · skip
                refine E_iload 0 dX5_closest_63 rfl ?_
                refine E_istore_n [(1, .int (if 0 ≤ ((V (6 + 2 * i)) - (V (6 + 2 * j))) then ((V (6 + 2 * i)) - (V (6 + 2 * j))) else 0 - ((V (6 + 2 * i)) - (V (6 + 2 * j))))), (4, .int (if 0 ≤ ((V (6 + 2 * i)) - (V (6 + 2 * j))) then ((V (6 + 2 * i)) - (V (6 + 2 * j))) else 0 - ((V (6 + 2 * i)) - (V (6 + 2 * j))))), (0, .ref 0), (2, .int xi), (3, .int xj)] dX5_closest_65 rfl (by decide) rfl ?_
                refine E_iinc 4 (xj + 1) [(3, .int (xj + 1)), (1, .int (if 0 ≤ ((V (6 + 2 * i)) - (V (6 + 2 * j))) then ((V (6 + 2 * i)) - (V (6 + 2 * j))) else 0 - ((V (6 + 2 * i)) - (V (6 + 2 * j))))), (4, .int (if 0 ≤ ((V (6 + 2 * i)) - (V (6 + 2 * j))) then ((V (6 + 2 * i)) - (V (6 + 2 * j))) else 0 - ((V (6 + 2 * i)) - (V (6 + 2 * j))))), (0, .ref 0), (2, .int xi)] dX5_closest_66 rfl rfl (by decide) rfl ?_
                refine E_goto 19 dX5_closest_69 (by decide) ?_
                refine E_sub [3, 1, 4, 0] rfl ?_
                exact ih19 (xj + 1) (if 0 ≤ ((V (6 + 2 * i)) - (V (6 + 2 * j))) then ((V (6 + 2 * i)) - (V (6 + 2 * j))) else 0 - ((V (6 + 2 * i)) - (V (6 + 2 * j)))) (j + 1) (by omega) ((tI_add hj (show (1 : Int32).toInt = 1 from rfl) (by omega)).trans (by omega)) (by omega) (by omega) (clI_y hc2 hij (by omega) habs (Or.inl c_54))
              · skip
                refine E_iload 0 dX5_closest_57 rfl ?_
                refine E_iload_n 2 dX5_closest_59 rfl rfl ?_
                refine Z_ge (if 0 ≤ ((V (6 + 2 * i)).toInt - (V (6 + 2 * j)).toInt) then ((V (6 + 2 * i)).toInt - (V (6 + 2 * j)).toInt) else 0 - ((V (6 + 2 * i)).toInt - (V (6 + 2 * j)).toInt)) xm.toInt (tI_abs (tI_sub rfl rfl (by omega)) (by omega)) rfl 66 dX5_closest_60 (by decide) (fun c_60 => ?_) (fun c_60 => ?_)
                · skip
                  refine E_iinc 4 (xj + 1) [(3, .int (xj + 1)), (4, .int (if 0 ≤ ((V (6 + 2 * i)) - (V (6 + 2 * j))) then ((V (6 + 2 * i)) - (V (6 + 2 * j))) else 0 - ((V (6 + 2 * i)) - (V (6 + 2 * j))))), (0, .ref 0), (1, .int xm), (2, .int xi)] dX5_closest_66 rfl rfl (by decide) rfl ?_
                  refine E_goto 19 dX5_closest_69 (by decide) ?_
                  refine E_sub [2, 3, 4, 0] rfl ?_
                  exact ih19 (xj + 1) xm (j + 1) (by omega) ((tI_add hj (show (1 : Int32).toInt = 1 from rfl) (by omega)).trans (by omega)) (by omega) (by omega) (clI_n hc2 habs c_54 (by omega))
                · skip
                  refine E_iload 0 dX5_closest_63 rfl ?_
                  refine E_istore_n [(1, .int (if 0 ≤ ((V (6 + 2 * i)) - (V (6 + 2 * j))) then ((V (6 + 2 * i)) - (V (6 + 2 * j))) else 0 - ((V (6 + 2 * i)) - (V (6 + 2 * j))))), (4, .int (if 0 ≤ ((V (6 + 2 * i)) - (V (6 + 2 * j))) then ((V (6 + 2 * i)) - (V (6 + 2 * j))) else 0 - ((V (6 + 2 * i)) - (V (6 + 2 * j))))), (0, .ref 0), (2, .int xi), (3, .int xj)] dX5_closest_65 rfl (by decide) rfl ?_
                  refine E_iinc 4 (xj + 1) [(3, .int (xj + 1)), (1, .int (if 0 ≤ ((V (6 + 2 * i)) - (V (6 + 2 * j))) then ((V (6 + 2 * i)) - (V (6 + 2 * j))) else 0 - ((V (6 + 2 * i)) - (V (6 + 2 * j))))), (4, .int (if 0 ≤ ((V (6 + 2 * i)) - (V (6 + 2 * j))) then ((V (6 + 2 * i)) - (V (6 + 2 * j))) else 0 - ((V (6 + 2 * i)) - (V (6 + 2 * j))))), (0, .ref 0), (2, .int xi)] dX5_closest_66 rfl rfl (by decide) rfl ?_
                  refine E_goto 19 dX5_closest_69 (by decide) ?_
                  refine E_sub [3, 1, 4, 0] rfl ?_
                  exact ih19 (xj + 1) (if 0 ≤ ((V (6 + 2 * i)) - (V (6 + 2 * j))) then ((V (6 + 2 * i)) - (V (6 + 2 * j))) else 0 - ((V (6 + 2 * i)) - (V (6 + 2 * j)))) (j + 1) (by omega) ((tI_add hj (show (1 : Int32).toInt = 1 from rfl) (by omega)).trans (by omega)) (by omega) (by omega) (clI_y hc2 hij (by omega) habs (Or.inr (by omega)))
        refine E_sub [1, 2, 3, 0] rfl ?_
        exact J19 _ (xi + 1) xl (i + 1) (Nat.lt_succ_self _) ((tI_add hi (show (1 : Int32).toInt = 1 from rfl) (by omega)).trans (by omega)) (by omega) (by omega) hc
  refine E_sub [2, 1, 0] rfl ?_
  exact J4 _ 0 (-1) 0 (Nat.lt_succ_self _) (show (0 : Int32).toInt = 0 from rfl) (Nat.zero_le _) (Or.inl ⟨rfl, fun a b _ _ _ => by omega⟩)
end FA4
