section MO5
set_option maxHeartbeats 1600000 in
set_option maxRecDepth 100000 in
theorem c_X6_addMixer (l : Launch) (hfl : l.stackTraces = false) (mi : MI) (ml : MJ) (n sc : Nat) (hn : (mi 62 5).toInt = (n : Int)) (h10 : n ≤ 10) (hsc : (mi 61 2).toInt = (sc : Int)) (h4 : sc ≤ 4) (nm : Nat) (hnm : (mi 62 26).toInt = (nm : Int)) (hm5 : nm ≤ 5) (a : Int32) (A : Int) (hA : a.toInt = A) : Ct l yX6_addMixer (.code yX6_addMixer cX6_addMixer 2 (some .int)) 2 0 0 [.ref 61, .int a] (wl mi ml) (QI (fun r mi9 ml9 => ml = ml9 ∧ ((¬ (0 ≤ A ∧ A ≤ ((2 ^ n - 1 : Nat) : Int)) ∧ u2 mi 61 5 1 = mi9) ∨ ((0 ≤ A ∧ A ≤ ((2 ^ n - 1 : Nat) : Int)) ∧ nm = 5 ∧ u2 mi 61 5 2 = mi9) ∨ ((0 ≤ A ∧ A ≤ ((2 ^ n - 1 : Nat) : Int)) ∧ nm < 5 ∧ r.toInt = (nm : Int) ∧ ∃ (mk : MI) (x : Int32), Kept (u2 mi 61 5 0) mk ∧ x.toInt = (nm : Int) + 1 ∧ u2 (u2 (u2 mk 62 32 0) 62 (27 + nm) a) 62 26 x = mi9)))) noX := by
  refine Ct_of (ini := false) pn_X6 hfl (fun h => nomatch h) (Nat.le_of_ble_eq_true rfl) ?_
  show E l RX6 cX6_addMixer 2 (some .int) false [] (rmE 2 0 0) (wl mi ml) (TgM (wl mi ml) 0 0 (QI (fun r mi9 ml9 => ml = ml9 ∧ ((¬ (0 ≤ A ∧ A ≤ ((2 ^ n - 1 : Nat) : Int)) ∧ u2 mi 61 5 1 = mi9) ∨ ((0 ≤ A ∧ A ≤ ((2 ^ n - 1 : Nat) : Int)) ∧ nm = 5 ∧ u2 mi 61 5 2 = mi9) ∨ ((0 ≤ A ∧ A ≤ ((2 ^ n - 1 : Nat) : Int)) ∧ nm < 5 ∧ r.toInt = (nm : Int) ∧ ∃ (mk : MI) (x : Int32), Kept (u2 mi 61 5 0) mk ∧ x.toInt = (nm : Int) + 1 ∧ u2 (u2 (u2 mk 62 32 0) 62 (27 + nm) a) 62 26 x = mi9)))) noX) 0 0 0 [(0, .ref 61), (1, .int a)] [] (wl mi ml)
  refine E_aload_n 0 dX6_addMixer_0 rfl rfl ?_
  refine E_aload_n 0 dX6_addMixer_1 rfl rfl ?_
  refine E_iload_n 1 dX6_addMixer_2 rfl rfl ?_
  refine E_callV (c_X6_isSet l hfl mi ml n hn (by omega) a A hA) cw_X6_113 (As := [.int a]) (st := [.ref 61]) wi_yX6_isSet we_yX6_isSet (ci := 6) (q := (RX6, TX6, 23)) rfl rfl (wl_atO tw_61) rfl ⟨Nat.le_of_ble_eq_true rfl, Nat.le_of_ble_eq_true rfl, Nat.le_of_ble_eq_true rfl, Nat.le_of_ble_eq_true rfl⟩ (Nat.le_of_ble_eq_true rfl) dX6_addMixer_3 (fun _ _ h => h) rfl (kE ?_)
  refine B_ne 13 dX6_addMixer_6 (by decide) (fun c_6 => ?_) (fun c_6 => ?_)
  · skip
    refine E_aload_n 0 dX6_addMixer_13 rfl rfl ?_
    refine gf_X6_7 tw_61 rfl dX6_addMixer_14 ?_
    refine E_bipush 26 (by decide) dX6_addMixer_17 ?_
    refine S_iald 26 (mi 62 26) tw_62 rfl (by decide) rfl dX6_addMixer_19 ?_
    refine E_iconst 5 (by decide) dX6_addMixer_20 ?_
    refine Z_ne (nm : Int) 5 hnm (show (5 : Int32).toInt = 5 from rfl) 28 dX6_addMixer_21 (by decide) (fun c_21 => ?_) (fun c_21 => ?_)
    · skip
      refine E_iconst 0 (by decide) dX6_addMixer_28 ?_
      refine pf_X6_43 tw_61 rfl dX6_addMixer_29 ?_
      refine E_aload_n 0 dX6_addMixer_32 rfl rfl ?_
      refine gf_X6_43 0 tw_61 rfl (u2_s _ _ _ _) dX6_addMixer_33 ?_
      refine Y_eq 0 (show (0 : Int32).toInt = 0 from rfl) 41 dX6_addMixer_36 (by decide) (fun c_36 => ?_) (fun c_36 => ?_)
      · skip
        refine E_aload_n 0 dX6_addMixer_41 rfl rfl ?_
        refine E_callV (c_X6_change l hfl (u2 mi 61 5 0) ml sc ((congrArg Int32.toInt ((u2_n (by omega)).trans rfl)).trans hsc) (by omega)) cw_X6_72 (As := []) (st := []) wi_yX6_change we_yX6_change (ci := 6) (q := (RX6, TX6, 23)) rfl rfl (wl_atO tw_61) rfl ⟨Nat.le_of_ble_eq_true rfl, Nat.le_of_ble_eq_true rfl, Nat.le_of_ble_eq_true rfl, Nat.le_of_ble_eq_true rfl⟩ (Nat.le_of_ble_eq_true rfl) dX6_addMixer_42 (fun _ _ h => h) rfl (kV (fun mi_42 ml_42 h_42 => ?_))
        obtain ⟨mk_42, hK_42, rfl, rfl⟩ := h_42
        refine E_aload_n 0 dX6_addMixer_45 rfl rfl ?_
        refine gf_X6_7 tw_61 rfl dX6_addMixer_46 ?_
        refine E_bipush 27 (by decide) dX6_addMixer_49 ?_
        refine E_aload_n 0 dX6_addMixer_51 rfl rfl ?_
        refine gf_X6_7 tw_61 rfl dX6_addMixer_52 ?_
        refine E_bipush 26 (by decide) dX6_addMixer_55 ?_
        refine S_iald 26 (mi 62 26) tw_62 rfl (by decide) ((u2_n (by omega)).trans ((congrFun (hK_42.1 62 (by decide)) 26).trans ((u2_n (by omega)).trans rfl))) dX6_addMixer_57 ?_
        refine E_iadd dX6_addMixer_58 ?_
        refine E_iload_n 1 dX6_addMixer_59 rfl rfl ?_
        refine S_iast (27 + nm) tw_62 ((tI_add (show (27 : Int32).toInt = 27 from rfl) hnm (by omega)).trans (by omega)) (by omega) dX6_addMixer_60 ?_
        refine E_aload_n 0 dX6_addMixer_61 rfl rfl ?_
        refine gf_X6_7 tw_61 rfl dX6_addMixer_62 ?_
        refine E_bipush 26 (by decide) dX6_addMixer_65 ?_
        refine E_dup2 rfl rfl dX6_addMixer_67 ?_
        refine S_iald 26 (mi 62 26) tw_62 rfl (by decide) ((u2_n (by omega)).trans ((u2_n (by omega)).trans ((congrFun (hK_42.1 62 (by decide)) 26).trans ((u2_n (by omega)).trans rfl)))) dX6_addMixer_68 ?_
        refine E_iconst 1 (by decide) dX6_addMixer_69 ?_
        refine E_iadd dX6_addMixer_70 ?_
        refine S_iast 26 tw_62 rfl (by decide) dX6_addMixer_71 ?_
        refine E_aload_n 0 dX6_addMixer_72 rfl rfl ?_
        refine gf_X6_7 tw_61 rfl dX6_addMixer_73 ?_
        refine E_bipush 26 (by decide) dX6_addMixer_76 ?_
        refine S_iald 26 ((mi 62 26) + 1) tw_62 rfl (by decide) (u2_s _ _ _ _) dX6_addMixer_78 ?_
        refine E_iconst 1 (by decide) dX6_addMixer_79 ?_
        refine E_isub dX6_addMixer_80 ?_
        refine E_iret rfl (Nat.le_of_ble_eq_true rfl) (Nat.le_of_ble_eq_true rfl) dX6_addMixer_81 ?_
        exact okQI ⟨rfl, Or.inr (Or.inr ⟨c_6, by omega, (tI_sub (tI_add hnm (show (1 : Int32).toInt = 1 from rfl) (by omega)) (show (1 : Int32).toInt = 1 from rfl) (by omega)).trans (by omega), _, _, hK_42, (tI_add hnm (show (1 : Int32).toInt = 1 from rfl) (by omega)).trans (by omega), rfl⟩)⟩
      · exact absurd c_36 (by decide)
    · skip
      refine E_iconst 2 (by decide) dX6_addMixer_24 ?_
      refine E_goto 29 dX6_addMixer_25 (by decide) ?_
      refine pf_X6_43 tw_61 rfl dX6_addMixer_29 ?_
      refine E_aload_n 0 dX6_addMixer_32 rfl rfl ?_
      refine gf_X6_43 2 tw_61 rfl (u2_s _ _ _ _) dX6_addMixer_33 ?_
      refine Y_eq 2 (show (2 : Int32).toInt = 2 from rfl) 41 dX6_addMixer_36 (by decide) (fun c_36 => ?_) (fun c_36 => ?_)
      · exact absurd c_36 (by decide)
      · skip
        refine E_iconst 0 (by decide) dX6_addMixer_39 ?_
        refine E_iret rfl (Nat.le_of_ble_eq_true rfl) (Nat.le_of_ble_eq_true rfl) dX6_addMixer_40 ?_
        exact okQI ⟨rfl, Or.inr (Or.inl ⟨c_6, by omega, rfl⟩)⟩
  · skip
    refine E_iconst 1 (by decide) dX6_addMixer_9 ?_
    refine E_goto 29 dX6_addMixer_10 (by decide) ?_
    refine pf_X6_43 tw_61 rfl dX6_addMixer_29 ?_
    refine E_aload_n 0 dX6_addMixer_32 rfl rfl ?_
    refine gf_X6_43 1 tw_61 rfl (u2_s _ _ _ _) dX6_addMixer_33 ?_
    refine Y_eq 1 (show (1 : Int32).toInt = 1 from rfl) 41 dX6_addMixer_36 (by decide) (fun c_36 => ?_) (fun c_36 => ?_)
    · exact absurd c_36 (by decide)
    · skip
      refine E_iconst 0 (by decide) dX6_addMixer_39 ?_
      refine E_iret rfl (Nat.le_of_ble_eq_true rfl) (Nat.le_of_ble_eq_true rfl) dX6_addMixer_40 ?_
      exact okQI ⟨rfl, Or.inl ⟨c_6, rfl⟩⟩
set_option maxHeartbeats 1600000 in
set_option maxRecDepth 100000 in
theorem c_X6_setMember (l : Launch) (hfl : l.stackTraces = false) (mi : MI) (ml : MJ) (n sc : Nat) (hn : (mi 62 5).toInt = (n : Int)) (h10 : n ≤ 10) (hsc : (mi 61 2).toInt = (sc : Int)) (h4 : sc ≤ 4) (nm : Nat) (hnm : (mi 62 26).toInt = (nm : Int)) (hm5 : nm ≤ 5) (a c : Int32) (A C : Int) (hA : a.toInt = A) (hC : c.toInt = C) (P : Prop) : Ct l yX6_setMember (.code yX6_setMember cX6_setMember 5 (some .int)) 2 0 0 [.ref 61, .int a, .int c, .int (bI (P))] (wl mi ml) (QI (fun r mi9 ml9 => ml = ml9 ∧ ((¬ ((0 ≤ A ∧ A ≤ (nm : Int) - 1) ∧ (0 ≤ C ∧ C ≤ (n : Int) - 1)) ∧ u2 mi 61 5 1 = mi9) ∨ (∃ (b d : Nat) (mk : MI), b < nm ∧ d < n ∧ A = (b : Int) ∧ C = (d : Int) ∧ Kept (u2 mi 61 5 0) mk ∧ u2 (u2 mk 62 32 0) 62 (27 + b) r = mi9 ∧ ((P ∧ r = (mi 62 (27 + b) &&& (((1 : Int32) <<< (c &&& 31)) ^^^ (-1))) ||| ((1 : Int32) <<< (c &&& 31))) ∨ (¬ P ∧ r = mi 62 (27 + b) &&& (((1 : Int32) <<< (c &&& 31)) ^^^ (-1)))))))) noX := by
  refine Ct_of (ini := false) pn_X6 hfl (fun h => nomatch h) (Nat.le_of_ble_eq_true rfl) ?_
  show E l RX6 cX6_setMember 5 (some .int) false [] (rmE 2 0 0) (wl mi ml) (TgM (wl mi ml) 0 0 (QI (fun r mi9 ml9 => ml = ml9 ∧ ((¬ ((0 ≤ A ∧ A ≤ (nm : Int) - 1) ∧ (0 ≤ C ∧ C ≤ (n : Int) - 1)) ∧ u2 mi 61 5 1 = mi9) ∨ (∃ (b d : Nat) (mk : MI), b < nm ∧ d < n ∧ A = (b : Int) ∧ C = (d : Int) ∧ Kept (u2 mi 61 5 0) mk ∧ u2 (u2 mk 62 32 0) 62 (27 + b) r = mi9 ∧ ((P ∧ r = (mi 62 (27 + b) &&& (((1 : Int32) <<< (c &&& 31)) ^^^ (-1))) ||| ((1 : Int32) <<< (c &&& 31))) ∨ (¬ P ∧ r = mi 62 (27 + b) &&& (((1 : Int32) <<< (c &&& 31)) ^^^ (-1)))))))) noX) 0 0 0 [(0, .ref 61), (1, .int a), (2, .int c), (3, .int (bI (P)))] [] (wl mi ml)
  refine E_aload_n 0 dX6_setMember_0 rfl rfl ?_
  refine E_aload_n 0 dX6_setMember_1 rfl rfl ?_
  refine E_iload_n 1 dX6_setMember_2 rfl rfl ?_
  refine E_callV (c_X6_isMixer l hfl mi ml nm hnm (by omega) a A hA) cw_X6_158 (As := [.int a]) (st := [.ref 61]) wi_yX6_isMixer we_yX6_isMixer (ci := 6) (q := (RX6, TX6, 23)) rfl rfl (wl_atO tw_61) rfl ⟨Nat.le_of_ble_eq_true rfl, Nat.le_of_ble_eq_true rfl, Nat.le_of_ble_eq_true rfl, Nat.le_of_ble_eq_true rfl⟩ (Nat.le_of_ble_eq_true rfl) dX6_setMember_3 (fun _ _ h => h) rfl (kE ?_)
  refine B_eq 21 dX6_setMember_6 (by decide) (fun c_6 => ?_) (fun c_6 => ?_)
  · skip
    refine E_iconst 1 (by decide) dX6_setMember_21 ?_
    refine pf_X6_43 tw_61 rfl dX6_setMember_22 ?_
    refine E_aload_n 0 dX6_setMember_25 rfl rfl ?_
    refine gf_X6_43 1 tw_61 rfl (u2_s _ _ _ _) dX6_setMember_26 ?_
    refine Y_eq 1 (show (1 : Int32).toInt = 1 from rfl) 34 dX6_setMember_29 (by decide) (fun c_29 => ?_) (fun c_29 => ?_)
    · exact absurd c_29 (by decide)
    · skip
      refine E_iconst 0 (by decide) dX6_setMember_32 ?_
      refine E_iret rfl (Nat.le_of_ble_eq_true rfl) (Nat.le_of_ble_eq_true rfl) dX6_setMember_33 ?_
      exact okQI ⟨rfl, Or.inl ⟨by first | exact fun q => c_6 q.1 | exact fun q => c_14 q.2, rfl⟩⟩
  · skip
    refine E_aload_n 0 dX6_setMember_9 rfl rfl ?_
    refine E_iload_n 2 dX6_setMember_10 rfl rfl ?_
    refine E_callV (c_X6_isCarrier l hfl mi ml n hn (by omega) c C hC) cw_X6_79 (As := [.int c]) (st := [.ref 61]) wi_yX6_isCarrier we_yX6_isCarrier (ci := 6) (q := (RX6, TX6, 23)) rfl rfl (wl_atO tw_61) rfl ⟨Nat.le_of_ble_eq_true rfl, Nat.le_of_ble_eq_true rfl, Nat.le_of_ble_eq_true rfl, Nat.le_of_ble_eq_true rfl⟩ (Nat.le_of_ble_eq_true rfl) dX6_setMember_11 (fun _ _ h => h) rfl (kE ?_)
    refine B_eq 21 dX6_setMember_14 (by decide) (fun c_14 => ?_) (fun c_14 => ?_)
    · skip
      refine E_iconst 1 (by decide) dX6_setMember_21 ?_
      refine pf_X6_43 tw_61 rfl dX6_setMember_22 ?_
      refine E_aload_n 0 dX6_setMember_25 rfl rfl ?_
      refine gf_X6_43 1 tw_61 rfl (u2_s _ _ _ _) dX6_setMember_26 ?_
      refine Y_eq 1 (show (1 : Int32).toInt = 1 from rfl) 34 dX6_setMember_29 (by decide) (fun c_29 => ?_) (fun c_29 => ?_)
      · exact absurd c_29 (by decide)
      · skip
        refine E_iconst 0 (by decide) dX6_setMember_32 ?_
        refine E_iret rfl (Nat.le_of_ble_eq_true rfl) (Nat.le_of_ble_eq_true rfl) dX6_setMember_33 ?_
        exact okQI ⟨rfl, Or.inl ⟨by first | exact fun q => c_6 q.1 | exact fun q => c_14 q.2, rfl⟩⟩
    · skip
      refine E_iconst 0 (by decide) dX6_setMember_17 ?_
      refine E_goto 22 dX6_setMember_18 (by decide) ?_
      refine pf_X6_43 tw_61 rfl dX6_setMember_22 ?_
      refine E_aload_n 0 dX6_setMember_25 rfl rfl ?_
      refine gf_X6_43 0 tw_61 rfl (u2_s _ _ _ _) dX6_setMember_26 ?_
      refine Y_eq 0 (show (0 : Int32).toInt = 0 from rfl) 34 dX6_setMember_29 (by decide) (fun c_29 => ?_) (fun c_29 => ?_)
      · skip
        obtain ⟨b, rfl⟩ : ∃ b : Nat, A = (b : Int) := ⟨A.toNat, by omega⟩
        obtain ⟨d, rfl⟩ : ∃ d : Nat, C = (d : Int) := ⟨C.toNat, by omega⟩
        refine E_aload_n 0 dX6_setMember_34 rfl rfl ?_
        refine E_callV (c_X6_change l hfl (u2 mi 61 5 0) ml sc ((congrArg Int32.toInt ((u2_n (by omega)).trans rfl)).trans hsc) (by omega)) cw_X6_72 (As := []) (st := []) wi_yX6_change we_yX6_change (ci := 6) (q := (RX6, TX6, 23)) rfl rfl (wl_atO tw_61) rfl ⟨Nat.le_of_ble_eq_true rfl, Nat.le_of_ble_eq_true rfl, Nat.le_of_ble_eq_true rfl, Nat.le_of_ble_eq_true rfl⟩ (Nat.le_of_ble_eq_true rfl) dX6_setMember_35 (fun _ _ h => h) rfl (kV (fun mi_35 ml_35 h_35 => ?_))
        obtain ⟨mk_35, hK_35, rfl, rfl⟩ := h_35
        refine E_aload_n 0 dX6_setMember_38 rfl rfl ?_
        refine gf_X6_7 tw_61 rfl dX6_setMember_39 ?_
        refine E_bipush 27 (by decide) dX6_setMember_42 ?_
        refine E_iload_n 1 dX6_setMember_44 rfl rfl ?_
        refine E_iadd dX6_setMember_45 ?_
        have hv9 : (u2 mk_35 62 32 0) 62 (27 + b) = mi 62 (27 + b) := (u2_n (by omega)).trans (by rw [hK_35.1 62 (by decide)]; exact u2_n (by omega))
        refine S_iald (27 + b) (mi 62 (27 + b)) tw_62 ((tI_add (show (27 : Int32).toInt = 27 from rfl) hA (by omega)).trans (by omega)) (by omega) hv9 dX6_setMember_46 ?_
        refine E_iconst 1 (by decide) dX6_setMember_47 ?_
        refine E_iload_n 2 dX6_setMember_48 rfl rfl ?_
        refine E_ishl dX6_setMember_49 ?_
        refine E_iconst (-1) (by decide) dX6_setMember_50 ?_
        refine E_ixor dX6_setMember_51 ?_
        refine E_iand dX6_setMember_52 ?_
        refine E_istore [(4, .int ((mi 62 (27 + b)) &&& (((1 : Int32) <<< (c &&& 31)) ^^^ ((-1) : Int32)))), (0, .ref 61), (1, .int a), (2, .int c), (3, .int (bI (P)))] dX6_setMember_53 (by decide) rfl ?_
        refine E_aload_n 1 dX6_setMember_55 rfl rfl ?_
        refine gf_X6_7 tw_61 rfl dX6_setMember_56 ?_
        refine E_bipush 27 (by decide) dX6_setMember_59 ?_
        refine E_iload_n 2 dX6_setMember_61 rfl rfl ?_
        refine E_iadd dX6_setMember_62 ?_
        refine E_iload_n 4 dX6_setMember_63 rfl rfl ?_
        refine B_eq 76 dX6_setMember_64 (by decide) (fun c_64 => ?_) (fun c_64 => ?_)
        · skip
          refine E_iload 0 dX6_setMember_76 rfl ?_
          refine S_iast (27 + b) tw_62 ((tI_add (show (27 : Int32).toInt = 27 from rfl) hA (by omega)).trans (by omega)) (by omega) dX6_setMember_78 ?_
          refine E_aload_n 1 dX6_setMember_79 rfl rfl ?_
          refine gf_X6_7 tw_61 rfl dX6_setMember_80 ?_
          refine E_bipush 27 (by decide) dX6_setMember_83 ?_
          refine E_iload_n 2 dX6_setMember_85 rfl rfl ?_
          refine E_iadd dX6_setMember_86 ?_
          refine S_iald (27 + b) ((mi 62 (27 + b)) &&& (((1 : Int32) <<< (c &&& 31)) ^^^ ((-1) : Int32))) tw_62 ((tI_add (show (27 : Int32).toInt = 27 from rfl) hA (by omega)).trans (by omega)) (by omega) (u2_s _ _ _ _) dX6_setMember_87 ?_
          refine E_iret rfl (Nat.le_of_ble_eq_true rfl) (Nat.le_of_ble_eq_true rfl) dX6_setMember_88 ?_
          exact okQI ⟨rfl, Or.inr ⟨b, d, _, by omega, by omega, rfl, rfl, hK_35, rfl, Or.inr ⟨c_64, rfl⟩⟩⟩
        · skip
          refine E_iload 0 dX6_setMember_67 rfl ?_
          refine E_iconst 1 (by decide) dX6_setMember_69 ?_
          refine E_iload_n 3 dX6_setMember_70 rfl rfl ?_
          refine E_ishl dX6_setMember_71 ?_
          refine E_ior dX6_setMember_72 ?_
          refine E_goto 78 dX6_setMember_73 (by decide) ?_
          refine S_iast (27 + b) tw_62 ((tI_add (show (27 : Int32).toInt = 27 from rfl) hA (by omega)).trans (by omega)) (by omega) dX6_setMember_78 ?_
          refine E_aload_n 1 dX6_setMember_79 rfl rfl ?_
          refine gf_X6_7 tw_61 rfl dX6_setMember_80 ?_
          refine E_bipush 27 (by decide) dX6_setMember_83 ?_
          refine E_iload_n 2 dX6_setMember_85 rfl rfl ?_
          refine E_iadd dX6_setMember_86 ?_
          refine S_iald (27 + b) (((mi 62 (27 + b)) &&& (((1 : Int32) <<< (c &&& 31)) ^^^ ((-1) : Int32))) ||| ((1 : Int32) <<< (c &&& 31))) tw_62 ((tI_add (show (27 : Int32).toInt = 27 from rfl) hA (by omega)).trans (by omega)) (by omega) (u2_s _ _ _ _) dX6_setMember_87 ?_
          refine E_iret rfl (Nat.le_of_ble_eq_true rfl) (Nat.le_of_ble_eq_true rfl) dX6_setMember_88 ?_
          exact okQI ⟨rfl, Or.inr ⟨b, d, _, by omega, by omega, rfl, rfl, hK_35, rfl, Or.inl ⟨c_64, rfl⟩⟩⟩
      · exact absurd c_29 (by decide)
def rmB (x low : Int32) : Int32 := (x &&& low) ||| ((x >>> (1 &&& 31)) &&& (low ^^^ (-1)))
theorem rm_a {mk mj : MI} {x : Int32} {b i : Nat} (h2 : ∀ j, b ≤ j → j < i → mj 62 (6 + 2 * j) = mk 62 (6 + 2 * (j + 1)) ∧ mj 62 (7 + 2 * j) = mk 62 (7 + 2 * (j + 1))) (h3 : ∀ k, (k < 6 + 2 * b ∨ 6 + 2 * i ≤ k) → mj 62 k = (u2 (u2 mk 62 32 0) 62 5 x) 62 k) (hb : b ≤ i) (hi : i < 9) :
    ∀ j, b ≤ j → j < i + 1 → (u2 (u2 mj 62 (6 + 2 * i) (mj 62 (6 + 2 * (i + 1)))) 62 (7 + 2 * i) (mj 62 (7 + 2 * (i + 1)))) 62 (6 + 2 * j) = mk 62 (6 + 2 * (j + 1)) ∧ (u2 (u2 mj 62 (6 + 2 * i) (mj 62 (6 + 2 * (i + 1)))) 62 (7 + 2 * i) (mj 62 (7 + 2 * (i + 1)))) 62 (7 + 2 * j) = mk 62 (7 + 2 * (j + 1)) := by
  intro j hj hj2
  rcases Nat.lt_or_ge j i with q | q
  · rw [u2_n (by omega), u2_n (by omega), u2_n (by omega), u2_n (by omega)]
    exact h2 j hj q
  · have e : j = i := by omega
    subst e
    rw [u2_n (by omega), u2_s, u2_s, h3 _ (by omega), h3 _ (by omega), u2_n (by omega), u2_n (by omega), u2_n (by omega), u2_n (by omega)]
    exact ⟨rfl, rfl⟩
theorem rm_b {mi mk mj mq : MI} {x c v0 : Int32} {b i n nm i2 : Nat} {kc : Nat} (hK : Kept (u2 mi 61 kc v0) mk) (hF : Fr [62] (u2 (u2 mk 62 32 0) 62 5 x) mj) (h2 : ∀ j, b ≤ j → j < i → mj 62 (6 + 2 * j) = mk 62 (6 + 2 * (j + 1)) ∧ mj 62 (7 + 2 * j) = mk 62 (7 + 2 * (j + 1))) (h3 : ∀ k, (k < 6 + 2 * b ∨ 6 + 2 * i ≤ k) → mj 62 k = (u2 (u2 mk 62 32 0) 62 5 x) 62 k)
    (hF2 : Fr [62] mj mq) (q2 : ∀ k, k < i2 → mq 62 (27 + k) = rmB (mj 62 (27 + k)) (((1 : Int32) <<< (c &&& 31)) - 1)) (q3 : ∀ k, (k < 27 ∨ 27 + i2 ≤ k) → mq 62 k = mj 62 k) (hb9 : b < n) (hin : i + 1 = n) (hnm : i2 = nm) (hn : n ≤ 10) (hm : nm ≤ 5) (hq5 : mq 62 5 = x) (hx : x.toInt = (n : Int) - 1) :
    Fr [62] mk mq ∧ (∀ j, b ≤ j → j + 1 < n → mq 62 (6 + 2 * j) = mi 62 (6 + 2 * (j + 1)) ∧ mq 62 (7 + 2 * j) = mi 62 (7 + 2 * (j + 1))) ∧ (∀ k, k < nm → mq 62 (27 + k) = rmB (mi 62 (27 + k)) (((1 : Int32) <<< (c &&& 31)) - 1)) ∧ (∀ k, k < 6 + 2 * b → k ≠ 5 → mq 62 k = mi 62 k) ∧ mq 62 26 = mi 62 26 ∧ (mq 62 5).toInt = (n : Int) - 1 ∧ mq 62 32 = 0 := by
  have hk62 : ∀ k, mk 62 k = mi 62 k := fun k => by rw [hK.1 62 (by decide)]; exact u2_n (Or.inl (by decide))
  subst hin; subst hnm
  refine ⟨fun p hp => ?_, fun j h1 h4 => ?_, fun k hk => ?_, fun k hk hk5 => ?_, ?_, by rw [hq5]; exact hx, ?_⟩
  · have : p ≠ 62 := fun e => hp (by rw [e]; decide)
    rw [hF2 p hp, hF p hp, u2_p this, u2_p this]
  · rw [q3 _ (by omega), q3 _ (by omega), (h2 j h1 (by omega)).1, (h2 j h1 (by omega)).2, hk62, hk62]
    exact ⟨rfl, rfl⟩
  · rw [q2 k hk, h3 _ (by omega), u2_n (by omega), u2_n (by omega), hk62]
  · rw [q3 _ (by omega), h3 _ (by omega), u2_n (by omega), u2_n (by omega), hk62]
  · rw [q3 _ (by omega), h3 _ (by omega), u2_n (by omega), u2_n (by omega), hk62]
  · rw [q3 _ (by omega), h3 _ (by omega), u2_n (by omega), u2_s]
set_option maxHeartbeats 1600000 in
set_option maxRecDepth 100000 in
theorem c_X6_removeCarrier (l : Launch) (hfl : l.stackTraces = false) (mi : MI) (ml : MJ) (n sc : Nat) (hn : (mi 62 5).toInt = (n : Int)) (h10 : n ≤ 10) (hsc : (mi 61 2).toInt = (sc : Int)) (h4 : sc ≤ 4) (nm : Nat) (hnm : (mi 62 26).toInt = (nm : Int)) (hm5 : nm ≤ 5) (c : Int32) (C : Int) (hC : c.toInt = C) : Ct l yX6_removeCarrier (.code yX6_removeCarrier cX6_removeCarrier 4 (some .int)) 2 0 0 [.ref 61, .int c] (wl mi ml) (QI (fun r mi9 ml9 => ml = ml9 ∧ ((¬ (0 ≤ C ∧ C ≤ (n : Int) - 1) ∧ u2 mi 61 5 1 = mi9) ∨ (∃ (b : Nat) (mk : MI), b < n ∧ C = (b : Int) ∧ r.toInt = (n : Int) - 1 ∧ Kept (u2 mi 61 5 0) mk ∧ Fr [62] mk mi9 ∧ (∀ j, b ≤ j → j + 1 < n → mi9 62 (6 + 2 * j) = mi 62 (6 + 2 * (j + 1)) ∧ mi9 62 (7 + 2 * j) = mi 62 (7 + 2 * (j + 1))) ∧ (∀ k, k < nm → mi9 62 (27 + k) = rmB (mi 62 (27 + k)) (((1 : Int32) <<< (c &&& 31)) - 1)) ∧ (∀ k, k < 6 + 2 * b → k ≠ 5 → mi9 62 k = mi 62 k) ∧ mi9 62 26 = mi 62 26 ∧ (mi9 62 5).toInt = (n : Int) - 1 ∧ mi9 62 32 = 0)))) noX := by
  refine Ct_of (ini := false) pn_X6 hfl (fun h => nomatch h) (Nat.le_of_ble_eq_true rfl) ?_
  show E l RX6 cX6_removeCarrier 4 (some .int) false [] (rmE 2 0 0) (wl mi ml) (TgM (wl mi ml) 0 0 (QI (fun r mi9 ml9 => ml = ml9 ∧ ((¬ (0 ≤ C ∧ C ≤ (n : Int) - 1) ∧ u2 mi 61 5 1 = mi9) ∨ (∃ (b : Nat) (mk : MI), b < n ∧ C = (b : Int) ∧ r.toInt = (n : Int) - 1 ∧ Kept (u2 mi 61 5 0) mk ∧ Fr [62] mk mi9 ∧ (∀ j, b ≤ j → j + 1 < n → mi9 62 (6 + 2 * j) = mi 62 (6 + 2 * (j + 1)) ∧ mi9 62 (7 + 2 * j) = mi 62 (7 + 2 * (j + 1))) ∧ (∀ k, k < nm → mi9 62 (27 + k) = rmB (mi 62 (27 + k)) (((1 : Int32) <<< (c &&& 31)) - 1)) ∧ (∀ k, k < 6 + 2 * b → k ≠ 5 → mi9 62 k = mi 62 k) ∧ mi9 62 26 = mi 62 26 ∧ (mi9 62 5).toInt = (n : Int) - 1 ∧ mi9 62 32 = 0)))) noX) 0 0 0 [(0, .ref 61), (1, .int c)] [] (wl mi ml)
  refine E_aload_n 0 dX6_removeCarrier_0 rfl rfl ?_
  refine E_aload_n 0 dX6_removeCarrier_1 rfl rfl ?_
  refine E_iload_n 1 dX6_removeCarrier_2 rfl rfl ?_
  refine E_callV (c_X6_isCarrier l hfl mi ml n hn (by omega) c C hC) cw_X6_79 (As := [.int c]) (st := [.ref 61]) wi_yX6_isCarrier we_yX6_isCarrier (ci := 6) (q := (RX6, TX6, 23)) rfl rfl (wl_atO tw_61) rfl ⟨Nat.le_of_ble_eq_true rfl, Nat.le_of_ble_eq_true rfl, Nat.le_of_ble_eq_true rfl, Nat.le_of_ble_eq_true rfl⟩ (Nat.le_of_ble_eq_true rfl) dX6_removeCarrier_3 (fun _ _ h => h) rfl (kE ?_)
  refine B_eq 13 dX6_removeCarrier_6 (by decide) (fun c_6 => ?_) (fun c_6 => ?_)
  · skip
    refine E_iconst 1 (by decide) dX6_removeCarrier_13 ?_
    refine pf_X6_43 tw_61 rfl dX6_removeCarrier_14 ?_
    refine E_aload_n 0 dX6_removeCarrier_17 rfl rfl ?_
    refine gf_X6_43 1 tw_61 rfl (u2_s _ _ _ _) dX6_removeCarrier_18 ?_
    refine Y_eq 1 (show (1 : Int32).toInt = 1 from rfl) 26 dX6_removeCarrier_21 (by decide) (fun c_21 => ?_) (fun c_21 => ?_)
    · exact absurd c_21 (by decide)
    · skip
      refine E_iconst 0 (by decide) dX6_removeCarrier_24 ?_
      refine E_iret rfl (Nat.le_of_ble_eq_true rfl) (Nat.le_of_ble_eq_true rfl) dX6_removeCarrier_25 ?_
      exact okQI ⟨rfl, Or.inl ⟨c_6, rfl⟩⟩
  · skip
    refine E_iconst 0 (by decide) dX6_removeCarrier_9 ?_
    refine E_goto 14 dX6_removeCarrier_10 (by decide) ?_
    refine pf_X6_43 tw_61 rfl dX6_removeCarrier_14 ?_
    refine E_aload_n 0 dX6_removeCarrier_17 rfl rfl ?_
    refine gf_X6_43 0 tw_61 rfl (u2_s _ _ _ _) dX6_removeCarrier_18 ?_
    refine Y_eq 0 (show (0 : Int32).toInt = 0 from rfl) 26 dX6_removeCarrier_21 (by decide) (fun c_21 => ?_) (fun c_21 => ?_)
    · skip
      obtain ⟨b, hCb⟩ : ∃ b : Nat, C = (b : Int) := ⟨C.toNat, by omega⟩
      refine E_aload_n 0 dX6_removeCarrier_26 rfl rfl ?_
      refine E_callV (c_X6_change l hfl (u2 mi 61 5 0) ml sc ((congrArg Int32.toInt ((u2_n (by omega)).trans rfl)).trans hsc) (by omega)) cw_X6_72 (As := []) (st := []) wi_yX6_change we_yX6_change (ci := 6) (q := (RX6, TX6, 23)) rfl rfl (wl_atO tw_61) rfl ⟨Nat.le_of_ble_eq_true rfl, Nat.le_of_ble_eq_true rfl, Nat.le_of_ble_eq_true rfl, Nat.le_of_ble_eq_true rfl⟩ (Nat.le_of_ble_eq_true rfl) dX6_removeCarrier_27 (fun _ _ h => h) rfl (kV (fun mi_27 ml_27 h_27 => ?_))
      obtain ⟨mk_27, hK_27, rfl, rfl⟩ := h_27
      refine E_aload_n 0 dX6_removeCarrier_30 rfl rfl ?_
      refine gf_X6_7 tw_61 rfl dX6_removeCarrier_31 ?_
      refine E_iconst 5 (by decide) dX6_removeCarrier_34 ?_
      refine E_dup2 rfl rfl dX6_removeCarrier_35 ?_
      refine S_iald 5 (mi 62 5) tw_62 rfl (by decide) ((u2_n (by omega)).trans ((congrFun (hK_27.1 62 (by decide)) 5).trans ((u2_n (by omega)).trans rfl))) dX6_removeCarrier_36 ?_
      refine E_iconst 1 (by decide) dX6_removeCarrier_37 ?_
      refine E_isub dX6_removeCarrier_38 ?_
      refine S_iast 5 tw_62 rfl (by decide) dX6_removeCarrier_39 ?_
      refine E_iload_n 1 dX6_removeCarrier_40 rfl rfl ?_
      refine E_istore_n [(2, .int c), (0, .ref 61), (1, .int c)] dX6_removeCarrier_41 rfl (by decide) rfl ?_
      have J42 : ∀ (N : Nat) (xi x : Int32) (i : Nat) (mj : MI), n - i < N → xi.toInt = (i : Int) → x.toInt = (n : Int) - 1 → b ≤ i → i + 1 ≤ n → Fr [62] (u2 (u2 mk_27 62 32 0) 62 5 x) mj → (∀ j, b ≤ j → j < i → mj 62 (6 + 2 * j) = mk_27 62 (6 + 2 * (j + 1)) ∧ mj 62 (7 + 2 * j) = mk_27 62 (7 + 2 * (j + 1))) → (∀ k, (k < 6 + 2 * b ∨ 6 + 2 * i ≤ k) → mj 62 k = (u2 (u2 mk_27 62 32 0) 62 5 x) 62 k) → E l RX6 cX6_removeCarrier 4 (some .int) false [] (rmE 2 0 0) (wl mi ml) (TgM (wl mi ml) 0 0 (QI (fun r mi9 ml9 => ml = ml9 ∧ ((¬ (0 ≤ C ∧ C ≤ (n : Int) - 1) ∧ u2 mi 61 5 1 = mi9) ∨ (∃ (b : Nat) (mk : MI), b < n ∧ C = (b : Int) ∧ r.toInt = (n : Int) - 1 ∧ Kept (u2 mi 61 5 0) mk ∧ Fr [62] mk mi9 ∧ (∀ j, b ≤ j → j + 1 < n → mi9 62 (6 + 2 * j) = mi 62 (6 + 2 * (j + 1)) ∧ mi9 62 (7 + 2 * j) = mi 62 (7 + 2 * (j + 1))) ∧ (∀ k, k < nm → mi9 62 (27 + k) = rmB (mi 62 (27 + k)) (((1 : Int32) <<< (c &&& 31)) - 1)) ∧ (∀ k, k < 6 + 2 * b → k ≠ 5 → mi9 62 k = mi 62 k) ∧ mi9 62 26 = mi 62 26 ∧ (mi9 62 5).toInt = (n : Int) - 1 ∧ mi9 62 32 = 0)))) noX) 0 0 42 [(0, .ref 61), (1, .int c), (2, .int xi)] [] (wl mj ml) := by
        intro N
        induction N with
        | zero => intros; omega
        | succ N ih42 =>
          intro xi x i mj hN42 hxi hx hbi hi hF h2 h3
          have hm5 : mj 62 5 = x := by rw [h3 5 (by omega)]; exact u2_s _ _ _ _
          have hm26 : (mj 62 26).toInt = (nm : Int) := by rw [h3 26 (by omega), u2_n (by omega), u2_n (by omega), hK_27.1 62 (by decide), u2_n (by omega)]; exact hnm
          refine E_iload_n 2 dX6_removeCarrier_42 rfl rfl ?_
          refine E_aload_n 0 dX6_removeCarrier_43 rfl rfl ?_
          refine gf_X6_7 tw_61 rfl dX6_removeCarrier_44 ?_
          refine E_iconst 5 (by decide) dX6_removeCarrier_47 ?_
          refine S_iald 5 x tw_62 rfl (by decide) hm5 dX6_removeCarrier_48 ?_
          refine Z_ge (i : Int) ((n : Int) - 1) hxi hx 77 dX6_removeCarrier_49 (by decide) (fun c_49 => ?_) (fun c_49 => ?_)
          · skip
            refine E_iconst 1 (by decide) dX6_removeCarrier_77 ?_
            refine E_iload_n 1 dX6_removeCarrier_78 rfl rfl ?_
            refine E_ishl dX6_removeCarrier_79 ?_
            refine E_iconst 1 (by decide) dX6_removeCarrier_80 ?_
            refine E_isub dX6_removeCarrier_81 ?_
            refine E_istore_n [(2, .int (((1 : Int32) <<< (c &&& 31)) - 1)), (0, .ref 61), (1, .int c)] dX6_removeCarrier_82 rfl (by decide) rfl ?_
            refine E_iconst 0 (by decide) dX6_removeCarrier_83 ?_
            refine E_istore_n [(3, .int 0), (2, .int (((1 : Int32) <<< (c &&& 31)) - 1)), (0, .ref 61), (1, .int c)] dX6_removeCarrier_84 rfl (by decide) rfl ?_
            have J85 : ∀ (N : Nat) (xi : Int32) (i : Nat) (mq : MI), nm - i < N → xi.toInt = (i : Int) → i ≤ nm → Fr [62] mj mq → (∀ k, k < i → mq 62 (27 + k) = rmB (mj 62 (27 + k)) (((1 : Int32) <<< (c &&& 31)) - 1)) → (∀ k, (k < 27 ∨ 27 + i ≤ k) → mq 62 k = mj 62 k) → E l RX6 cX6_removeCarrier 4 (some .int) false [] (rmE 2 0 0) (wl mi ml) (TgM (wl mi ml) 0 0 (QI (fun r mi9 ml9 => ml = ml9 ∧ ((¬ (0 ≤ C ∧ C ≤ (n : Int) - 1) ∧ u2 mi 61 5 1 = mi9) ∨ (∃ (b : Nat) (mk : MI), b < n ∧ C = (b : Int) ∧ r.toInt = (n : Int) - 1 ∧ Kept (u2 mi 61 5 0) mk ∧ Fr [62] mk mi9 ∧ (∀ j, b ≤ j → j + 1 < n → mi9 62 (6 + 2 * j) = mi 62 (6 + 2 * (j + 1)) ∧ mi9 62 (7 + 2 * j) = mi 62 (7 + 2 * (j + 1))) ∧ (∀ k, k < nm → mi9 62 (27 + k) = rmB (mi 62 (27 + k)) (((1 : Int32) <<< (c &&& 31)) - 1)) ∧ (∀ k, k < 6 + 2 * b → k ≠ 5 → mi9 62 k = mi 62 k) ∧ mi9 62 26 = mi 62 26 ∧ (mi9 62 5).toInt = (n : Int) - 1 ∧ mi9 62 32 = 0)))) noX) 0 0 85 [(0, .ref 61), (1, .int c), (2, .int (((1 : Int32) <<< (c &&& 31)) - 1)), (3, .int xi)] [] (wl mq ml) := by
              intro N
              induction N with
              | zero => intros; omega
              | succ N ih85 =>
                intro xi i mq hN85 hxi hi hF2 q2 q3
                have hq26 : (mq 62 26).toInt = (nm : Int) := by rw [q3 26 (by omega)]; exact hm26
                have hq5 : mq 62 5 = x := by rw [q3 5 (by omega)]; exact hm5
                refine E_iload_n 3 dX6_removeCarrier_85 rfl rfl ?_
                refine E_aload_n 0 dX6_removeCarrier_86 rfl rfl ?_
                refine gf_X6_7 tw_61 rfl dX6_removeCarrier_87 ?_
                refine E_bipush 26 (by decide) dX6_removeCarrier_90 ?_
                refine S_iald 26 (mq 62 26) tw_62 rfl (by decide) rfl dX6_removeCarrier_92 ?_
                refine Z_ge (i : Int) (nm : Int) hxi hq26 138 dX6_removeCarrier_93 (by decide) (fun c_93 => ?_) (fun c_93 => ?_)
                · skip
                  refine E_aload_n 0 dX6_removeCarrier_138 rfl rfl ?_
                  refine gf_X6_7 tw_61 rfl dX6_removeCarrier_139 ?_
                  refine E_iconst 5 (by decide) dX6_removeCarrier_142 ?_
                  refine S_iald 5 x tw_62 rfl (by decide) hq5 dX6_removeCarrier_143 ?_
                  refine E_iret rfl (Nat.le_of_ble_eq_true rfl) (Nat.le_of_ble_eq_true rfl) dX6_removeCarrier_144 ?_
                  exact okQI ⟨rfl, Or.inr ⟨b, mk_27, by omega, hCb, hx, hK_27, rm_b hK_27 hF h2 h3 hF2 q2 q3 (by omega) (by omega) (by omega) (by omega) (by omega) hq5 hx⟩⟩
                · skip
                  refine E_aload_n 0 dX6_removeCarrier_96 rfl rfl ?_
                  refine gf_X6_7 tw_61 rfl dX6_removeCarrier_97 ?_
                  refine E_bipush 27 (by decide) dX6_removeCarrier_100 ?_
                  refine E_iload_n 3 dX6_removeCarrier_102 rfl rfl ?_
                  refine E_iadd dX6_removeCarrier_103 ?_
                  refine E_aload_n 0 dX6_removeCarrier_104 rfl rfl ?_
                  refine gf_X6_7 tw_61 rfl dX6_removeCarrier_105 ?_
                  refine E_bipush 27 (by decide) dX6_removeCarrier_108 ?_
                  refine E_iload_n 3 dX6_removeCarrier_110 rfl rfl ?_
                  refine E_iadd dX6_removeCarrier_111 ?_
                  refine S_iald (27 + i) (mq 62 (27 + i)) tw_62 ((tI_add (show (27 : Int32).toInt = 27 from rfl) hxi (by omega)).trans (by omega)) (by omega) rfl dX6_removeCarrier_112 ?_
                  refine E_iload_n 2 dX6_removeCarrier_113 rfl rfl ?_
                  refine E_iand dX6_removeCarrier_114 ?_
                  refine E_aload_n 0 dX6_removeCarrier_115 rfl rfl ?_
                  refine gf_X6_7 tw_61 rfl dX6_removeCarrier_116 ?_
                  refine E_bipush 27 (by decide) dX6_removeCarrier_119 ?_
                  refine E_iload_n 3 dX6_removeCarrier_121 rfl rfl ?_
                  refine E_iadd dX6_removeCarrier_122 ?_
                  refine S_iald (27 + i) (mq 62 (27 + i)) tw_62 ((tI_add (show (27 : Int32).toInt = 27 from rfl) hxi (by omega)).trans (by omega)) (by omega) rfl dX6_removeCarrier_123 ?_
                  refine E_iconst 1 (by decide) dX6_removeCarrier_124 ?_
                  refine E_ishr dX6_removeCarrier_125 ?_
                  refine E_iload_n 2 dX6_removeCarrier_126 rfl rfl ?_
                  refine E_iconst (-1) (by decide) dX6_removeCarrier_127 ?_
                  refine E_ixor dX6_removeCarrier_128 ?_
                  refine E_iand dX6_removeCarrier_129 ?_
                  refine E_ior dX6_removeCarrier_130 ?_
                  refine S_iast (27 + i) tw_62 ((tI_add (show (27 : Int32).toInt = 27 from rfl) hxi (by omega)).trans (by omega)) (by omega) dX6_removeCarrier_131 ?_
                  refine E_iinc 3 (xi + 1) [(3, .int (xi + 1)), (0, .ref 61), (1, .int c), (2, .int (((1 : Int32) <<< (c &&& 31)) - 1))] dX6_removeCarrier_132 rfl rfl (by decide) rfl ?_
                  refine E_goto 85 dX6_removeCarrier_135 (by decide) ?_
                  refine E_sub [1, 2, 3, 0] rfl ?_
                  exact ih85 (xi + 1) (i + 1) (u2 mq 62 (27 + i) (((mq 62 (27 + i)) &&& (((1 : Int32) <<< (c &&& 31)) - 1)) ||| (((mq 62 (27 + i)) >>> ((1 : Int32) &&& 31)) &&& ((((1 : Int32) <<< (c &&& 31)) - 1) ^^^ ((-1) : Int32))))) (by omega) ((tI_add hxi (show (1 : Int32).toInt = 1 from rfl) (by omega)).trans (by omega)) (by omega) (hF2.u (by decide)) (lt_s (fun k hk => (u2_n (by omega)).trans (q2 k hk)) ((u2_s _ _ _ _).trans (by rw [q3 _ (by omega)]; rfl))) (fun k hk => (u2_n (by omega)).trans (q3 k (by omega)))
            refine E_sub [2, 3, 1, 0] rfl ?_
            exact J85 _ 0 0 mj (Nat.lt_succ_self _) (show (0 : Int32).toInt = 0 from rfl) (by omega) Fr.rfl' (fun k h => absurd h (Nat.not_lt_zero k)) (fun k _ => rfl)
          · skip
            refine E_aload_n 0 dX6_removeCarrier_52 rfl rfl ?_
            refine E_iload_n 2 dX6_removeCarrier_53 rfl rfl ?_
            refine E_aload_n 0 dX6_removeCarrier_54 rfl rfl ?_
            refine E_iload_n 2 dX6_removeCarrier_55 rfl rfl ?_
            refine E_iconst 1 (by decide) dX6_removeCarrier_56 ?_
            refine E_iadd dX6_removeCarrier_57 ?_
            refine E_callV (c_X6_channelOf l hfl mj ml (xi + 1) (i + 1) ((tI_add hxi (show (1 : Int32).toInt = 1 from rfl) (by omega)).trans (by omega)) (by omega)) cw_X6_57 (As := [.int (xi + 1)]) (st := [.int xi, .ref 61]) wi_yX6_channelOf we_yX6_channelOf (ci := 6) (q := (RX6, TX6, 23)) rfl rfl (wl_atO tw_61) rfl ⟨Nat.le_of_ble_eq_true rfl, Nat.le_of_ble_eq_true rfl, Nat.le_of_ble_eq_true rfl, Nat.le_of_ble_eq_true rfl⟩ (Nat.le_of_ble_eq_true rfl) dX6_removeCarrier_58 (fun _ _ h => h) rfl (kE ?_)
            refine E_aload_n 0 dX6_removeCarrier_61 rfl rfl ?_
            refine E_iload_n 2 dX6_removeCarrier_62 rfl rfl ?_
            refine E_iconst 1 (by decide) dX6_removeCarrier_63 ?_
            refine E_iadd dX6_removeCarrier_64 ?_
            refine E_callV (c_X6_levelOf l hfl mj ml (xi + 1) (i + 1) ((tI_add hxi (show (1 : Int32).toInt = 1 from rfl) (by omega)).trans (by omega)) (by omega)) cw_X6_82 (As := [.int (xi + 1)]) (st := [.int (mj 62 (6 + 2 * (i + 1))), .int xi, .ref 61]) wi_yX6_levelOf we_yX6_levelOf (ci := 6) (q := (RX6, TX6, 23)) rfl rfl (wl_atO tw_61) rfl ⟨Nat.le_of_ble_eq_true rfl, Nat.le_of_ble_eq_true rfl, Nat.le_of_ble_eq_true rfl, Nat.le_of_ble_eq_true rfl⟩ (Nat.le_of_ble_eq_true rfl) dX6_removeCarrier_65 (fun _ _ h => h) rfl (kE ?_)
            refine E_callV (c_X6_lay l hfl mj ml xi (mj 62 (6 + 2 * (i + 1))) (mj 62 (7 + 2 * (i + 1))) i (hxi.trans (by omega)) (by omega)) cw_X6_75 (As := [.int xi, .int (mj 62 (6 + 2 * (i + 1))), .int (mj 62 (7 + 2 * (i + 1)))]) (st := []) wi_yX6_lay we_yX6_lay (ci := 6) (q := (RX6, TX6, 23)) rfl rfl (wl_atO tw_61) rfl ⟨Nat.le_of_ble_eq_true rfl, Nat.le_of_ble_eq_true rfl, Nat.le_of_ble_eq_true rfl, Nat.le_of_ble_eq_true rfl⟩ (Nat.le_of_ble_eq_true rfl) dX6_removeCarrier_68 (fun _ _ h => h) rfl (kE0 ?_)
            refine E_iinc 2 (xi + 1) [(2, .int (xi + 1)), (0, .ref 61), (1, .int c)] dX6_removeCarrier_71 rfl rfl (by decide) rfl ?_
            refine E_goto 42 dX6_removeCarrier_74 (by decide) ?_
            refine E_sub [1, 2, 0] rfl ?_
            exact ih42 (xi + 1) x (i + 1) (u2 (u2 mj 62 (6 + 2 * i) (mj 62 (6 + 2 * (i + 1)))) 62 (7 + 2 * i) (mj 62 (7 + 2 * (i + 1)))) (by omega) ((tI_add hxi (show (1 : Int32).toInt = 1 from rfl) (by omega)).trans (by omega)) hx (by omega) (by omega) ((hF.u (by decide)).u (by decide)) (rm_a h2 h3 hbi (by omega)) (fun k hk => (u2_n (by omega)).trans ((u2_n (by omega)).trans (h3 k (by omega))))
      refine E_sub [1, 2, 0] rfl ?_
      exact J42 _ c ((mi 62 5) - 1) b (u2 (u2 mk_27 62 32 0) 62 5 ((mi 62 5) - 1)) (Nat.lt_succ_self _) (hC.trans hCb) ((tI_sub hn (show (1 : Int32).toInt = 1 from rfl) (by omega)).trans (by omega)) (Nat.le_refl _) (by omega) Fr.rfl' (fun j h1 h2 => absurd h2 (by omega)) (fun k _ => rfl)
    · exact absurd c_21 (by decide)
end MO5
