section MO15
theorem SM.t {mi mj mk : MI} {c : Int32} (h : SM c mi mj) (hF : Fr [61, 65, 66, 67] mj mk) (h61 : ∀ k, k ≠ 9 → mk 61 k = mj 61 k) : SM c mi mk :=
  ⟨h.1.trans hF (fun _ h => h) (by decide), (h61 2 (by decide)).trans h.2.1, (h61 4 (by decide)).trans h.2.2.1, (h61 5 (by decide)).trans h.2.2.2⟩
theorem lsN_c {mi mj : MI} {L : List Nat} (h : lsN mi L) (e : mj 70 = mi 70) : lsN mj L := fun k s hs => by rw [e]; exact h k s hs
theorem bt_y {V : Nat → Int32} {n nm act c : Nat} {L : List Nat} {xl xr xc : Int32} (hl : xl.toInt = ((btS V n nm act L c).2 : Int)) (hr : xr.toInt = (btW V n nm act L c : Int)) (h : xr.toInt < xl.toInt) (hc : xc.toInt = (c : Int)) : xc.toInt = ((btS V n nm act L (c + 1)).1 : Int) ∧ xr.toInt = ((btS V n nm act L (c + 1)).2 : Int) := by
  rw [btS_y (by omega)]
  exact ⟨hc, hr⟩
theorem bt_n {V : Nat → Int32} {n nm act c : Nat} {L : List Nat} {xl xr xb : Int32} (hl : xl.toInt = ((btS V n nm act L c).2 : Int)) (hr : xr.toInt = (btW V n nm act L c : Int)) (h : ¬ xr.toInt < xl.toInt) (hb : xb.toInt = ((btS V n nm act L c).1 : Int)) : xb.toInt = ((btS V n nm act L (c + 1)).1 : Int) ∧ xl.toInt = ((btS V n nm act L (c + 1)).2 : Int) := by
  rw [btS_n (by omega)]
  exact ⟨hb, hl⟩
theorem btW_le (V : Nat → Int32) (n nm act : Nat) (L : List Nat) (c : Nat) : btW V n nm act L c ≤ L.length := by
  have h := cntF_le L (hbS V n act c nm)
  unfold btW
  split <;> omega
theorem btW_y {V : Nat → Int32} {n nm act c : Nat} {L : List Nat} {x : Int32} {k : Nat} (hx : x.toInt = (k : Int)) (hk : k = cntF L (hbS V n act c nm)) (h : (L.length : Int) - (k : Int) < (k : Int)) : x.toInt = (btW V n nm act L c : Int) := by
  subst hk
  have := cntF_le L (hbS V n act c nm)
  unfold btW
  rw [if_pos (by omega)]; exact hx
theorem btW_n {V : Nat → Int32} {n nm act c : Nat} {L : List Nat} {x : Int32} {k : Nat} (hx : x.toInt = (L.length : Int) - (k : Int)) (hk : k = cntF L (hbS V n act c nm)) (h : ¬ (L.length : Int) - (k : Int) < (k : Int)) : x.toInt = (btW V n nm act L c : Int) := by
  subst hk
  have := cntF_le L (hbS V n act c nm)
  unfold btW
  rw [if_neg (by omega)]; omega
set_option maxHeartbeats 1600000 in
set_option maxRecDepth 100000 in
theorem c_X6_addTest (l : Launch) (hfl : l.stackTraces = false) (mi : MI) (ml : MJ) (n : Nat) (hn : (mi 62 5).toInt = (n : Int)) (h10 : n ≤ 10) (hwf : WFV (mi 62)) (nm : Nat) (hnm : (mi 62 26).toInt = (nm : Int)) (hm5 : nm ≤ 5) (nt : Nat) (hnt : (mi 62 32).toInt = (nt : Int)) (sc : Nat) (hsc : (mi 61 2).toInt = (sc : Int)) (h4 : sc ≤ 4) (a c : Int32) (A C : Int) (hA : a.toInt = A) (hC : c.toInt = C) (P : Prop) : Ct l yX6_addTest (.code yX6_addTest cX6_addTest 5 (some .int)) 8 0 0 [.ref 61, .int a, .int c, .int (bI (P))] (wl mi ml) (QI (fun r mi9 ml9 => ml = ml9 ∧ ((¬ ((0 ≤ A ∧ A ≤ ((2 ^ n - 1 : Nat) : Int)) ∧ (0 ≤ C ∧ C ≤ 63)) ∧ u2 mi 61 5 1 = mi9) ∨ (((0 ≤ A ∧ A ≤ ((2 ^ n - 1 : Nat) : Int)) ∧ (0 ≤ C ∧ C ≤ 63)) ∧ nt = 16 ∧ u2 mi 61 5 2 = mi9) ∨ (((0 ≤ A ∧ A ≤ ((2 ^ n - 1 : Nat) : Int)) ∧ (0 ≤ C ∧ C ≤ 63)) ∧ nt < 16 ∧ ∃ (mk mq : MI) (x h : Int32), Kept (u2 mi 61 5 0) mk ∧ x.toInt = (nt : Int) + 1 ∧ h = bI P ∧ u2 (u2 (u2 (u2 mk 62 (33 + 3 * nt) a) 62 (34 + 3 * nt) c) 62 (35 + 3 * nt) h) 62 32 x = mq ∧ WFV (mq 62) ∧ DgS mq mi9 n nm (nt + 1) ∧ r.toInt = ((fitL (mq 62) n nm (nt + 1) (2 ^ nm)).length : Int))))) noX := by
  refine Ct_of (ini := false) pn_X6 hfl (fun h => nomatch h) (Nat.le_of_ble_eq_true rfl) ?_
  show E l RX6 cX6_addTest 5 (some .int) false [] (rmE 8 0 0) (wl mi ml) (TgM (wl mi ml) 0 0 (QI (fun r mi9 ml9 => ml = ml9 ∧ ((¬ ((0 ≤ A ∧ A ≤ ((2 ^ n - 1 : Nat) : Int)) ∧ (0 ≤ C ∧ C ≤ 63)) ∧ u2 mi 61 5 1 = mi9) ∨ (((0 ≤ A ∧ A ≤ ((2 ^ n - 1 : Nat) : Int)) ∧ (0 ≤ C ∧ C ≤ 63)) ∧ nt = 16 ∧ u2 mi 61 5 2 = mi9) ∨ (((0 ≤ A ∧ A ≤ ((2 ^ n - 1 : Nat) : Int)) ∧ (0 ≤ C ∧ C ≤ 63)) ∧ nt < 16 ∧ ∃ (mk mq : MI) (x h : Int32), Kept (u2 mi 61 5 0) mk ∧ x.toInt = (nt : Int) + 1 ∧ h = bI P ∧ u2 (u2 (u2 (u2 mk 62 (33 + 3 * nt) a) 62 (34 + 3 * nt) c) 62 (35 + 3 * nt) h) 62 32 x = mq ∧ WFV (mq 62) ∧ DgS mq mi9 n nm (nt + 1) ∧ r.toInt = ((fitL (mq 62) n nm (nt + 1) (2 ^ nm)).length : Int))))) noX) 0 0 0 [(0, .ref 61), (1, .int a), (2, .int c), (3, .int (bI (P)))] [] (wl mi ml)
  have hb16 := hwf.2.1.2.2
  refine E_aload_n 0 dX6_addTest_0 rfl rfl ?_
  refine E_aload_n 0 dX6_addTest_1 rfl rfl ?_
  refine E_iload_n 1 dX6_addTest_2 rfl rfl ?_
  refine E_callV (c_X6_isSet l hfl mi ml n hn (by omega) a A hA) cw_X6_113 (As := [.int a]) (st := [.ref 61]) wi_yX6_isSet we_yX6_isSet (ci := 6) (q := (RX6, TX6, 23)) rfl rfl (wl_atO tw_61) rfl ⟨Nat.le_of_ble_eq_true rfl, Nat.le_of_ble_eq_true rfl, Nat.le_of_ble_eq_true rfl, Nat.le_of_ble_eq_true rfl⟩ (Nat.le_of_ble_eq_true rfl) dX6_addTest_3 (fun _ _ h => h) rfl (kE ?_)
  refine B_eq 16 dX6_addTest_6 (by decide) (fun c_6 => ?_) (fun c_6 => ?_)
  · skip
    refine E_iconst 1 (by decide) dX6_addTest_16 ?_
    refine E_goto 37 dX6_addTest_17 (by decide) ?_
    refine pf_X6_43 tw_61 rfl dX6_addTest_37 ?_
    refine E_aload_n 0 dX6_addTest_40 rfl rfl ?_
    refine gf_X6_43 1 tw_61 rfl (u2_s _ _ _ _) dX6_addTest_41 ?_
    refine Y_eq 1 (show (1 : Int32).toInt = 1 from rfl) 49 dX6_addTest_44 (by decide) (fun c_44 => ?_) (fun c_44 => ?_)
    · exact absurd c_44 (by decide)
    · skip
      refine E_iconst 0 (by decide) dX6_addTest_47 ?_
      refine E_iret rfl (Nat.le_of_ble_eq_true rfl) (Nat.le_of_ble_eq_true rfl) dX6_addTest_48 ?_
      exact okQI ⟨rfl, Or.inl ⟨by first | exact fun q => c_6 q.1 | exact fun q => c_13 q.2, rfl⟩⟩
  · skip
    refine E_iload_n 2 dX6_addTest_9 rfl rfl ?_
    refine E_callS (c_X6_isChannel l hfl mi ml c C hC) cw_X6_61 (As := [.int c]) (st := [.ref 61]) ws_yX6_isChannel rfl ⟨Nat.le_of_ble_eq_true rfl, Nat.le_of_ble_eq_true rfl, Nat.le_of_ble_eq_true rfl, Nat.le_of_ble_eq_true rfl⟩ (Nat.le_of_ble_eq_true rfl) dX6_addTest_10 (fun _ _ h => h) rfl (kE ?_)
    refine B_ne 20 dX6_addTest_13 (by decide) (fun c_13 => ?_) (fun c_13 => ?_)
    · skip
      refine E_aload_n 0 dX6_addTest_20 rfl rfl ?_
      refine gf_X6_7 tw_61 rfl dX6_addTest_21 ?_
      refine E_bipush 32 (by decide) dX6_addTest_24 ?_
      refine S_iald 32 (mi 62 32) tw_62 rfl (by decide) rfl dX6_addTest_26 ?_
      refine E_bipush 16 (by decide) dX6_addTest_27 ?_
      refine Z_ne (nt : Int) 16 hnt (show (16 : Int32).toInt = 16 from rfl) 36 dX6_addTest_29 (by decide) (fun c_29 => ?_) (fun c_29 => ?_)
      · skip
        refine E_iconst 0 (by decide) dX6_addTest_36 ?_
        refine pf_X6_43 tw_61 rfl dX6_addTest_37 ?_
        refine E_aload_n 0 dX6_addTest_40 rfl rfl ?_
        refine gf_X6_43 0 tw_61 rfl (u2_s _ _ _ _) dX6_addTest_41 ?_
        refine Y_eq 0 (show (0 : Int32).toInt = 0 from rfl) 49 dX6_addTest_44 (by decide) (fun c_44 => ?_) (fun c_44 => ?_)
        · skip
          refine E_aload_n 0 dX6_addTest_49 rfl rfl ?_
          refine E_callV (c_X6_keep l hfl (u2 mi 61 5 0) ml sc ((congrArg Int32.toInt ((u2_n (by omega)).trans rfl)).trans hsc) (by omega)) cw_X6_50 (As := []) (st := []) wi_yX6_keep we_yX6_keep (ci := 6) (q := (RX6, TX6, 23)) rfl rfl (wl_atO tw_61) rfl ⟨Nat.le_of_ble_eq_true rfl, Nat.le_of_ble_eq_true rfl, Nat.le_of_ble_eq_true rfl, Nat.le_of_ble_eq_true rfl⟩ (Nat.le_of_ble_eq_true rfl) dX6_addTest_50 (fun _ _ h => h) rfl (kV (fun mi_50 ml_50 h_50 => ?_))
          have hK_50 := h_50.1
          obtain ⟨-, rfl⟩ := h_50
          refine E_bipush 33 (by decide) dX6_addTest_53 ?_
          refine E_iconst 3 (by decide) dX6_addTest_55 ?_
          refine E_aload_n 0 dX6_addTest_56 rfl rfl ?_
          refine gf_X6_7 tw_61 rfl dX6_addTest_57 ?_
          refine E_bipush 32 (by decide) dX6_addTest_60 ?_
          refine S_iald 32 (mi 62 32) tw_62 rfl (by decide) ((congrFun (hK_50.1 62 (by decide)) 32).trans ((u2_n (by omega)).trans rfl)) dX6_addTest_62 ?_
          refine E_imul dX6_addTest_63 ?_
          refine E_iadd dX6_addTest_64 ?_
          refine E_istore [(4, .int (33 + (3 * (mi 62 32)))), (0, .ref 61), (1, .int a), (2, .int c), (3, .int (bI (P)))] dX6_addTest_65 (by decide) rfl ?_
          refine E_aload_n 1 dX6_addTest_67 rfl rfl ?_
          refine gf_X6_7 tw_61 rfl dX6_addTest_68 ?_
          refine E_iload 0 dX6_addTest_71 rfl ?_
          refine E_iload_n 2 dX6_addTest_73 rfl rfl ?_
          refine S_iast (33 + 3 * nt) tw_62 ((tI_add (show (33 : Int32).toInt = 33 from rfl) (tI_mul (show (3 : Int32).toInt = 3 from rfl) hnt (by omega)) (by omega)).trans (by omega)) (by omega) dX6_addTest_74 ?_
          refine E_aload_n 1 dX6_addTest_75 rfl rfl ?_
          refine gf_X6_7 tw_61 rfl dX6_addTest_76 ?_
          refine E_iload 0 dX6_addTest_79 rfl ?_
          refine E_iconst 1 (by decide) dX6_addTest_81 ?_
          refine E_iadd dX6_addTest_82 ?_
          refine E_iload_n 3 dX6_addTest_83 rfl rfl ?_
          refine S_iast (34 + 3 * nt) tw_62 ((tI_add (tI_add (show (33 : Int32).toInt = 33 from rfl) (tI_mul (show (3 : Int32).toInt = 3 from rfl) hnt (by omega)) (by omega)) (show (1 : Int32).toInt = 1 from rfl) (by omega)).trans (by omega)) (by omega) dX6_addTest_84 ?_
          refine E_aload_n 1 dX6_addTest_85 rfl rfl ?_
          refine gf_X6_7 tw_61 rfl dX6_addTest_86 ?_
          refine E_iload 0 dX6_addTest_89 rfl ?_
          refine E_iconst 2 (by decide) dX6_addTest_91 ?_
          refine E_iadd dX6_addTest_92 ?_
          refine E_iload_n 4 dX6_addTest_93 rfl rfl ?_
          refine B_eq 101 dX6_addTest_94 (by decide) (fun c_94 => ?_) (fun c_94 => ?_)
          · skip
            refine E_iconst 0 (by decide) dX6_addTest_101 ?_
            refine S_iast (35 + 3 * nt) tw_62 ((tI_add (tI_add (show (33 : Int32).toInt = 33 from rfl) (tI_mul (show (3 : Int32).toInt = 3 from rfl) hnt (by omega)) (by omega)) (show (2 : Int32).toInt = 2 from rfl) (by omega)).trans (by omega)) (by omega) dX6_addTest_102 ?_
            refine E_aload_n 1 dX6_addTest_103 rfl rfl ?_
            refine gf_X6_7 tw_61 rfl dX6_addTest_104 ?_
            refine E_bipush 32 (by decide) dX6_addTest_107 ?_
            refine E_dup2 rfl rfl dX6_addTest_109 ?_
            refine S_iald 32 (mi 62 32) tw_62 rfl (by decide) ((u2_n (by omega)).trans ((u2_n (by omega)).trans ((u2_n (by omega)).trans ((congrFun (hK_50.1 62 (by decide)) 32).trans ((u2_n (by omega)).trans rfl))))) dX6_addTest_110 ?_
            refine E_iconst 1 (by decide) dX6_addTest_111 ?_
            refine E_iadd dX6_addTest_112 ?_
            refine S_iast 32 tw_62 rfl (by decide) dX6_addTest_113 ?_
            refine E_aload_n 1 dX6_addTest_114 rfl rfl ?_
            obtain ⟨x9, hxe⟩ : ∃ x : Int32, x = ((mi 62 32) + 1) := ⟨_, rfl⟩
            obtain ⟨h9, hhe⟩ : ∃ h : Int32, h = 0 := ⟨_, rfl⟩
            have hx9 : x9.toInt = (nt : Int) + 1 := by rw [hxe]; exact (tI_add hnt (show (1 : Int32).toInt = 1 from rfl) (by omega)).trans (by omega)
            have hh9 : h9 = bI P := by rw [hhe]; exact b0 c_94
            skip
            have hwA : WFV ((u2 (u2 (u2 (u2 mi_50 62 (33 + 3 * nt) a) 62 (34 + 3 * nt) c) 62 (35 + 3 * nt) 0) 62 32 ((mi 62 32) + 1)) 62) := WFV_T (n := n) (nt := nt) (a := a) (c := c) (h := 0) hwf hn hnt (by omega) (by rw [hA]; exact c_6) (by rw [hC]; exact c_13) (by decide) (fun k h1 h2 => by rw [u2_n (by omega), u2_n (by omega), u2_n (by omega), u2_n (by omega), hK_50.1 62 (by decide), u2_n (by omega)]) (by rw [u2_n (by omega), u2_n (by omega), u2_n (by omega), u2_s]) (by rw [u2_n (by omega), u2_n (by omega), u2_s]) (by rw [u2_n (by omega), u2_s]) (by rw [u2_s]; exact (tI_add hnt (show (1 : Int32).toInt = 1 from rfl) (by omega)).trans (by omega))
            refine E_callV (c_X6_diagnose l hfl (u2 (u2 (u2 (u2 mi_50 62 (33 + 3 * nt) a) 62 (34 + 3 * nt) c) 62 (35 + 3 * nt) 0) 62 32 ((mi 62 32) + 1)) ml n ((congrArg Int32.toInt ((u2_n (by omega)).trans ((u2_n (by omega)).trans ((u2_n (by omega)).trans ((u2_n (by omega)).trans ((congrFun (hK_50.1 62 (by decide)) 5).trans ((u2_n (by omega)).trans rfl))))))).trans hn) (by omega) hwA nm ((congrArg Int32.toInt ((u2_n (by omega)).trans ((u2_n (by omega)).trans ((u2_n (by omega)).trans ((u2_n (by omega)).trans ((congrFun (hK_50.1 62 (by decide)) 26).trans ((u2_n (by omega)).trans rfl))))))).trans hnm) (by omega) (nt + 1) ((congrArg Int32.toInt (u2_s _ _ _ _)).trans (tI_add hnt (show (1 : Int32).toInt = 1 from rfl) (by omega)))) cw_X6_168 (As := []) (st := []) wi_yX6_diagnose we_yX6_diagnose (ci := 6) (q := (RX6, TX6, 23)) rfl rfl (wl_atO tw_61) rfl ⟨Nat.le_of_ble_eq_true rfl, Nat.le_of_ble_eq_true rfl, Nat.le_of_ble_eq_true rfl, Nat.le_of_ble_eq_true rfl⟩ (Nat.le_of_ble_eq_true rfl) dX6_addTest_115 (fun _ _ h => h) rfl (kV (fun mi_115 ml_115 h_115 => ?_))
            obtain ⟨hl9_115, hD_115⟩ := h_115
            subst hl9_115
            have hL_115 := hD_115.L (V := ((u2 (u2 (u2 (u2 mi_50 62 (33 + 3 * nt) a) 62 (34 + 3 * nt) c) 62 (35 + 3 * nt) 0) 62 32 ((mi 62 32) + 1)) 62)) rfl
            refine E_aload_n 1 dX6_addTest_118 rfl rfl ?_
            refine gf_X6_165 (mi_115 61 14) tw_61 rfl rfl dX6_addTest_119 ?_
            refine E_iret rfl (Nat.le_of_ble_eq_true rfl) (Nat.le_of_ble_eq_true rfl) dX6_addTest_122 ?_
            exact okQI ⟨rfl, Or.inr (Or.inr ⟨⟨c_6, c_13⟩, by omega, _, _, _, _, hK_50, hxe ▸ hx9, hhe ▸ hh9, rfl, hwA, hD_115, hL_115.1⟩)⟩
          · skip
            refine E_iconst 1 (by decide) dX6_addTest_97 ?_
            refine E_goto 102 dX6_addTest_98 (by decide) ?_
            refine S_iast (35 + 3 * nt) tw_62 ((tI_add (tI_add (show (33 : Int32).toInt = 33 from rfl) (tI_mul (show (3 : Int32).toInt = 3 from rfl) hnt (by omega)) (by omega)) (show (2 : Int32).toInt = 2 from rfl) (by omega)).trans (by omega)) (by omega) dX6_addTest_102 ?_
            refine E_aload_n 1 dX6_addTest_103 rfl rfl ?_
            refine gf_X6_7 tw_61 rfl dX6_addTest_104 ?_
            refine E_bipush 32 (by decide) dX6_addTest_107 ?_
            refine E_dup2 rfl rfl dX6_addTest_109 ?_
            refine S_iald 32 (mi 62 32) tw_62 rfl (by decide) ((u2_n (by omega)).trans ((u2_n (by omega)).trans ((u2_n (by omega)).trans ((congrFun (hK_50.1 62 (by decide)) 32).trans ((u2_n (by omega)).trans rfl))))) dX6_addTest_110 ?_
            refine E_iconst 1 (by decide) dX6_addTest_111 ?_
            refine E_iadd dX6_addTest_112 ?_
            refine S_iast 32 tw_62 rfl (by decide) dX6_addTest_113 ?_
            refine E_aload_n 1 dX6_addTest_114 rfl rfl ?_
            obtain ⟨x9, hxe⟩ : ∃ x : Int32, x = ((mi 62 32) + 1) := ⟨_, rfl⟩
            obtain ⟨h9, hhe⟩ : ∃ h : Int32, h = 1 := ⟨_, rfl⟩
            have hx9 : x9.toInt = (nt : Int) + 1 := by rw [hxe]; exact (tI_add hnt (show (1 : Int32).toInt = 1 from rfl) (by omega)).trans (by omega)
            have hh9 : h9 = bI P := by rw [hhe]; exact b1 c_94
            skip
            have hwA : WFV ((u2 (u2 (u2 (u2 mi_50 62 (33 + 3 * nt) a) 62 (34 + 3 * nt) c) 62 (35 + 3 * nt) 1) 62 32 ((mi 62 32) + 1)) 62) := WFV_T (n := n) (nt := nt) (a := a) (c := c) (h := 1) hwf hn hnt (by omega) (by rw [hA]; exact c_6) (by rw [hC]; exact c_13) (by decide) (fun k h1 h2 => by rw [u2_n (by omega), u2_n (by omega), u2_n (by omega), u2_n (by omega), hK_50.1 62 (by decide), u2_n (by omega)]) (by rw [u2_n (by omega), u2_n (by omega), u2_n (by omega), u2_s]) (by rw [u2_n (by omega), u2_n (by omega), u2_s]) (by rw [u2_n (by omega), u2_s]) (by rw [u2_s]; exact (tI_add hnt (show (1 : Int32).toInt = 1 from rfl) (by omega)).trans (by omega))
            refine E_callV (c_X6_diagnose l hfl (u2 (u2 (u2 (u2 mi_50 62 (33 + 3 * nt) a) 62 (34 + 3 * nt) c) 62 (35 + 3 * nt) 1) 62 32 ((mi 62 32) + 1)) ml n ((congrArg Int32.toInt ((u2_n (by omega)).trans ((u2_n (by omega)).trans ((u2_n (by omega)).trans ((u2_n (by omega)).trans ((congrFun (hK_50.1 62 (by decide)) 5).trans ((u2_n (by omega)).trans rfl))))))).trans hn) (by omega) hwA nm ((congrArg Int32.toInt ((u2_n (by omega)).trans ((u2_n (by omega)).trans ((u2_n (by omega)).trans ((u2_n (by omega)).trans ((congrFun (hK_50.1 62 (by decide)) 26).trans ((u2_n (by omega)).trans rfl))))))).trans hnm) (by omega) (nt + 1) ((congrArg Int32.toInt (u2_s _ _ _ _)).trans (tI_add hnt (show (1 : Int32).toInt = 1 from rfl) (by omega)))) cw_X6_168 (As := []) (st := []) wi_yX6_diagnose we_yX6_diagnose (ci := 6) (q := (RX6, TX6, 23)) rfl rfl (wl_atO tw_61) rfl ⟨Nat.le_of_ble_eq_true rfl, Nat.le_of_ble_eq_true rfl, Nat.le_of_ble_eq_true rfl, Nat.le_of_ble_eq_true rfl⟩ (Nat.le_of_ble_eq_true rfl) dX6_addTest_115 (fun _ _ h => h) rfl (kV (fun mi_115 ml_115 h_115 => ?_))
            obtain ⟨hl9_115, hD_115⟩ := h_115
            subst hl9_115
            have hL_115 := hD_115.L (V := ((u2 (u2 (u2 (u2 mi_50 62 (33 + 3 * nt) a) 62 (34 + 3 * nt) c) 62 (35 + 3 * nt) 1) 62 32 ((mi 62 32) + 1)) 62)) rfl
            refine E_aload_n 1 dX6_addTest_118 rfl rfl ?_
            refine gf_X6_165 (mi_115 61 14) tw_61 rfl rfl dX6_addTest_119 ?_
            refine E_iret rfl (Nat.le_of_ble_eq_true rfl) (Nat.le_of_ble_eq_true rfl) dX6_addTest_122 ?_
            exact okQI ⟨rfl, Or.inr (Or.inr ⟨⟨c_6, c_13⟩, by omega, _, _, _, _, hK_50, hxe ▸ hx9, hhe ▸ hh9, rfl, hwA, hD_115, hL_115.1⟩)⟩
        · exact absurd c_44 (by decide)
      · skip
        refine E_iconst 2 (by decide) dX6_addTest_32 ?_
        refine E_goto 37 dX6_addTest_33 (by decide) ?_
        refine pf_X6_43 tw_61 rfl dX6_addTest_37 ?_
        refine E_aload_n 0 dX6_addTest_40 rfl rfl ?_
        refine gf_X6_43 2 tw_61 rfl (u2_s _ _ _ _) dX6_addTest_41 ?_
        refine Y_eq 2 (show (2 : Int32).toInt = 2 from rfl) 49 dX6_addTest_44 (by decide) (fun c_44 => ?_) (fun c_44 => ?_)
        · exact absurd c_44 (by decide)
        · skip
          refine E_iconst 0 (by decide) dX6_addTest_47 ?_
          refine E_iret rfl (Nat.le_of_ble_eq_true rfl) (Nat.le_of_ble_eq_true rfl) dX6_addTest_48 ?_
          exact okQI ⟨rfl, Or.inr (Or.inl ⟨⟨c_6, c_13⟩, by omega, rfl⟩)⟩
    · skip
      refine E_iconst 1 (by decide) dX6_addTest_16 ?_
      refine E_goto 37 dX6_addTest_17 (by decide) ?_
      refine pf_X6_43 tw_61 rfl dX6_addTest_37 ?_
      refine E_aload_n 0 dX6_addTest_40 rfl rfl ?_
      refine gf_X6_43 1 tw_61 rfl (u2_s _ _ _ _) dX6_addTest_41 ?_
      refine Y_eq 1 (show (1 : Int32).toInt = 1 from rfl) 49 dX6_addTest_44 (by decide) (fun c_44 => ?_) (fun c_44 => ?_)
      · exact absurd c_44 (by decide)
      · skip
        refine E_iconst 0 (by decide) dX6_addTest_47 ?_
        refine E_iret rfl (Nat.le_of_ble_eq_true rfl) (Nat.le_of_ble_eq_true rfl) dX6_addTest_48 ?_
        exact okQI ⟨rfl, Or.inl ⟨by first | exact fun q => c_6 q.1 | exact fun q => c_13 q.2, rfl⟩⟩
set_option maxHeartbeats 1600000 in
set_option maxRecDepth 100000 in
theorem c_X6_bestTest (l : Launch) (hfl : l.stackTraces = false) (mi : MI) (ml : MJ) (n : Nat) (hn : (mi 62 5).toInt = (n : Int)) (h10 : n ≤ 10) (hwf : WFV (mi 62)) (nm : Nat) (hnm : (mi 62 26).toInt = (nm : Int)) (hm5 : nm ≤ 5) (nt : Nat) (hnt : (mi 62 32).toInt = (nt : Int)) (a : Int32) (A : Int) (hA : a.toInt = A) : Ct l yX6_bestTest (.code yX6_bestTest cX6_bestTest 8 (some .int)) 8 0 0 [.ref 61, .int a] (wl mi ml) (QI (fun r mi9 ml9 => ml = ml9 ∧ ((¬ (0 ≤ A ∧ A ≤ ((2 ^ n - 1 : Nat) : Int)) ∧ SM 1 mi mi9) ∨ ((0 ≤ A ∧ A ≤ ((2 ^ n - 1 : Nat) : Int)) ∧ ∃ s : Nat, A = (s : Int) ∧ SM 0 mi mi9 ∧ r.toInt = ((btS (mi 62) n nm s (fitL (mi 62) n nm nt (2 ^ nm)) 64).1 : Int))))) noX := by
  refine Ct_of (ini := false) pn_X6 hfl (fun h => nomatch h) (Nat.le_of_ble_eq_true rfl) ?_
  show E l RX6 cX6_bestTest 8 (some .int) false [] (rmE 8 0 0) (wl mi ml) (TgM (wl mi ml) 0 0 (QI (fun r mi9 ml9 => ml = ml9 ∧ ((¬ (0 ≤ A ∧ A ≤ ((2 ^ n - 1 : Nat) : Int)) ∧ SM 1 mi mi9) ∨ ((0 ≤ A ∧ A ≤ ((2 ^ n - 1 : Nat) : Int)) ∧ ∃ s : Nat, A = (s : Int) ∧ SM 0 mi mi9 ∧ r.toInt = ((btS (mi 62) n nm s (fitL (mi 62) n nm nt (2 ^ nm)) 64).1 : Int))))) noX) 0 0 0 [(0, .ref 61), (1, .int a)] [] (wl mi ml)
  refine E_aload_n 0 dX6_bestTest_0 rfl rfl ?_
  refine E_aload_n 0 dX6_bestTest_1 rfl rfl ?_
  refine E_iload_n 1 dX6_bestTest_2 rfl rfl ?_
  refine E_callV (c_X6_isSet l hfl mi ml n hn (by omega) a A hA) cw_X6_113 (As := [.int a]) (st := [.ref 61]) wi_yX6_isSet we_yX6_isSet (ci := 6) (q := (RX6, TX6, 23)) rfl rfl (wl_atO tw_61) rfl ⟨Nat.le_of_ble_eq_true rfl, Nat.le_of_ble_eq_true rfl, Nat.le_of_ble_eq_true rfl, Nat.le_of_ble_eq_true rfl⟩ (Nat.le_of_ble_eq_true rfl) dX6_bestTest_3 (fun _ _ h => h) rfl (kE ?_)
  refine B_eq 13 dX6_bestTest_6 (by decide) (fun c_6 => ?_) (fun c_6 => ?_)
  · skip
    refine E_iconst 1 (by decide) dX6_bestTest_13 ?_
    refine pf_X6_43 tw_61 rfl dX6_bestTest_14 ?_
    refine E_aload_n 0 dX6_bestTest_17 rfl rfl ?_
    refine gf_X6_43 1 tw_61 rfl (u2_s _ _ _ _) dX6_bestTest_18 ?_
    refine Y_eq 1 (show (1 : Int32).toInt = 1 from rfl) 26 dX6_bestTest_21 (by decide) (fun c_21 => ?_) (fun c_21 => ?_)
    · exact absurd c_21 (by decide)
    · skip
      refine E_iconst 0 (by decide) dX6_bestTest_24 ?_
      refine E_iret rfl (Nat.le_of_ble_eq_true rfl) (Nat.le_of_ble_eq_true rfl) dX6_bestTest_25 ?_
      exact okQI ⟨rfl, Or.inl ⟨c_6, SM_0⟩⟩
  · skip
    refine E_iconst 0 (by decide) dX6_bestTest_9 ?_
    refine E_goto 14 dX6_bestTest_10 (by decide) ?_
    refine pf_X6_43 tw_61 rfl dX6_bestTest_14 ?_
    refine E_aload_n 0 dX6_bestTest_17 rfl rfl ?_
    refine gf_X6_43 0 tw_61 rfl (u2_s _ _ _ _) dX6_bestTest_18 ?_
    refine Y_eq 0 (show (0 : Int32).toInt = 0 from rfl) 26 dX6_bestTest_21 (by decide) (fun c_21 => ?_) (fun c_21 => ?_)
    · skip
      obtain ⟨s, hs9⟩ : ∃ s : Nat, A = (s : Int) := ⟨A.toNat, by omega⟩
      have h1024 := Nat.pow_le_pow_right (show 0 < 2 by omega) h10
      have hs10 : s < 1024 := by omega
      have hll := fitL_len (mi 62) n nm nt (2 ^ nm)
      have h32 := p2_5 hm5
      refine E_aload_n 0 dX6_bestTest_26 rfl rfl ?_
      refine E_callV (c_X6_diagnose l hfl (u2 mi 61 5 0) ml n ((congrArg Int32.toInt ((u2_n (by omega)).trans rfl)).trans hn) (by omega) (by rw [show (u2 mi 61 5 0) 62 = mi 62 from (u2_p (by decide))]; exact hwf) nm ((congrArg Int32.toInt ((u2_n (by omega)).trans rfl)).trans hnm) (by omega) nt ((congrArg Int32.toInt ((u2_n (by omega)).trans rfl)).trans hnt)) cw_X6_168 (As := []) (st := []) wi_yX6_diagnose we_yX6_diagnose (ci := 6) (q := (RX6, TX6, 23)) rfl rfl (wl_atO tw_61) rfl ⟨Nat.le_of_ble_eq_true rfl, Nat.le_of_ble_eq_true rfl, Nat.le_of_ble_eq_true rfl, Nat.le_of_ble_eq_true rfl⟩ (Nat.le_of_ble_eq_true rfl) dX6_bestTest_27 (fun _ _ h => h) rfl (kV (fun mi_27 ml_27 h_27 => ?_))
      obtain ⟨hl9_27, hD_27⟩ := h_27
      subst hl9_27
      have hL_27 := hD_27.L (V := (mi 62)) (u2_p (by decide))
      refine E_iconst 0 (by decide) dX6_bestTest_30 ?_
      refine E_istore_n [(2, .int 0), (0, .ref 61), (1, .int a)] dX6_bestTest_31 rfl (by decide) rfl ?_
      refine E_bipush 100 (by decide) dX6_bestTest_32 ?_
      refine E_istore_n [(3, .int 100), (2, .int 0), (0, .ref 61), (1, .int a)] dX6_bestTest_34 rfl (by decide) rfl ?_
      refine E_iconst 0 (by decide) dX6_bestTest_35 ?_
      refine E_istore [(4, .int 0), (3, .int 100), (2, .int 0), (0, .ref 61), (1, .int a)] dX6_bestTest_36 (by decide) rfl ?_
      have J38 : ∀ (Nm : Nat) (xb xl xc : Int32) (c : Nat) (mj : MI), 64 - c < Nm → xc.toInt = (c : Int) → c ≤ 64 → xb.toInt = ((btS (mi 62) n nm s (fitL (mi 62) n nm nt (2 ^ nm)) c).1 : Int) → xl.toInt = ((btS (mi 62) n nm s (fitL (mi 62) n nm nt (2 ^ nm)) c).2 : Int) → Fr [61, 65, 66, 67] mi_27 mj → (∀ k, k ≠ 9 → mj 61 k = mi_27 61 k) → E l RX6 cX6_bestTest 8 (some .int) false [] (rmE 8 0 0) (wl mi ml) (TgM (wl mi ml) 0 0 (QI (fun r mi9 ml9 => ml = ml9 ∧ ((¬ (0 ≤ A ∧ A ≤ ((2 ^ n - 1 : Nat) : Int)) ∧ SM 1 mi mi9) ∨ ((0 ≤ A ∧ A ≤ ((2 ^ n - 1 : Nat) : Int)) ∧ ∃ s : Nat, A = (s : Int) ∧ SM 0 mi mi9 ∧ r.toInt = ((btS (mi 62) n nm s (fitL (mi 62) n nm nt (2 ^ nm)) 64).1 : Int))))) noX) 0 0 38 [(0, .ref 61), (1, .int a), (2, .int xb), (3, .int xl), (4, .int xc)] [] (wl mj ml) := by
        intro Nm
        induction Nm with
        | zero => intros; omega
        | succ Nm ih38 =>
          intro xb xl xc c mj hN38 hxc hc hb hl hF h61
          have hft : (mj 61 14).toInt = ((fitL (mi 62) n nm nt (2 ^ nm)).length : Int) := by rw [h61 14 (by decide)]; exact hL_27.1
          have hls : lsN mj (fitL (mi 62) n nm nt (2 ^ nm)) := lsN_c hL_27.2 (hF 70 (by decide))
          refine E_iload 4 dX6_bestTest_38 rfl ?_
          refine E_bipush 64 (by decide) dX6_bestTest_40 ?_
          refine Z_ge (c : Int) 64 hxc (show (64 : Int32).toInt = 64 from rfl) 156 dX6_bestTest_42 (by decide) (fun c_42 => ?_) (fun c_42 => ?_)
          · skip
            refine E_iload_n 2 dX6_bestTest_156 rfl rfl ?_
            refine E_iret rfl (Nat.le_of_ble_eq_true rfl) (Nat.le_of_ble_eq_true rfl) dX6_bestTest_157 ?_
            exact okQI ⟨rfl, Or.inr ⟨c_6, s, hs9, (SM_d hD_27).t hF h61, by rw [← show c = 64 by omega]; exact hb⟩⟩
          · skip
            have hb1 := btS_1 (mi 62) n nm s (fitL (mi 62) n nm nt (2 ^ nm)) c
            have hb2 := btS_2 (mi 62) n nm s (fitL (mi 62) n nm nt (2 ^ nm)) c
            have hbw := btW_le (mi 62) n nm s (fitL (mi 62) n nm nt (2 ^ nm)) c
            refine E_aload_n 0 dX6_bestTest_45 rfl rfl ?_
            refine E_iload_n 1 dX6_bestTest_46 rfl rfl ?_
            refine E_iload 4 dX6_bestTest_47 rfl ?_
            refine E_callV (c_X6_heardBy l hfl mj ml n ((congrArg Int32.toInt (congrFun ((hF 62 (by decide)).trans ((hD_27.1 62 (by decide)).trans (u2_p (by decide)))) 5)).trans hn) (by omega) (by rw [show mj 62 = mi 62 from ((hF 62 (by decide)).trans ((hD_27.1 62 (by decide)).trans (u2_p (by decide))))]; exact hwf) nm ((congrArg Int32.toInt (congrFun ((hF 62 (by decide)).trans ((hD_27.1 62 (by decide)).trans (u2_p (by decide)))) 26)).trans hnm) (by omega) a xc s c (hA.trans hs9) (hxc.trans (by omega)) hs10 (by omega)) cw_X6_161 (As := [.int a, .int xc]) (st := []) wi_yX6_heardBy we_yX6_heardBy (ci := 6) (q := (RX6, TX6, 23)) rfl rfl (wl_atO tw_61) rfl ⟨Nat.le_of_ble_eq_true rfl, Nat.le_of_ble_eq_true rfl, Nat.le_of_ble_eq_true rfl, Nat.le_of_ble_eq_true rfl⟩ (Nat.le_of_ble_eq_true rfl) dX6_bestTest_49 (fun _ _ h => h) rfl (kI (fun r_49 mi_49 ml_49 h_49 => ?_))
            obtain ⟨hl9_49, hFr_49, h61_49, hhb_49⟩ := h_49
            subst hl9_49
            rw [show mj 62 = mi 62 from ((hF 62 (by decide)).trans ((hD_27.1 62 (by decide)).trans (u2_p (by decide))))] at hhb_49
            refine E_istore [(5, .int r_49), (0, .ref 61), (1, .int a), (2, .int xb), (3, .int xl), (4, .int xc)] dX6_bestTest_52 (by decide) rfl ?_
            refine E_iconst 0 (by decide) dX6_bestTest_54 ?_
            refine E_istore [(6, .int 0), (5, .int r_49), (0, .ref 61), (1, .int a), (2, .int xb), (3, .int xl), (4, .int xc)] dX6_bestTest_55 (by decide) rfl ?_
            refine E_iconst 0 (by decide) dX6_bestTest_57 ?_
            refine E_istore [(7, .int 0), (6, .int 0), (5, .int r_49), (0, .ref 61), (1, .int a), (2, .int xb), (3, .int xl), (4, .int xc)] dX6_bestTest_58 (by decide) rfl ?_
            have J60 : ∀ (Nm : Nat) (xk xi : Int32) (i : Nat), (fitL (mi 62) n nm nt (2 ^ nm)).length - i < Nm → xi.toInt = (i : Int) → i ≤ (fitL (mi 62) n nm nt (2 ^ nm)).length → xk.toInt = (cntF ((fitL (mi 62) n nm nt (2 ^ nm)).take i) (hbS (mi 62) n s c nm) : Int) → E l RX6 cX6_bestTest 8 (some .int) false [] (rmE 8 0 0) (wl mi ml) (TgM (wl mi ml) 0 0 (QI (fun r mi9 ml9 => ml = ml9 ∧ ((¬ (0 ≤ A ∧ A ≤ ((2 ^ n - 1 : Nat) : Int)) ∧ SM 1 mi mi9) ∨ ((0 ≤ A ∧ A ≤ ((2 ^ n - 1 : Nat) : Int)) ∧ ∃ s : Nat, A = (s : Int) ∧ SM 0 mi mi9 ∧ r.toInt = ((btS (mi 62) n nm s (fitL (mi 62) n nm nt (2 ^ nm)) 64).1 : Int))))) noX) 0 0 60 [(0, .ref 61), (1, .int a), (2, .int xb), (3, .int xl), (4, .int xc), (5, .int r_49), (6, .int xk), (7, .int xi)] [] (wl mi_49 ml) := by
              intro Nm
              induction Nm with
              | zero => intros; omega
              | succ Nm ih60 =>
                intro xk xi i hN60 hxi hi hxk
                have hcl := cntF_le ((fitL (mi 62) n nm nt (2 ^ nm)).take i) (hbS (mi 62) n s c nm)
                have htl := take_le (fitL (mi 62) n nm nt (2 ^ nm)) i
                refine E_iload 7 dX6_bestTest_60 rfl ?_
                refine E_aload_n 0 dX6_bestTest_62 rfl rfl ?_
                refine gf_X6_165 (mj 61 14) tw_61 rfl (h61_49 14 (by decide)) dX6_bestTest_63 ?_
                refine Z_ge (i : Int) (((fitL (mi 62) n nm nt (2 ^ nm)).length : Nat) : Int) hxi hft 98 dX6_bestTest_66 (by decide) (fun c_66 => ?_) (fun c_66 => ?_)
                · skip
                  refine E_iload 6 dX6_bestTest_98 rfl ?_
                  refine E_aload_n 0 dX6_bestTest_100 rfl rfl ?_
                  refine gf_X6_165 (mj 61 14) tw_61 rfl (h61_49 14 (by decide)) dX6_bestTest_101 ?_
                  refine E_iload 6 dX6_bestTest_104 rfl ?_
                  refine E_isub dX6_bestTest_106 ?_
                  refine Z_le ((cntF ((fitL (mi 62) n nm nt (2 ^ nm)).take i) (hbS (mi 62) n s c nm) : Nat) : Int) ((((fitL (mi 62) n nm nt (2 ^ nm)).length : Nat) : Int) - ((cntF ((fitL (mi 62) n nm nt (2 ^ nm)).take i) (hbS (mi 62) n s c nm) : Nat) : Int)) hxk (tI_sub hft hxk (by omega)) 115 dX6_bestTest_107 (by decide) (fun c_107 => ?_) (fun c_107 => ?_)
                  · skip
                    refine E_aload_n 0 dX6_bestTest_115 rfl rfl ?_
                    refine gf_X6_165 (mj 61 14) tw_61 rfl (h61_49 14 (by decide)) dX6_bestTest_116 ?_
                    refine E_iload 6 dX6_bestTest_119 rfl ?_
                    refine E_isub dX6_bestTest_121 ?_
                    refine E_istore [(7, .int ((mj 61 14) - xk)), (0, .ref 61), (1, .int a), (2, .int xb), (3, .int xl), (4, .int xc), (5, .int r_49), (6, .int xk)] dX6_bestTest_122 (by decide) rfl ?_
                    have J124 : ∀ (xr : Int32), xr.toInt = (btW (mi 62) n nm s (fitL (mi 62) n nm nt (2 ^ nm)) c : Int) → E l RX6 cX6_bestTest 8 (some .int) false [] (rmE 8 0 0) (wl mi ml) (TgM (wl mi ml) 0 0 (QI (fun r mi9 ml9 => ml = ml9 ∧ ((¬ (0 ≤ A ∧ A ≤ ((2 ^ n - 1 : Nat) : Int)) ∧ SM 1 mi mi9) ∨ ((0 ≤ A ∧ A ≤ ((2 ^ n - 1 : Nat) : Int)) ∧ ∃ s : Nat, A = (s : Int) ∧ SM 0 mi mi9 ∧ r.toInt = ((btS (mi 62) n nm s (fitL (mi 62) n nm nt (2 ^ nm)) 64).1 : Int))))) noX) 0 0 124 [(0, .ref 61), (1, .int a), (2, .int xb), (3, .int xl), (4, .int xc), (7, .int xr)] [] (wl mi_49 ml) := by
                      intro xr hr
                      refine E_iload 5 dX6_bestTest_124 rfl ?_
                      refine E_iload_n 3 dX6_bestTest_126 rfl rfl ?_
                      refine Z_ge ((btW (mi 62) n nm s (fitL (mi 62) n nm nt (2 ^ nm)) c : Nat) : Int) ((btS (mi 62) n nm s (fitL (mi 62) n nm nt (2 ^ nm)) c).2 : Int) hr hl 135 dX6_bestTest_127 (by decide) (fun c_127 => ?_) (fun c_127 => ?_)
                      · skip
                        refine E_iload_n 2 dX6_bestTest_135 rfl rfl ?_
                        refine E_istore_n [(2, .int xb), (0, .ref 61), (1, .int a), (3, .int xl), (4, .int xc), (7, .int xr)] dX6_bestTest_136 rfl (by decide) rfl ?_
                        refine E_iload 5 dX6_bestTest_137 rfl ?_
                        refine E_iload_n 3 dX6_bestTest_139 rfl rfl ?_
                        refine Z_ge ((btW (mi 62) n nm s (fitL (mi 62) n nm nt (2 ^ nm)) c : Nat) : Int) ((btS (mi 62) n nm s (fitL (mi 62) n nm nt (2 ^ nm)) c).2 : Int) hr hl 148 dX6_bestTest_140 (by decide) (fun c_140 => ?_) (fun c_140 => ?_)
                        · skip
                          refine E_iload_n 3 dX6_bestTest_148 rfl rfl ?_
                          refine E_istore_n [(3, .int xl), (2, .int xb), (0, .ref 61), (1, .int a), (4, .int xc), (7, .int xr)] dX6_bestTest_149 rfl (by decide) rfl ?_
                          refine E_iinc 4 (xc + 1) [(4, .int (xc + 1)), (3, .int xl), (2, .int xb), (0, .ref 61), (1, .int a), (7, .int xr)] dX6_bestTest_150 rfl rfl (by decide) rfl ?_
                          refine E_goto 38 dX6_bestTest_153 (by decide) ?_
                          refine E_sub [3, 4, 2, 1, 0] rfl ?_
                          exact ih38 xb xl (xc + 1) (c + 1) mi_49 (by omega) ((tI_add hxc (show (1 : Int32).toInt = 1 from rfl) (by omega)).trans (by omega)) (by omega) (bt_n hl hr (by omega) hb).1 (bt_n hl hr (by omega) hb).2 (hF.trans hFr_49 (by decide) (by decide)) (fun k hk => (h61_49 k hk).trans (h61 k hk))
                        · skip
                          refine E_iload 5 dX6_bestTest_143 rfl ?_
                          refine E_goto 149 dX6_bestTest_145 (by decide) ?_
                          refine E_istore_n [(3, .int xr), (2, .int xb), (0, .ref 61), (1, .int a), (4, .int xc), (7, .int xr)] dX6_bestTest_149 rfl (by decide) rfl ?_
                          refine E_iinc 4 (xc + 1) [(4, .int (xc + 1)), (3, .int xr), (2, .int xb), (0, .ref 61), (1, .int a), (7, .int xr)] dX6_bestTest_150 rfl rfl (by decide) rfl ?_
                          refine E_goto 38 dX6_bestTest_153 (by decide) ?_
                          refine E_sub [3, 4, 2, 1, 0] rfl ?_
                          exact ih38 xb xr (xc + 1) (c + 1) mi_49 (by omega) ((tI_add hxc (show (1 : Int32).toInt = 1 from rfl) (by omega)).trans (by omega)) (by omega) (by exfalso; omega) (by exfalso; omega) (hF.trans hFr_49 (by decide) (by decide)) (fun k hk => (h61_49 k hk).trans (h61 k hk))
                      · skip
                        refine E_iload 4 dX6_bestTest_130 rfl ?_
                        refine E_goto 136 dX6_bestTest_132 (by decide) ?_
                        refine E_istore_n [(2, .int xc), (0, .ref 61), (1, .int a), (3, .int xl), (4, .int xc), (7, .int xr)] dX6_bestTest_136 rfl (by decide) rfl ?_
                        refine E_iload 5 dX6_bestTest_137 rfl ?_
                        refine E_iload_n 3 dX6_bestTest_139 rfl rfl ?_
                        refine Z_ge ((btW (mi 62) n nm s (fitL (mi 62) n nm nt (2 ^ nm)) c : Nat) : Int) ((btS (mi 62) n nm s (fitL (mi 62) n nm nt (2 ^ nm)) c).2 : Int) hr hl 148 dX6_bestTest_140 (by decide) (fun c_140 => ?_) (fun c_140 => ?_)
                        · skip
                          refine E_iload_n 3 dX6_bestTest_148 rfl rfl ?_
                          refine E_istore_n [(3, .int xl), (2, .int xc), (0, .ref 61), (1, .int a), (4, .int xc), (7, .int xr)] dX6_bestTest_149 rfl (by decide) rfl ?_
                          refine E_iinc 4 (xc + 1) [(4, .int (xc + 1)), (3, .int xl), (2, .int xc), (0, .ref 61), (1, .int a), (7, .int xr)] dX6_bestTest_150 rfl rfl (by decide) rfl ?_
                          refine E_goto 38 dX6_bestTest_153 (by decide) ?_
                          refine E_sub [3, 4, 2, 1, 0] rfl ?_
                          exact ih38 xc xl (xc + 1) (c + 1) mi_49 (by omega) ((tI_add hxc (show (1 : Int32).toInt = 1 from rfl) (by omega)).trans (by omega)) (by omega) (by exfalso; omega) (by exfalso; omega) (hF.trans hFr_49 (by decide) (by decide)) (fun k hk => (h61_49 k hk).trans (h61 k hk))
                        · skip
                          refine E_iload 5 dX6_bestTest_143 rfl ?_
                          refine E_goto 149 dX6_bestTest_145 (by decide) ?_
                          refine E_istore_n [(3, .int xr), (2, .int xc), (0, .ref 61), (1, .int a), (4, .int xc), (7, .int xr)] dX6_bestTest_149 rfl (by decide) rfl ?_
                          refine E_iinc 4 (xc + 1) [(4, .int (xc + 1)), (3, .int xr), (2, .int xc), (0, .ref 61), (1, .int a), (7, .int xr)] dX6_bestTest_150 rfl rfl (by decide) rfl ?_
                          refine E_goto 38 dX6_bestTest_153 (by decide) ?_
                          refine E_sub [3, 4, 2, 1, 0] rfl ?_
                          exact ih38 xc xr (xc + 1) (c + 1) mi_49 (by omega) ((tI_add hxc (show (1 : Int32).toInt = 1 from rfl) (by omega)).trans (by omega)) (by omega) (bt_y hl hr (by omega) hxc).1 (bt_y hl hr (by omega) hxc).2 (hF.trans hFr_49 (by decide) (by decide)) (fun k hk => (h61_49 k hk).trans (h61 k hk))
                    refine E_sub [1, 2, 3, 4, 5, 0] rfl ?_
                    exact J124 ((mj 61 14) - xk) (btW_n (tI_sub hft hxk (by omega)) (by rw [show i = (fitL (mi 62) n nm nt (2 ^ nm)).length by omega, List.take_length]) (by omega))
                  · skip
                    refine E_iload 6 dX6_bestTest_110 rfl ?_
                    refine E_goto 122 dX6_bestTest_112 (by decide) ?_
                    refine E_istore [(7, .int xk), (0, .ref 61), (1, .int a), (2, .int xb), (3, .int xl), (4, .int xc), (5, .int r_49), (6, .int xk)] dX6_bestTest_122 (by decide) rfl ?_
                    have J124 : ∀ (xr : Int32), xr.toInt = (btW (mi 62) n nm s (fitL (mi 62) n nm nt (2 ^ nm)) c : Int) → E l RX6 cX6_bestTest 8 (some .int) false [] (rmE 8 0 0) (wl mi ml) (TgM (wl mi ml) 0 0 (QI (fun r mi9 ml9 => ml = ml9 ∧ ((¬ (0 ≤ A ∧ A ≤ ((2 ^ n - 1 : Nat) : Int)) ∧ SM 1 mi mi9) ∨ ((0 ≤ A ∧ A ≤ ((2 ^ n - 1 : Nat) : Int)) ∧ ∃ s : Nat, A = (s : Int) ∧ SM 0 mi mi9 ∧ r.toInt = ((btS (mi 62) n nm s (fitL (mi 62) n nm nt (2 ^ nm)) 64).1 : Int))))) noX) 0 0 124 [(0, .ref 61), (1, .int a), (2, .int xb), (3, .int xl), (4, .int xc), (7, .int xr)] [] (wl mi_49 ml) := by
                      intro xr hr
                      refine E_iload 5 dX6_bestTest_124 rfl ?_
                      refine E_iload_n 3 dX6_bestTest_126 rfl rfl ?_
                      refine Z_ge ((btW (mi 62) n nm s (fitL (mi 62) n nm nt (2 ^ nm)) c : Nat) : Int) ((btS (mi 62) n nm s (fitL (mi 62) n nm nt (2 ^ nm)) c).2 : Int) hr hl 135 dX6_bestTest_127 (by decide) (fun c_127 => ?_) (fun c_127 => ?_)
                      · skip
                        refine E_iload_n 2 dX6_bestTest_135 rfl rfl ?_
                        refine E_istore_n [(2, .int xb), (0, .ref 61), (1, .int a), (3, .int xl), (4, .int xc), (7, .int xr)] dX6_bestTest_136 rfl (by decide) rfl ?_
                        refine E_iload 5 dX6_bestTest_137 rfl ?_
                        refine E_iload_n 3 dX6_bestTest_139 rfl rfl ?_
                        refine Z_ge ((btW (mi 62) n nm s (fitL (mi 62) n nm nt (2 ^ nm)) c : Nat) : Int) ((btS (mi 62) n nm s (fitL (mi 62) n nm nt (2 ^ nm)) c).2 : Int) hr hl 148 dX6_bestTest_140 (by decide) (fun c_140 => ?_) (fun c_140 => ?_)
                        · skip
                          refine E_iload_n 3 dX6_bestTest_148 rfl rfl ?_
                          refine E_istore_n [(3, .int xl), (2, .int xb), (0, .ref 61), (1, .int a), (4, .int xc), (7, .int xr)] dX6_bestTest_149 rfl (by decide) rfl ?_
                          refine E_iinc 4 (xc + 1) [(4, .int (xc + 1)), (3, .int xl), (2, .int xb), (0, .ref 61), (1, .int a), (7, .int xr)] dX6_bestTest_150 rfl rfl (by decide) rfl ?_
                          refine E_goto 38 dX6_bestTest_153 (by decide) ?_
                          refine E_sub [3, 4, 2, 1, 0] rfl ?_
                          exact ih38 xb xl (xc + 1) (c + 1) mi_49 (by omega) ((tI_add hxc (show (1 : Int32).toInt = 1 from rfl) (by omega)).trans (by omega)) (by omega) (bt_n hl hr (by omega) hb).1 (bt_n hl hr (by omega) hb).2 (hF.trans hFr_49 (by decide) (by decide)) (fun k hk => (h61_49 k hk).trans (h61 k hk))
                        · skip
                          refine E_iload 5 dX6_bestTest_143 rfl ?_
                          refine E_goto 149 dX6_bestTest_145 (by decide) ?_
                          refine E_istore_n [(3, .int xr), (2, .int xb), (0, .ref 61), (1, .int a), (4, .int xc), (7, .int xr)] dX6_bestTest_149 rfl (by decide) rfl ?_
                          refine E_iinc 4 (xc + 1) [(4, .int (xc + 1)), (3, .int xr), (2, .int xb), (0, .ref 61), (1, .int a), (7, .int xr)] dX6_bestTest_150 rfl rfl (by decide) rfl ?_
                          refine E_goto 38 dX6_bestTest_153 (by decide) ?_
                          refine E_sub [3, 4, 2, 1, 0] rfl ?_
                          exact ih38 xb xr (xc + 1) (c + 1) mi_49 (by omega) ((tI_add hxc (show (1 : Int32).toInt = 1 from rfl) (by omega)).trans (by omega)) (by omega) (by exfalso; omega) (by exfalso; omega) (hF.trans hFr_49 (by decide) (by decide)) (fun k hk => (h61_49 k hk).trans (h61 k hk))
                      · skip
                        refine E_iload 4 dX6_bestTest_130 rfl ?_
                        refine E_goto 136 dX6_bestTest_132 (by decide) ?_
                        refine E_istore_n [(2, .int xc), (0, .ref 61), (1, .int a), (3, .int xl), (4, .int xc), (7, .int xr)] dX6_bestTest_136 rfl (by decide) rfl ?_
                        refine E_iload 5 dX6_bestTest_137 rfl ?_
                        refine E_iload_n 3 dX6_bestTest_139 rfl rfl ?_
                        refine Z_ge ((btW (mi 62) n nm s (fitL (mi 62) n nm nt (2 ^ nm)) c : Nat) : Int) ((btS (mi 62) n nm s (fitL (mi 62) n nm nt (2 ^ nm)) c).2 : Int) hr hl 148 dX6_bestTest_140 (by decide) (fun c_140 => ?_) (fun c_140 => ?_)
                        · skip
                          refine E_iload_n 3 dX6_bestTest_148 rfl rfl ?_
                          refine E_istore_n [(3, .int xl), (2, .int xc), (0, .ref 61), (1, .int a), (4, .int xc), (7, .int xr)] dX6_bestTest_149 rfl (by decide) rfl ?_
                          refine E_iinc 4 (xc + 1) [(4, .int (xc + 1)), (3, .int xl), (2, .int xc), (0, .ref 61), (1, .int a), (7, .int xr)] dX6_bestTest_150 rfl rfl (by decide) rfl ?_
                          refine E_goto 38 dX6_bestTest_153 (by decide) ?_
                          refine E_sub [3, 4, 2, 1, 0] rfl ?_
                          exact ih38 xc xl (xc + 1) (c + 1) mi_49 (by omega) ((tI_add hxc (show (1 : Int32).toInt = 1 from rfl) (by omega)).trans (by omega)) (by omega) (by exfalso; omega) (by exfalso; omega) (hF.trans hFr_49 (by decide) (by decide)) (fun k hk => (h61_49 k hk).trans (h61 k hk))
                        · skip
                          refine E_iload 5 dX6_bestTest_143 rfl ?_
                          refine E_goto 149 dX6_bestTest_145 (by decide) ?_
                          refine E_istore_n [(3, .int xr), (2, .int xc), (0, .ref 61), (1, .int a), (4, .int xc), (7, .int xr)] dX6_bestTest_149 rfl (by decide) rfl ?_
                          refine E_iinc 4 (xc + 1) [(4, .int (xc + 1)), (3, .int xr), (2, .int xc), (0, .ref 61), (1, .int a), (7, .int xr)] dX6_bestTest_150 rfl rfl (by decide) rfl ?_
                          refine E_goto 38 dX6_bestTest_153 (by decide) ?_
                          refine E_sub [3, 4, 2, 1, 0] rfl ?_
                          exact ih38 xc xr (xc + 1) (c + 1) mi_49 (by omega) ((tI_add hxc (show (1 : Int32).toInt = 1 from rfl) (by omega)).trans (by omega)) (by omega) (bt_y hl hr (by omega) hxc).1 (bt_y hl hr (by omega) hxc).2 (hF.trans hFr_49 (by decide) (by decide)) (fun k hk => (h61_49 k hk).trans (h61 k hk))
                    refine E_sub [1, 2, 3, 4, 5, 0] rfl ?_
                    exact J124 xk (btW_y hxk (by rw [show i = (fitL (mi 62) n nm nt (2 ^ nm)).length by omega, List.take_length]) (by omega))
                · skip
                  obtain ⟨s9, hs9⟩ : ∃ q, (fitL (mi 62) n nm nt (2 ^ nm))[i]? = some q := ⟨_, List.getElem?_eq_getElem (by omega)⟩
                  have hv9 : mi_49 70 i = nI s9 := (congrFun (hFr_49 70 (by decide)) i).trans (hls i s9 hs9)
                  have hs32 : s9 < 32 := Nat.lt_of_lt_of_le (fitL_lt _ _ (List.mem_of_getElem? hs9)) (p2_5 hm5)
                  refine E_iload 6 dX6_bestTest_69 rfl ?_
                  refine E_aload_n 0 dX6_bestTest_71 rfl rfl ?_
                  refine gf_X6_34 tw_61 rfl dX6_bestTest_72 ?_
                  refine E_iload 7 dX6_bestTest_75 rfl ?_
                  refine S_iald i (nI s9) tw_70 hxi (by omega) hv9 dX6_bestTest_77 ?_
                  refine E_iload 5 dX6_bestTest_78 rfl ?_
                  refine E_iand dX6_bestTest_80 ?_
                  rw [show ((nI s9) &&& r_49) = (nI (s9 &&& hbS (mi 62) n s c nm)) from (by rw [tI_nIx hhb_49]; exact nx_and _ _)]
                  refine Y_eq ((s9 &&& hbS (mi 62) n s c nm : Nat) : Int) (tI_nI (Nat.lt_of_le_of_lt Nat.and_le_left (by omega))) 88 dX6_bestTest_81 (by decide) (fun c_81 => ?_) (fun c_81 => ?_)
                  · skip
                    refine E_iconst 0 (by decide) dX6_bestTest_88 ?_
                    refine E_iadd dX6_bestTest_89 ?_
                    refine E_istore [(6, .int (xk + 0)), (0, .ref 61), (1, .int a), (2, .int xb), (3, .int xl), (4, .int xc), (5, .int r_49), (7, .int xi)] dX6_bestTest_90 (by decide) rfl ?_
                    refine E_iinc 7 (xi + 1) [(7, .int (xi + 1)), (6, .int (xk + 0)), (0, .ref 61), (1, .int a), (2, .int xb), (3, .int xl), (4, .int xc), (5, .int r_49)] dX6_bestTest_92 rfl rfl (by decide) rfl ?_
                    refine E_goto 60 dX6_bestTest_95 (by decide) ?_
                    refine E_sub [2, 3, 4, 5, 6, 7, 1, 0] rfl ?_
                    exact ih60 (xk + 0) (xi + 1) (i + 1) (by omega) ((tI_add hxi (show (1 : Int32).toInt = 1 from rfl) (by omega)).trans (by omega)) (by omega) (by rw [cntF_n hs9 (by omega)]; exact (tI_add hxk (show (0 : Int32).toInt = 0 from rfl) (by omega)).trans (by omega))
                  · skip
                    refine E_iconst 1 (by decide) dX6_bestTest_84 ?_
                    refine E_goto 89 dX6_bestTest_85 (by decide) ?_
                    refine E_iadd dX6_bestTest_89 ?_
                    refine E_istore [(6, .int (xk + 1)), (0, .ref 61), (1, .int a), (2, .int xb), (3, .int xl), (4, .int xc), (5, .int r_49), (7, .int xi)] dX6_bestTest_90 (by decide) rfl ?_
                    refine E_iinc 7 (xi + 1) [(7, .int (xi + 1)), (6, .int (xk + 1)), (0, .ref 61), (1, .int a), (2, .int xb), (3, .int xl), (4, .int xc), (5, .int r_49)] dX6_bestTest_92 rfl rfl (by decide) rfl ?_
                    refine E_goto 60 dX6_bestTest_95 (by decide) ?_
                    refine E_sub [2, 3, 4, 5, 6, 7, 1, 0] rfl ?_
                    exact ih60 (xk + 1) (xi + 1) (i + 1) (by omega) ((tI_add hxi (show (1 : Int32).toInt = 1 from rfl) (by omega)).trans (by omega)) (by omega) (by rw [cntF_y hs9 (by omega)]; exact (tI_add hxk (show (1 : Int32).toInt = 1 from rfl) (by omega)).trans (by omega))
            refine E_sub [3, 4, 5, 6, 7, 2, 1, 0] rfl ?_
            exact J60 _ 0 0 0 (Nat.lt_succ_self _) (show (0 : Int32).toInt = 0 from rfl) (Nat.zero_le _) rfl
      refine E_sub [3, 4, 2, 1, 0] rfl ?_
      exact J38 _ 0 100 0 0 mi_27 (Nat.lt_succ_self _) (show (0 : Int32).toInt = 0 from rfl) (by omega) rfl rfl Fr.rfl' (fun _ _ => rfl)
    · exact absurd c_21 (by decide)
end MO15
