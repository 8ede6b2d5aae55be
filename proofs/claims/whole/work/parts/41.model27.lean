section MO27
/-- what the digest goes over -/
noncomputable def dgL (V : Nat → Int32) (N n nm nt sc : Nat) : List Int32 := (((((((((([nI N] ++ (List.range (6 + 2 * n)).map V) ++ [nI (prV V (2 ^ n - 1) n).length]) ++ [nI (hsA V (prV V (2 ^ n - 1) n) n)]) ++ [V 26]) ++ (List.range nm).map (fun k => V (27 + k))) ++ [V 32]) ++ (List.range (3 * nt)).map (fun k => V (33 + k))) ++ [nI (fitL V n nm nt (2 ^ nm)).length]) ++ [Int32.ofInt (bsF (fitL V n nm nt (2 ^ nm)))]) ++ [nI sc])
theorem SM.d {mi mj mk : MI} {n nm nt : Nat} {c : Int32} (h : SM c mi mj) (g : DgS mj mk n nm nt) : SM c mi mk :=
  ⟨h.1.trans g.1 (fun _ h => h) (by decide), (g.2.1 2 (by decide) (by decide)).trans h.2.1, (g.2.1 4 (by decide) (by decide)).trans h.2.2.1, (g.2.1 5 (by decide) (by decide)).trans h.2.2.2⟩
theorem oI_x {a : Int32} {z : Int} (h : a.toInt = z) : a = Int32.ofInt z := by rw [← h, Int32.ofInt_toInt]
theorem hF9_1 {x : Int64} {a b : Int32} (e : a = b) (hy : x = 31 * 3067 + a.toInt64) : x = hF9 3067 [b] := by subst e; exact hy
set_option maxHeartbeats 1600000 in
set_option maxRecDepth 100000 in
theorem c_X6_digest (l : Launch) (hfl : l.stackTraces = false) (mi : MI) (ml : MJ) (n : Nat) (hn : (mi 62 5).toInt = (n : Int)) (h10 : n ≤ 10) (hwf : WFV (mi 62)) (nm : Nat) (hnm : (mi 62 26).toInt = (nm : Int)) (hm5 : nm ≤ 5) (nt : Nat) (hnt : (mi 62 32).toInt = (nt : Int)) (N sc : Nat) (hN : (mi 61 4).toInt = (N : Int)) (hN2 : N ≤ 120) (hsc : (mi 61 2).toInt = (sc : Int)) (h4 : sc ≤ 4) : Ct l yX6_digest (.code yX6_digest cX6_digest 2 (some .long)) 9 0 0 [.ref 61] (wl mi ml) (QJ (fun r mi9 ml9 => FK ml ml9 ∧ SM 0 mi mi9 ∧ r = hF9 3067 (dgL (mi 62) N n nm nt sc))) noX := by
  refine Ct_of (ini := false) pn_X6 hfl (fun h => nomatch h) (Nat.le_of_ble_eq_true rfl) ?_
  show E l RX6 cX6_digest 2 (some .long) false [] (rmE 9 0 0) (wl mi ml) (TgM (wl mi ml) 0 0 (QJ (fun r mi9 ml9 => FK ml ml9 ∧ SM 0 mi mi9 ∧ r = hF9 3067 (dgL (mi 62) N n nm nt sc))) noX) 0 0 0 [(0, .ref 61)] [] (wl mi ml)
  have hb16 := hwf.2.1.2.2
  refine E_aload_n 0 dX6_digest_0 rfl rfl ?_
  refine E_iconst 0 (by decide) dX6_digest_1 ?_
  refine pf_X6_43 tw_61 rfl dX6_digest_2 ?_
  refine E_aload_n 0 dX6_digest_5 rfl rfl ?_
  refine E_ldc2 wk_X6_220 dX6_digest_6 ?_
  refine pf_X6_217 tw_61 rfl dX6_digest_9 ?_
  refine E_aload_n 0 dX6_digest_12 rfl rfl ?_
  refine E_aload_n 0 dX6_digest_13 rfl rfl ?_
  refine gf_X6_174 (mi 61 4) tw_61 rfl ((u2_n (by omega)).trans rfl) dX6_digest_14 ?_
  refine E_i2l dX6_digest_17 ?_
  refine E_callV (c_X6_mix l hfl (u2 mi 61 5 0) (u2 ml 61 22 3067) ((mi 61 4).toInt64)) cw_X6_222 (As := [.long ((mi 61 4).toInt64)]) (st := []) wi_yX6_mix we_yX6_mix (ci := 6) (q := (RX6, TX6, 23)) rfl rfl (wl_atO tw_61) rfl ⟨Nat.le_of_ble_eq_true rfl, Nat.le_of_ble_eq_true rfl, Nat.le_of_ble_eq_true rfl, Nat.le_of_ble_eq_true rfl⟩ (Nat.le_of_ble_eq_true rfl) dX6_digest_18 (fun _ _ h => h) rfl (kV (fun mi_18 ml_18 h_18 => ?_))
  obtain ⟨hm9_18, hFK_18, hv_18⟩ := h_18
  subst hm9_18
  have hH_18 : ml_18 61 22 = hF9 3067 [nI N] := hF9_1 (tI_nIx hN) (by rw [hv_18, u2_s])
  refine E_iconst 0 (by decide) dX6_digest_21 ?_
  refine E_istore_n [(1, .int 0), (0, .ref 61)] dX6_digest_22 rfl (by decide) rfl ?_
  have J23 : ∀ (Nm : Nat) (xk : Int32) (k : Nat) (m1 : MJ), 6 + 2 * n - k < Nm → xk.toInt = (k : Int) → k ≤ 6 + 2 * n → FK ml m1 → m1 61 22 = hF9 3067 ([nI N] ++ (List.range k).map (mi 62)) → E l RX6 cX6_digest 2 (some .long) false [] (rmE 9 0 0) (wl mi ml) (TgM (wl mi ml) 0 0 (QJ (fun r mi9 ml9 => FK ml ml9 ∧ SM 0 mi mi9 ∧ r = hF9 3067 (dgL (mi 62) N n nm nt sc))) noX) 0 0 23 [(0, .ref 61), (1, .int xk)] [] (wl (u2 mi 61 5 0) m1) := by
    intro Nm
    induction Nm with
    | zero => intros; omega
    | succ Nm ih23 =>
      intro xk k m1 hN23 hxk hk hK1 hH1
      refine E_iload_n 1 dX6_digest_23 rfl rfl ?_
      refine E_bipush 6 (by decide) dX6_digest_24 ?_
      refine E_iconst 2 (by decide) dX6_digest_26 ?_
      refine E_aload_n 0 dX6_digest_27 rfl rfl ?_
      refine gf_X6_7 tw_61 rfl dX6_digest_28 ?_
      refine E_iconst 5 (by decide) dX6_digest_31 ?_
      refine S_iald 5 (mi 62 5) tw_62 rfl (by decide) ((u2_n (by omega)).trans rfl) dX6_digest_32 ?_
      refine E_imul dX6_digest_33 ?_
      refine E_iadd dX6_digest_34 ?_
      refine Z_ge (k : Int) (6 + (2 * (n : Int))) hxk (tI_add (show (6 : Int32).toInt = 6 from rfl) (tI_mul (show (2 : Int32).toInt = 2 from rfl) hn (by omega)) (by omega)) 55 dX6_digest_35 (by decide) (fun c_35 => ?_) (fun c_35 => ?_)
      · skip
        have hE1 : m1 61 22 = hF9 3067 ([nI N] ++ (List.range (6 + 2 * n)).map (mi 62)) := by rw [← show k = 6 + 2 * n by omega]; exact hH1
        refine E_aload_n 0 dX6_digest_55 rfl rfl ?_
        refine E_aload_n 0 dX6_digest_56 rfl rfl ?_
        refine E_callV (c_X6_all l hfl (u2 mi 61 5 0) m1 n ((congrArg Int32.toInt ((u2_n (by omega)).trans rfl)).trans hn) (by omega)) cw_X6_105 (As := []) (st := [.ref 61]) wi_yX6_all we_yX6_all (ci := 6) (q := (RX6, TX6, 23)) rfl rfl (wl_atO tw_61) rfl ⟨Nat.le_of_ble_eq_true rfl, Nat.le_of_ble_eq_true rfl, Nat.le_of_ble_eq_true rfl, Nat.le_of_ble_eq_true rfl⟩ (Nat.le_of_ble_eq_true rfl) dX6_digest_57 (fun _ _ h => h) rfl (kE ?_)
        refine E_callV (c_X6_listAll l hfl (u2 mi 61 5 0) m1 n ((congrArg Int32.toInt ((u2_n (by omega)).trans rfl)).trans hn) (by omega) (by rw [show (u2 mi 61 5 0) 62 = mi 62 from (u2_p (by decide))]; exact hwf) (nI (2 ^ n - 1)) (2 ^ n - 1) ((tI_pow (by omega)).trans (by omega)) (by have := Nat.pow_le_pow_right (show 0 < 2 by omega) h10; omega)) cw_X6_109 (As := [.int (nI (2 ^ n - 1))]) (st := []) wi_yX6_listAll we_yX6_listAll (ci := 6) (q := (RX6, TX6, 23)) rfl rfl (wl_atO tw_61) rfl ⟨Nat.le_of_ble_eq_true rfl, Nat.le_of_ble_eq_true rfl, Nat.le_of_ble_eq_true rfl, Nat.le_of_ble_eq_true rfl⟩ (Nat.le_of_ble_eq_true rfl) dX6_digest_60 (fun _ _ h => h) rfl (kV (fun mi_60 ml_60 h_60 => ?_))
        obtain ⟨hl9_60, hFr_60, h61_60, hln_60, hen_60⟩ := h_60
        subst hl9_60
        rw [show (u2 mi 61 5 0) 62 = mi 62 from (u2_p (by decide))] at hln_60 hen_60
        have hle_60 := prV_len (V := mi 62) (s := (2 ^ n - 1)) (n := n) (by omega)
        refine E_aload_n 0 dX6_digest_63 rfl rfl ?_
        refine E_aload_n 0 dX6_digest_64 rfl rfl ?_
        refine gf_X6_95 (mi_60 61 9) tw_61 rfl rfl dX6_digest_65 ?_
        refine E_i2l dX6_digest_68 ?_
        refine E_callV (c_X6_mix l hfl mi_60 m1 ((mi_60 61 9).toInt64)) cw_X6_222 (As := [.long ((mi_60 61 9).toInt64)]) (st := []) wi_yX6_mix we_yX6_mix (ci := 6) (q := (RX6, TX6, 23)) rfl rfl (wl_atO tw_61) rfl ⟨Nat.le_of_ble_eq_true rfl, Nat.le_of_ble_eq_true rfl, Nat.le_of_ble_eq_true rfl, Nat.le_of_ble_eq_true rfl⟩ (Nat.le_of_ble_eq_true rfl) dX6_digest_69 (fun _ _ h => h) rfl (kV (fun mi_69 ml_69 h_69 => ?_))
        obtain ⟨hm9_69, hFK_69, hv_69⟩ := h_69
        subst hm9_69
        have hH_69 : ml_69 61 22 = hF9 3067 (([nI N] ++ (List.range (6 + 2 * n)).map (mi 62)) ++ [nI (prV (mi 62) (2 ^ n - 1) n).length]) := hF9_add hE1 (tI_nIx hln_60) hv_69
        refine E_aload_n 0 dX6_digest_72 rfl rfl ?_
        refine E_aload_n 0 dX6_digest_73 rfl rfl ?_
        refine E_callV (c_X6_hitsAll l hfl mi_60 ml_69 n ((congrArg Int32.toInt ((congrFun (hFr_60 62 (by decide)) 5).trans ((u2_n (by omega)).trans rfl))).trans hn) (by omega) (by rw [show mi_60 62 = mi 62 from ((hFr_60 62 (by decide)).trans (u2_p (by decide)))]; exact hwf) ((mi 62 3).toInt) ((congrArg Int32.toInt (congrFun ((hFr_60 62 (by decide)).trans (u2_p (by decide))) 3)).trans rfl)) cw_X6_126 (As := []) (st := [.ref 61]) wi_yX6_hitsAll we_yX6_hitsAll (ci := 6) (q := (RX6, TX6, 23)) rfl rfl (wl_atO tw_61) rfl ⟨Nat.le_of_ble_eq_true rfl, Nat.le_of_ble_eq_true rfl, Nat.le_of_ble_eq_true rfl, Nat.le_of_ble_eq_true rfl⟩ (Nat.le_of_ble_eq_true rfl) dX6_digest_74 (fun _ _ h => h) rfl (kI (fun r_74 mi_74 ml_74 h_74 => ?_))
        obtain ⟨hl9_74, hFr_74, h61_74, hln_74, hr_74⟩ := h_74
        subst hl9_74
        rw [show mi_60 62 = mi 62 from ((hFr_60 62 (by decide)).trans (u2_p (by decide)))] at hln_74 hr_74
        refine E_i2l dX6_digest_77 ?_
        refine E_callV (c_X6_mix l hfl mi_74 ml_69 (r_74.toInt64)) cw_X6_222 (As := [.long (r_74.toInt64)]) (st := []) wi_yX6_mix we_yX6_mix (ci := 6) (q := (RX6, TX6, 23)) rfl rfl (wl_atO tw_61) rfl ⟨Nat.le_of_ble_eq_true rfl, Nat.le_of_ble_eq_true rfl, Nat.le_of_ble_eq_true rfl, Nat.le_of_ble_eq_true rfl⟩ (Nat.le_of_ble_eq_true rfl) dX6_digest_78 (fun _ _ h => h) rfl (kV (fun mi_78 ml_78 h_78 => ?_))
        obtain ⟨hm9_78, hFK_78, hv_78⟩ := h_78
        subst hm9_78
        have hH_78 : ml_78 61 22 = hF9 3067 ((([nI N] ++ (List.range (6 + 2 * n)).map (mi 62)) ++ [nI (prV (mi 62) (2 ^ n - 1) n).length]) ++ [nI (hsA (mi 62) (prV (mi 62) (2 ^ n - 1) n) n)]) := hF9_add hH_69 (tI_nIx hr_74) hv_78
        refine E_aload_n 0 dX6_digest_81 rfl rfl ?_
        refine E_aload_n 0 dX6_digest_82 rfl rfl ?_
        refine gf_X6_7 tw_61 rfl dX6_digest_83 ?_
        refine E_bipush 26 (by decide) dX6_digest_86 ?_
        refine S_iald 26 (mi 62 26) tw_62 rfl (by decide) ((congrFun (hFr_74 62 (by decide)) 26).trans ((congrFun (hFr_60 62 (by decide)) 26).trans ((u2_n (by omega)).trans rfl))) dX6_digest_88 ?_
        refine E_i2l dX6_digest_89 ?_
        refine E_callV (c_X6_mix l hfl mi_74 ml_78 ((mi 62 26).toInt64)) cw_X6_222 (As := [.long ((mi 62 26).toInt64)]) (st := []) wi_yX6_mix we_yX6_mix (ci := 6) (q := (RX6, TX6, 23)) rfl rfl (wl_atO tw_61) rfl ⟨Nat.le_of_ble_eq_true rfl, Nat.le_of_ble_eq_true rfl, Nat.le_of_ble_eq_true rfl, Nat.le_of_ble_eq_true rfl⟩ (Nat.le_of_ble_eq_true rfl) dX6_digest_90 (fun _ _ h => h) rfl (kV (fun mi_90 ml_90 h_90 => ?_))
        obtain ⟨hm9_90, hFK_90, hv_90⟩ := h_90
        subst hm9_90
        have hH_90 : ml_90 61 22 = hF9 3067 (((([nI N] ++ (List.range (6 + 2 * n)).map (mi 62)) ++ [nI (prV (mi 62) (2 ^ n - 1) n).length]) ++ [nI (hsA (mi 62) (prV (mi 62) (2 ^ n - 1) n) n)]) ++ [mi 62 26]) := hF9_add hH_78 rfl hv_90
        refine E_iconst 0 (by decide) dX6_digest_93 ?_
        refine E_istore_n [(1, .int 0), (0, .ref 61)] dX6_digest_94 rfl (by decide) rfl ?_
        have J95 : ∀ (Nm : Nat) (xk : Int32) (k : Nat) (m2 : MJ), nm - k < Nm → xk.toInt = (k : Int) → k ≤ nm → FK ml m2 → m2 61 22 = hF9 3067 ((((([nI N] ++ (List.range (6 + 2 * n)).map (mi 62)) ++ [nI (prV (mi 62) (2 ^ n - 1) n).length]) ++ [nI (hsA (mi 62) (prV (mi 62) (2 ^ n - 1) n) n)]) ++ [mi 62 26]) ++ (List.range k).map (fun k => mi 62 (27 + k))) → E l RX6 cX6_digest 2 (some .long) false [] (rmE 9 0 0) (wl mi ml) (TgM (wl mi ml) 0 0 (QJ (fun r mi9 ml9 => FK ml ml9 ∧ SM 0 mi mi9 ∧ r = hF9 3067 (dgL (mi 62) N n nm nt sc))) noX) 0 0 95 [(0, .ref 61), (1, .int xk)] [] (wl mi_74 m2) := by
          intro Nm
          induction Nm with
          | zero => intros; omega
          | succ Nm ih95 =>
            intro xk k m2 hN95 hxk hk2 hK2 hH2
            refine E_iload_n 1 dX6_digest_95 rfl rfl ?_
            refine E_aload_n 0 dX6_digest_96 rfl rfl ?_
            refine gf_X6_7 tw_61 rfl dX6_digest_97 ?_
            refine E_bipush 26 (by decide) dX6_digest_100 ?_
            refine S_iald 26 (mi 62 26) tw_62 rfl (by decide) ((congrFun (hFr_74 62 (by decide)) 26).trans ((congrFun (hFr_60 62 (by decide)) 26).trans ((u2_n (by omega)).trans rfl))) dX6_digest_102 ?_
            refine Z_ge (k : Int) (nm : Int) hxk hnm 126 dX6_digest_103 (by decide) (fun c_103 => ?_) (fun c_103 => ?_)
            · skip
              have hE2 : m2 61 22 = hF9 3067 ((((([nI N] ++ (List.range (6 + 2 * n)).map (mi 62)) ++ [nI (prV (mi 62) (2 ^ n - 1) n).length]) ++ [nI (hsA (mi 62) (prV (mi 62) (2 ^ n - 1) n) n)]) ++ [mi 62 26]) ++ (List.range nm).map (fun k => mi 62 (27 + k))) := by rw [← show k = nm by omega]; exact hH2
              refine E_aload_n 0 dX6_digest_126 rfl rfl ?_
              refine E_aload_n 0 dX6_digest_127 rfl rfl ?_
              refine gf_X6_7 tw_61 rfl dX6_digest_128 ?_
              refine E_bipush 32 (by decide) dX6_digest_131 ?_
              refine S_iald 32 (mi 62 32) tw_62 rfl (by decide) ((congrFun (hFr_74 62 (by decide)) 32).trans ((congrFun (hFr_60 62 (by decide)) 32).trans ((u2_n (by omega)).trans rfl))) dX6_digest_133 ?_
              refine E_i2l dX6_digest_134 ?_
              refine E_callV (c_X6_mix l hfl mi_74 m2 ((mi 62 32).toInt64)) cw_X6_222 (As := [.long ((mi 62 32).toInt64)]) (st := []) wi_yX6_mix we_yX6_mix (ci := 6) (q := (RX6, TX6, 23)) rfl rfl (wl_atO tw_61) rfl ⟨Nat.le_of_ble_eq_true rfl, Nat.le_of_ble_eq_true rfl, Nat.le_of_ble_eq_true rfl, Nat.le_of_ble_eq_true rfl⟩ (Nat.le_of_ble_eq_true rfl) dX6_digest_135 (fun _ _ h => h) rfl (kV (fun mi_135 ml_135 h_135 => ?_))
              obtain ⟨hm9_135, hFK_135, hv_135⟩ := h_135
              subst hm9_135
              have hH_135 : ml_135 61 22 = hF9 3067 (((((([nI N] ++ (List.range (6 + 2 * n)).map (mi 62)) ++ [nI (prV (mi 62) (2 ^ n - 1) n).length]) ++ [nI (hsA (mi 62) (prV (mi 62) (2 ^ n - 1) n) n)]) ++ [mi 62 26]) ++ (List.range nm).map (fun k => mi 62 (27 + k))) ++ [mi 62 32]) := hF9_add hE2 rfl hv_135
              refine E_iconst 0 (by decide) dX6_digest_138 ?_
              refine E_istore_n [(1, .int 0), (0, .ref 61)] dX6_digest_139 rfl (by decide) rfl ?_
              have J140 : ∀ (Nm : Nat) (xk : Int32) (k : Nat) (m3 : MJ), 3 * nt - k < Nm → xk.toInt = (k : Int) → k ≤ 3 * nt → FK ml m3 → m3 61 22 = hF9 3067 (((((((([nI N] ++ (List.range (6 + 2 * n)).map (mi 62)) ++ [nI (prV (mi 62) (2 ^ n - 1) n).length]) ++ [nI (hsA (mi 62) (prV (mi 62) (2 ^ n - 1) n) n)]) ++ [mi 62 26]) ++ (List.range nm).map (fun k => mi 62 (27 + k)))) ++ [mi 62 32]) ++ (List.range k).map (fun k => mi 62 (33 + k))) → E l RX6 cX6_digest 2 (some .long) false [] (rmE 9 0 0) (wl mi ml) (TgM (wl mi ml) 0 0 (QJ (fun r mi9 ml9 => FK ml ml9 ∧ SM 0 mi mi9 ∧ r = hF9 3067 (dgL (mi 62) N n nm nt sc))) noX) 0 0 140 [(0, .ref 61), (1, .int xk)] [] (wl mi_74 m3) := by
                intro Nm
                induction Nm with
                | zero => intros; omega
                | succ Nm ih140 =>
                  intro xk k m3 hN140 hxk hk3 hK3 hH3
                  refine E_iload_n 1 dX6_digest_140 rfl rfl ?_
                  refine E_iconst 3 (by decide) dX6_digest_141 ?_
                  refine E_aload_n 0 dX6_digest_142 rfl rfl ?_
                  refine gf_X6_7 tw_61 rfl dX6_digest_143 ?_
                  refine E_bipush 32 (by decide) dX6_digest_146 ?_
                  refine S_iald 32 (mi 62 32) tw_62 rfl (by decide) ((congrFun (hFr_74 62 (by decide)) 32).trans ((congrFun (hFr_60 62 (by decide)) 32).trans ((u2_n (by omega)).trans rfl))) dX6_digest_148 ?_
                  refine E_imul dX6_digest_149 ?_
                  refine Z_ge (k : Int) (3 * (nt : Int)) hxk (tI_mul (show (3 : Int32).toInt = 3 from rfl) hnt (by omega)) 173 dX6_digest_150 (by decide) (fun c_150 => ?_) (fun c_150 => ?_)
                  · skip
                    have hE3 : m3 61 22 = hF9 3067 (((((((([nI N] ++ (List.range (6 + 2 * n)).map (mi 62)) ++ [nI (prV (mi 62) (2 ^ n - 1) n).length]) ++ [nI (hsA (mi 62) (prV (mi 62) (2 ^ n - 1) n) n)]) ++ [mi 62 26]) ++ (List.range nm).map (fun k => mi 62 (27 + k)))) ++ [mi 62 32]) ++ (List.range (3 * nt)).map (fun k => mi 62 (33 + k))) := by rw [← show k = 3 * nt by omega]; exact hH3
                    refine E_aload_n 0 dX6_digest_173 rfl rfl ?_
                    refine E_callV (c_X6_diagnose l hfl mi_74 m3 n ((congrArg Int32.toInt ((congrFun (hFr_74 62 (by decide)) 5).trans ((congrFun (hFr_60 62 (by decide)) 5).trans ((u2_n (by omega)).trans rfl)))).trans hn) (by omega) (by rw [show mi_74 62 = mi 62 from ((hFr_74 62 (by decide)).trans ((hFr_60 62 (by decide)).trans (u2_p (by decide))))]; exact hwf) nm ((congrArg Int32.toInt ((congrFun (hFr_74 62 (by decide)) 26).trans ((congrFun (hFr_60 62 (by decide)) 26).trans ((u2_n (by omega)).trans rfl)))).trans hnm) (by omega) nt ((congrArg Int32.toInt ((congrFun (hFr_74 62 (by decide)) 32).trans ((congrFun (hFr_60 62 (by decide)) 32).trans ((u2_n (by omega)).trans rfl)))).trans hnt)) cw_X6_168 (As := []) (st := []) wi_yX6_diagnose we_yX6_diagnose (ci := 6) (q := (RX6, TX6, 23)) rfl rfl (wl_atO tw_61) rfl ⟨Nat.le_of_ble_eq_true rfl, Nat.le_of_ble_eq_true rfl, Nat.le_of_ble_eq_true rfl, Nat.le_of_ble_eq_true rfl⟩ (Nat.le_of_ble_eq_true rfl) dX6_digest_174 (fun _ _ h => h) rfl (kV (fun mi_174 ml_174 h_174 => ?_))
                    obtain ⟨hl9_174, hD_174⟩ := h_174
                    subst hl9_174
                    have hL_174 := hD_174.L (V := (mi 62)) ((hFr_74 62 (by decide)).trans ((hFr_60 62 (by decide)).trans (u2_p (by decide))))
                    refine E_aload_n 0 dX6_digest_177 rfl rfl ?_
                    refine E_aload_n 0 dX6_digest_178 rfl rfl ?_
                    refine gf_X6_165 (mi_174 61 14) tw_61 rfl rfl dX6_digest_179 ?_
                    refine E_i2l dX6_digest_182 ?_
                    refine E_callV (c_X6_mix l hfl mi_174 m3 ((mi_174 61 14).toInt64)) cw_X6_222 (As := [.long ((mi_174 61 14).toInt64)]) (st := []) wi_yX6_mix we_yX6_mix (ci := 6) (q := (RX6, TX6, 23)) rfl rfl (wl_atO tw_61) rfl ⟨Nat.le_of_ble_eq_true rfl, Nat.le_of_ble_eq_true rfl, Nat.le_of_ble_eq_true rfl, Nat.le_of_ble_eq_true rfl⟩ (Nat.le_of_ble_eq_true rfl) dX6_digest_183 (fun _ _ h => h) rfl (kV (fun mi_183 ml_183 h_183 => ?_))
                    obtain ⟨hm9_183, hFK_183, hv_183⟩ := h_183
                    subst hm9_183
                    have hH_183 : ml_183 61 22 = hF9 3067 ((((((((([nI N] ++ (List.range (6 + 2 * n)).map (mi 62)) ++ [nI (prV (mi 62) (2 ^ n - 1) n).length]) ++ [nI (hsA (mi 62) (prV (mi 62) (2 ^ n - 1) n) n)]) ++ [mi 62 26]) ++ (List.range nm).map (fun k => mi 62 (27 + k)))) ++ [mi 62 32]) ++ (List.range (3 * nt)).map (fun k => mi 62 (33 + k))) ++ [nI (fitL (mi 62) n nm nt (2 ^ nm)).length]) := hF9_add hE3 (tI_nIx hL_174.1) hv_183
                    refine E_aload_n 0 dX6_digest_186 rfl rfl ?_
                    refine E_aload_n 0 dX6_digest_187 rfl rfl ?_
                    refine E_callV (c_X6_best l hfl mi_174 ml_183 n ((congrArg Int32.toInt ((congrFun (hD_174.1 62 (by decide)) 5).trans ((congrFun (hFr_74 62 (by decide)) 5).trans ((congrFun (hFr_60 62 (by decide)) 5).trans ((u2_n (by omega)).trans rfl))))).trans hn) (by omega) (by rw [show mi_174 62 = mi 62 from ((hD_174.1 62 (by decide)).trans ((hFr_74 62 (by decide)).trans ((hFr_60 62 (by decide)).trans (u2_p (by decide)))))]; exact hwf) nm ((congrArg Int32.toInt ((congrFun (hD_174.1 62 (by decide)) 26).trans ((congrFun (hFr_74 62 (by decide)) 26).trans ((congrFun (hFr_60 62 (by decide)) 26).trans ((u2_n (by omega)).trans rfl))))).trans hnm) (by omega) nt ((congrArg Int32.toInt ((congrFun (hD_174.1 62 (by decide)) 32).trans ((congrFun (hFr_74 62 (by decide)) 32).trans ((congrFun (hFr_60 62 (by decide)) 32).trans ((u2_n (by omega)).trans rfl))))).trans hnt)) cw_X6_171 (As := []) (st := [.ref 61]) wi_yX6_best we_yX6_best (ci := 6) (q := (RX6, TX6, 23)) rfl rfl (wl_atO tw_61) rfl ⟨Nat.le_of_ble_eq_true rfl, Nat.le_of_ble_eq_true rfl, Nat.le_of_ble_eq_true rfl, Nat.le_of_ble_eq_true rfl⟩ (Nat.le_of_ble_eq_true rfl) dX6_digest_188 (fun _ _ h => h) rfl (kI (fun r_188 mi_188 ml_188 h_188 => ?_))
                    obtain ⟨hl9_188, hD_188, hb_188⟩ := h_188
                    subst hl9_188
                    rw [show mi_174 62 = mi 62 from ((hD_174.1 62 (by decide)).trans ((hFr_74 62 (by decide)).trans ((hFr_60 62 (by decide)).trans (u2_p (by decide)))))] at hb_188
                    refine E_i2l dX6_digest_191 ?_
                    refine E_callV (c_X6_mix l hfl mi_188 ml_183 (r_188.toInt64)) cw_X6_222 (As := [.long (r_188.toInt64)]) (st := []) wi_yX6_mix we_yX6_mix (ci := 6) (q := (RX6, TX6, 23)) rfl rfl (wl_atO tw_61) rfl ⟨Nat.le_of_ble_eq_true rfl, Nat.le_of_ble_eq_true rfl, Nat.le_of_ble_eq_true rfl, Nat.le_of_ble_eq_true rfl⟩ (Nat.le_of_ble_eq_true rfl) dX6_digest_192 (fun _ _ h => h) rfl (kV (fun mi_192 ml_192 h_192 => ?_))
                    obtain ⟨hm9_192, hFK_192, hv_192⟩ := h_192
                    subst hm9_192
                    have hH_192 : ml_192 61 22 = hF9 3067 (((((((((([nI N] ++ (List.range (6 + 2 * n)).map (mi 62)) ++ [nI (prV (mi 62) (2 ^ n - 1) n).length]) ++ [nI (hsA (mi 62) (prV (mi 62) (2 ^ n - 1) n) n)]) ++ [mi 62 26]) ++ (List.range nm).map (fun k => mi 62 (27 + k)))) ++ [mi 62 32]) ++ (List.range (3 * nt)).map (fun k => mi 62 (33 + k))) ++ [nI (fitL (mi 62) n nm nt (2 ^ nm)).length]) ++ [Int32.ofInt (bsF (fitL (mi 62) n nm nt (2 ^ nm)))]) := hF9_add hH_183 (oI_x hb_188) hv_192
                    refine E_aload_n 0 dX6_digest_195 rfl rfl ?_
                    refine E_aload_n 0 dX6_digest_196 rfl rfl ?_
                    refine gf_X6_47 (mi_188 61 2) tw_61 rfl rfl dX6_digest_197 ?_
                    refine E_i2l dX6_digest_200 ?_
                    refine E_callV (c_X6_mix l hfl mi_188 ml_192 ((mi_188 61 2).toInt64)) cw_X6_222 (As := [.long ((mi_188 61 2).toInt64)]) (st := []) wi_yX6_mix we_yX6_mix (ci := 6) (q := (RX6, TX6, 23)) rfl rfl (wl_atO tw_61) rfl ⟨Nat.le_of_ble_eq_true rfl, Nat.le_of_ble_eq_true rfl, Nat.le_of_ble_eq_true rfl, Nat.le_of_ble_eq_true rfl⟩ (Nat.le_of_ble_eq_true rfl) dX6_digest_201 (fun _ _ h => h) rfl (kV (fun mi_201 ml_201 h_201 => ?_))
                    obtain ⟨hm9_201, hFK_201, hv_201⟩ := h_201
                    subst hm9_201
                    have hH_201 : ml_201 61 22 = hF9 3067 ((((((((((([nI N] ++ (List.range (6 + 2 * n)).map (mi 62)) ++ [nI (prV (mi 62) (2 ^ n - 1) n).length]) ++ [nI (hsA (mi 62) (prV (mi 62) (2 ^ n - 1) n) n)]) ++ [mi 62 26]) ++ (List.range nm).map (fun k => mi 62 (27 + k)))) ++ [mi 62 32]) ++ (List.range (3 * nt)).map (fun k => mi 62 (33 + k))) ++ [nI (fitL (mi 62) n nm nt (2 ^ nm)).length]) ++ [Int32.ofInt (bsF (fitL (mi 62) n nm nt (2 ^ nm)))]) ++ [nI sc]) := hF9_add hH_192 (tI_nIx (a := mi_188 61 2) (by rw [((((SM_l hFr_60 h61_60).t hFr_74 h61_74).d hD_174).d hD_188).2.1]; exact hsc)) hv_201
                    refine E_aload_n 0 dX6_digest_204 rfl rfl ?_
                    refine gf_X6_217 (ml_201 61 22) tw_61 rfl rfl dX6_digest_205 ?_
                    refine E_lret rfl (Nat.le_of_ble_eq_true rfl) (Nat.le_of_ble_eq_true rfl) dX6_digest_208 ?_
                    exact okQJ ⟨((hK3.t hFK_183).t hFK_192).t hFK_201, (((SM_l hFr_60 h61_60).t hFr_74 h61_74).d hD_174).d hD_188, hH_201⟩
                  · skip
                    refine E_aload_n 0 dX6_digest_153 rfl rfl ?_
                    refine E_aload_n 0 dX6_digest_154 rfl rfl ?_
                    refine gf_X6_7 tw_61 rfl dX6_digest_155 ?_
                    refine E_bipush 33 (by decide) dX6_digest_158 ?_
                    refine E_iload_n 1 dX6_digest_160 rfl rfl ?_
                    refine E_iadd dX6_digest_161 ?_
                    refine S_iald (33 + k) (mi 62 (33 + k)) tw_62 ((tI_add (show (33 : Int32).toInt = 33 from rfl) hxk (by omega)).trans (by omega)) (by omega) (congrFun ((hFr_74 62 (by decide)).trans ((hFr_60 62 (by decide)).trans (u2_p (by decide)))) (33 + k)) dX6_digest_162 ?_
                    refine E_i2l dX6_digest_163 ?_
                    refine E_callV (c_X6_mix l hfl mi_74 m3 ((mi 62 (33 + k)).toInt64)) cw_X6_222 (As := [.long ((mi 62 (33 + k)).toInt64)]) (st := []) wi_yX6_mix we_yX6_mix (ci := 6) (q := (RX6, TX6, 23)) rfl rfl (wl_atO tw_61) rfl ⟨Nat.le_of_ble_eq_true rfl, Nat.le_of_ble_eq_true rfl, Nat.le_of_ble_eq_true rfl, Nat.le_of_ble_eq_true rfl⟩ (Nat.le_of_ble_eq_true rfl) dX6_digest_164 (fun _ _ h => h) rfl (kV (fun mi_164 ml_164 h_164 => ?_))
                    obtain ⟨hm9_164, hFK_164, hv_164⟩ := h_164
                    subst hm9_164
                    have hH_164 : ml_164 61 22 = hF9 3067 ((((((((([nI N] ++ (List.range (6 + 2 * n)).map (mi 62)) ++ [nI (prV (mi 62) (2 ^ n - 1) n).length]) ++ [nI (hsA (mi 62) (prV (mi 62) (2 ^ n - 1) n) n)]) ++ [mi 62 26]) ++ (List.range nm).map (fun k => mi 62 (27 + k)))) ++ [mi 62 32]) ++ (List.range k).map (fun k => mi 62 (33 + k))) ++ [mi 62 (33 + k)]) := hF9_add hH3 rfl hv_164
                    refine E_iinc 1 (xk + 1) [(1, .int (xk + 1)), (0, .ref 61)] dX6_digest_167 rfl rfl (by decide) rfl ?_
                    refine E_goto 140 dX6_digest_170 (by decide) ?_
                    refine E_sub [1, 0] rfl ?_
                    exact ih140 (xk + 1) (k + 1) ml_164 (by omega) ((tI_add hxk (show (1 : Int32).toInt = 1 from rfl) (by omega)).trans (by omega)) (by omega) (hK3.t hFK_164) (by rw [hH_164, ← mp_s])
              refine E_sub [1, 0] rfl ?_
              exact J140 _ 0 0 ml_135 (Nat.lt_succ_self _) (show (0 : Int32).toInt = 0 from rfl) (Nat.zero_le _) (hK2.t hFK_135) (by rw [hH_135]; simp)
            · skip
              refine E_aload_n 0 dX6_digest_106 rfl rfl ?_
              refine E_aload_n 0 dX6_digest_107 rfl rfl ?_
              refine gf_X6_7 tw_61 rfl dX6_digest_108 ?_
              refine E_bipush 27 (by decide) dX6_digest_111 ?_
              refine E_iload_n 1 dX6_digest_113 rfl rfl ?_
              refine E_iadd dX6_digest_114 ?_
              refine S_iald (27 + k) (mi 62 (27 + k)) tw_62 ((tI_add (show (27 : Int32).toInt = 27 from rfl) hxk (by omega)).trans (by omega)) (by omega) (congrFun ((hFr_74 62 (by decide)).trans ((hFr_60 62 (by decide)).trans (u2_p (by decide)))) (27 + k)) dX6_digest_115 ?_
              refine E_i2l dX6_digest_116 ?_
              refine E_callV (c_X6_mix l hfl mi_74 m2 ((mi 62 (27 + k)).toInt64)) cw_X6_222 (As := [.long ((mi 62 (27 + k)).toInt64)]) (st := []) wi_yX6_mix we_yX6_mix (ci := 6) (q := (RX6, TX6, 23)) rfl rfl (wl_atO tw_61) rfl ⟨Nat.le_of_ble_eq_true rfl, Nat.le_of_ble_eq_true rfl, Nat.le_of_ble_eq_true rfl, Nat.le_of_ble_eq_true rfl⟩ (Nat.le_of_ble_eq_true rfl) dX6_digest_117 (fun _ _ h => h) rfl (kV (fun mi_117 ml_117 h_117 => ?_))
              obtain ⟨hm9_117, hFK_117, hv_117⟩ := h_117
              subst hm9_117
              have hH_117 : ml_117 61 22 = hF9 3067 (((((([nI N] ++ (List.range (6 + 2 * n)).map (mi 62)) ++ [nI (prV (mi 62) (2 ^ n - 1) n).length]) ++ [nI (hsA (mi 62) (prV (mi 62) (2 ^ n - 1) n) n)]) ++ [mi 62 26]) ++ (List.range k).map (fun k => mi 62 (27 + k))) ++ [mi 62 (27 + k)]) := hF9_add hH2 rfl hv_117
              refine E_iinc 1 (xk + 1) [(1, .int (xk + 1)), (0, .ref 61)] dX6_digest_120 rfl rfl (by decide) rfl ?_
              refine E_goto 95 dX6_digest_123 (by decide) ?_
              refine E_sub [1, 0] rfl ?_
              exact ih95 (xk + 1) (k + 1) ml_117 (by omega) ((tI_add hxk (show (1 : Int32).toInt = 1 from rfl) (by omega)).trans (by omega)) (by omega) (hK2.t hFK_117) (by rw [hH_117, ← mp_s])
        refine E_sub [1, 0] rfl ?_
        exact J95 _ 0 0 ml_90 (Nat.lt_succ_self _) (show (0 : Int32).toInt = 0 from rfl) (Nat.zero_le _) (((hK1.t hFK_69).t hFK_78).t hFK_90) (by rw [hH_90]; simp)
      · skip
        refine E_aload_n 0 dX6_digest_38 rfl rfl ?_
        refine E_aload_n 0 dX6_digest_39 rfl rfl ?_
        refine gf_X6_7 tw_61 rfl dX6_digest_40 ?_
        refine E_iload_n 1 dX6_digest_43 rfl rfl ?_
        refine S_iald k (mi 62 k) tw_62 hxk (by omega) (u2_n (by omega)) dX6_digest_44 ?_
        refine E_i2l dX6_digest_45 ?_
        refine E_callV (c_X6_mix l hfl (u2 mi 61 5 0) m1 ((mi 62 k).toInt64)) cw_X6_222 (As := [.long ((mi 62 k).toInt64)]) (st := []) wi_yX6_mix we_yX6_mix (ci := 6) (q := (RX6, TX6, 23)) rfl rfl (wl_atO tw_61) rfl ⟨Nat.le_of_ble_eq_true rfl, Nat.le_of_ble_eq_true rfl, Nat.le_of_ble_eq_true rfl, Nat.le_of_ble_eq_true rfl⟩ (Nat.le_of_ble_eq_true rfl) dX6_digest_46 (fun _ _ h => h) rfl (kV (fun mi_46 ml_46 h_46 => ?_))
        obtain ⟨hm9_46, hFK_46, hv_46⟩ := h_46
        subst hm9_46
        have hH_46 : ml_46 61 22 = hF9 3067 (([nI N] ++ (List.range k).map (mi 62)) ++ [mi 62 k]) := hF9_add hH1 rfl hv_46
        refine E_iinc 1 (xk + 1) [(1, .int (xk + 1)), (0, .ref 61)] dX6_digest_49 rfl rfl (by decide) rfl ?_
        refine E_goto 23 dX6_digest_52 (by decide) ?_
        refine E_sub [1, 0] rfl ?_
        exact ih23 (xk + 1) (k + 1) ml_46 (by omega) ((tI_add hxk (show (1 : Int32).toInt = 1 from rfl) (by omega)).trans (by omega)) (by omega) (hK1.t hFK_46) (by rw [hH_46, mp_s])
  refine E_sub [1, 0] rfl ?_
  exact J23 _ 0 0 ml_18 (Nat.lt_succ_self _) (show (0 : Int32).toInt = 0 from rfl) (Nat.zero_le _) (FK.r.u.t hFK_18) (by rw [hH_18]; rfl)
end MO27
