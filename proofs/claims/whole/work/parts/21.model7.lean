section MO7
set_option maxHeartbeats 1600000 in
set_option maxRecDepth 100000 in
theorem c_X6_rowsOfAll (l : Launch) (hfl : l.stackTraces = false) (mi : MI) (ml : MJ) (n : Nat) (hn : (mi 62 5).toInt = (n : Int)) (h10 : n ≤ 10) : Ct l yX6_rowsOfAll (.code yX6_rowsOfAll cX6_rowsOfAll 2 none) 1 0 0 [.ref 61] (wl mi ml) (QV (fun mi9 ml9 => ml = ml9 ∧ Fr [65, 66] mi mi9 ∧ (∀ c, c < n → mi9 65 c = mi 62 (6 + 2 * c) ∧ mi9 66 c = mi 62 (7 + 2 * c)))) noX := by
  refine Ct_of (ini := false) pn_X6 hfl (fun h => nomatch h) (Nat.le_of_ble_eq_true rfl) ?_
  show E l RX6 cX6_rowsOfAll 2 none false [] (rmE 1 0 0) (wl mi ml) (TgM (wl mi ml) 0 0 (QV (fun mi9 ml9 => ml = ml9 ∧ Fr [65, 66] mi mi9 ∧ (∀ c, c < n → mi9 65 c = mi 62 (6 + 2 * c) ∧ mi9 66 c = mi 62 (7 + 2 * c)))) noX) 0 0 0 [(0, .ref 61)] [] (wl mi ml)
  refine E_iconst 0 (by decide) dX6_rowsOfAll_0 ?_
  refine E_istore_n [(1, .int 0), (0, .ref 61)] dX6_rowsOfAll_1 rfl (by decide) rfl ?_
  have J2 : ∀ (N : Nat) (xi : Int32) (i : Nat) (mj : MI), n - i < N → xi.toInt = (i : Int) → i ≤ n → Fr [65, 66] mi mj → (∀ c, c < i → mj 65 c = mi 62 (6 + 2 * c) ∧ mj 66 c = mi 62 (7 + 2 * c)) → E l RX6 cX6_rowsOfAll 2 none false [] (rmE 1 0 0) (wl mi ml) (TgM (wl mi ml) 0 0 (QV (fun mi9 ml9 => ml = ml9 ∧ Fr [65, 66] mi mi9 ∧ (∀ c, c < n → mi9 65 c = mi 62 (6 + 2 * c) ∧ mi9 66 c = mi 62 (7 + 2 * c)))) noX) 0 0 2 [(0, .ref 61), (1, .int xi)] [] (wl mj ml) := by
    intro N
    induction N with
    | zero => intros; omega
    | succ N ih2 =>
      intro xi i mj hN2 hxi hi hF h2
      have h62 : mj 62 = mi 62 := hF 62 (by decide)
      have hn2 : (mj 62 5).toInt = (n : Int) := by rw [h62]; exact hn
      refine E_iload_n 1 dX6_rowsOfAll_2 rfl rfl ?_
      refine E_aload_n 0 dX6_rowsOfAll_3 rfl rfl ?_
      refine gf_X6_7 tw_61 rfl dX6_rowsOfAll_4 ?_
      refine E_iconst 5 (by decide) dX6_rowsOfAll_7 ?_
      refine S_iald 5 (mj 62 5) tw_62 rfl (by decide) rfl dX6_rowsOfAll_8 ?_
      refine Z_ge (i : Int) (n : Int) hxi hn2 40 dX6_rowsOfAll_9 (by decide) (fun c_9 => ?_) (fun c_9 => ?_)
      · skip
        refine E_vret rfl (Nat.le_of_ble_eq_true rfl) (Nat.le_of_ble_eq_true rfl) dX6_rowsOfAll_40 ?_
        exact okQV ⟨rfl, hF, fun c hc => h2 c (by omega)⟩
      · skip
        refine E_aload_n 0 dX6_rowsOfAll_12 rfl rfl ?_
        refine gf_X6_19 tw_61 rfl dX6_rowsOfAll_13 ?_
        refine E_iload_n 1 dX6_rowsOfAll_16 rfl rfl ?_
        refine E_aload_n 0 dX6_rowsOfAll_17 rfl rfl ?_
        refine E_iload_n 1 dX6_rowsOfAll_18 rfl rfl ?_
        refine E_callV (c_X6_channelOf l hfl mj ml xi i (hxi.trans (by omega)) (by omega)) cw_X6_57 (As := [.int xi]) (st := [.int xi, .ref 65]) wi_yX6_channelOf we_yX6_channelOf (ci := 6) (q := (RX6, TX6, 23)) rfl rfl (wl_atO tw_61) rfl ⟨Nat.le_of_ble_eq_true rfl, Nat.le_of_ble_eq_true rfl, Nat.le_of_ble_eq_true rfl, Nat.le_of_ble_eq_true rfl⟩ (Nat.le_of_ble_eq_true rfl) dX6_rowsOfAll_19 (fun _ _ h => h) rfl (kE ?_)
        refine S_iast i tw_65 (hxi.trans (by omega)) (by omega) dX6_rowsOfAll_22 ?_
        refine E_aload_n 0 dX6_rowsOfAll_23 rfl rfl ?_
        refine gf_X6_22 tw_61 rfl dX6_rowsOfAll_24 ?_
        refine E_iload_n 1 dX6_rowsOfAll_27 rfl rfl ?_
        refine E_aload_n 0 dX6_rowsOfAll_28 rfl rfl ?_
        refine E_iload_n 1 dX6_rowsOfAll_29 rfl rfl ?_
        refine E_callV (c_X6_levelOf l hfl (u2 mj 65 i (mj 62 (6 + 2 * i))) ml xi i (hxi.trans (by omega)) (by omega)) cw_X6_82 (As := [.int xi]) (st := [.int xi, .ref 66]) wi_yX6_levelOf we_yX6_levelOf (ci := 6) (q := (RX6, TX6, 23)) rfl rfl (wl_atO tw_61) rfl ⟨Nat.le_of_ble_eq_true rfl, Nat.le_of_ble_eq_true rfl, Nat.le_of_ble_eq_true rfl, Nat.le_of_ble_eq_true rfl⟩ (Nat.le_of_ble_eq_true rfl) dX6_rowsOfAll_30 (fun _ _ h => h) rfl (kE ?_)
        rw [show (u2 mj 65 i (mj 62 (6 + 2 * i))) 62 (7 + 2 * i) = (mj 62 (7 + 2 * i)) from ((u2_n (by omega)).trans rfl)]
        refine S_iast i tw_66 (hxi.trans (by omega)) (by omega) dX6_rowsOfAll_33 ?_
        refine E_iinc 1 (xi + 1) [(1, .int (xi + 1)), (0, .ref 61)] dX6_rowsOfAll_34 rfl rfl (by decide) rfl ?_
        refine E_goto 2 dX6_rowsOfAll_37 (by decide) ?_
        refine E_sub [1, 0] rfl ?_
        exact ih2 (xi + 1) (i + 1) (u2 (u2 mj 65 i (mj 62 (6 + 2 * i))) 66 i (mj 62 (7 + 2 * i))) (by omega) ((tI_add hxi (show (1 : Int32).toInt = 1 from rfl) (by omega)).trans (by omega)) (by omega) ((hF.u (by decide)).u (by decide)) (lt_s (fun c hc => ⟨(u2_n (by omega)).trans ((u2_n (by omega)).trans (h2 c hc).1), (u2_n (by omega)).trans ((u2_n (by omega)).trans (h2 c hc).2)⟩) ⟨(u2_n (by omega)).trans ((u2_s _ _ _ _).trans (by rw [h62])), (u2_s _ _ _ _).trans (by rw [h62])⟩)
  refine E_sub [1, 0] rfl ?_
  exact J2 _ 0 0 mi (Nat.lt_succ_self _) (show (0 : Int32).toInt = 0 from rfl) (Nat.zero_le _) Fr.rfl' (fun c h => absurd h (Nat.not_lt_zero c))
theorem RowM_of {mj : MI} {V : Nat → Int32} {n : Nat} (hw : WFV V) (hn : (V 5).toInt = (n : Int)) (h : ∀ c, c < n → mj 65 c = V (6 + 2 * c) ∧ mj 66 c = V (7 + 2 * c)) : RowM mj (DV V) n := by
  intro k hk
  have h1 := hw.2.2.1 k (by omega)
  rw [(h k hk).1, (h k hk).2]
  exact ⟨⟨rfl, h1.1.1, h1.1.2⟩, ⟨rfl, h1.2.1, h1.2.2⟩⟩
theorem LsP_0 {D : RD} {mi : MI} {x : Int32} (hx : x = 0) : LsP D mi (u2 mi 61 9 x) [] := ⟨Fr.rfl'.u (by decide), fun k hk => u2_n (by omega), by rw [u2_s, hx]; rfl, encd_nil _ _⟩
theorem vB_t {s kd a b : Nat} (h : kd = 1 → a < b) (h1 : (a : Int) ≠ (b : Int)) (h2 : s.testBit a = true) (h3 : s.testBit b = true) : vB s kd a b := ⟨h, by omega, h2, h3⟩
theorem la_b {D : RD} {mi1 md : MI} {s n kd a b c : Nat} {xv : Int32} (h6 : (xv = 1 ∧ vB s kd a b) ∨ (xv = 0 ∧ ¬ vB s kd a b ∧ c = 0)) (h : LsP D mi1 md (stK D s n kd ++ stA D s n kd a ++ stB D s n kd a b ++ stC D s kd a b c)) (hh : xv.toInt = 0 ∨ c = nCs n kd) : LsP D mi1 md (stK D s n kd ++ stA D s n kd a ++ stB D s n kd a (b + 1)) := by
  rcases h6 with ⟨h1, h2⟩ | ⟨h1, h2, h3⟩
  · rcases hh with hh | hh
    · rw [h1] at hh; exact absurd hh (by decide)
    · rw [st_b1 h2, ← List.append_assoc, ← hh]; exact h
  · rw [st_b0 h2]
    rw [h3, show stC D s kd a b 0 = [] from rfl, List.append_nil] at h
    exact h
theorem la_k {D : RD} {mi1 md : MI} {s n kd a : Nat} (h : LsP D mi1 md (stK D s n kd ++ stA D s n kd a)) (e : a = n) : LsP D mi1 md (stK D s n (kd + 1)) := by
  subst e; exact h
theorem la_a {D : RD} {mi1 md : MI} {s n kd a b : Nat} (h : LsP D mi1 md (stK D s n kd ++ stA D s n kd a ++ stB D s n kd a b)) (e : b = n) : LsP D mi1 md (stK D s n kd ++ stA D s n kd (a + 1)) := by
  subst e
  rw [stA, ← List.append_assoc]; exact h
theorem la_b1 {D : RD} {mi1 md : MI} {s n kd a : Nat} (e : kd = 1) (h : LsP D mi1 md (stK D s n kd ++ stA D s n kd a)) : LsP D mi1 md (stK D s n kd ++ stA D s n kd a ++ stB D s n kd a (a + 1)) := by
  subst e
  rw [stB_0 _ (Nat.le_refl _), List.append_nil]; exact h
theorem la_c0 {D : RD} {mi1 md : MI} {s n kd a b c : Nat} (h : LsP D mi1 md (stK D s n kd ++ stA D s n kd a ++ stB D s n kd a b ++ stC D s kd a b c)) (hv : ¬ (vC s kd a b c ∧ Sg D kd a b c)) : LsP D mi1 md (stK D s n kd ++ stA D s n kd a ++ stB D s n kd a b ++ stC D s kd a b (c + 1)) := by
  rw [st_c0 hv]; exact h
theorem la_c1 {D : RD} {mi1 md mf : MI} {s n kd a b c : Nat} (h : LsP D mi1 md (stK D s n kd ++ stA D s n kd a ++ stB D s n kd a b ++ stC D s kd a b c)) (hv : vC s kd a b c) (hS : Sg D kd a b c) (h1 : Fr [61, 67] md mf) (h2 : ∀ k, k ≠ 9 → mf 61 k = md 61 k) (h3 : (mf 61 9).toInt = ((stK D s n kd ++ stA D s n kd a ++ stB D s n kd a b ++ stC D s kd a b c).length : Int) + 1) (h4 : ∀ k, k < 6 * (stK D s n kd ++ stA D s n kd a ++ stB D s n kd a b ++ stC D s kd a b c).length → mf 67 k = md 67 k) (h5 : encq D (mf 67) (stK D s n kd ++ stA D s n kd a ++ stB D s n kd a b ++ stC D s kd a b c).length (kd, a, b, c)) :
    LsP D mi1 mf (stK D s n kd ++ stA D s n kd a ++ stB D s n kd a b ++ stC D s kd a b (c + 1)) := by
  rw [st_c1 hv hS, ← List.append_assoc]
  exact LsP_step h h1 h2 h3 h4 h5
set_option maxHeartbeats 1600000 in
set_option maxRecDepth 100000 in
theorem c_X6_listAll (l : Launch) (hfl : l.stackTraces = false) (mi : MI) (ml : MJ) (n : Nat) (hn : (mi 62 5).toInt = (n : Int)) (h10 : n ≤ 10) (hwf : WFV (mi 62)) (xs : Int32) (s : Nat) (hxs : xs.toInt = (s : Int)) (hs : s < 1024) : Ct l yX6_listAll (.code yX6_listAll cX6_listAll 8 none) 4 0 0 [.ref 61, .int xs] (wl mi ml) (QV (fun mi9 ml9 => ml = ml9 ∧ Fr [61, 65, 66, 67] mi mi9 ∧ (∀ k, k ≠ 9 → mi9 61 k = mi 61 k) ∧ (mi9 61 9).toInt = ((stK (DV (mi 62)) s n 3).length : Int) ∧ encd (DV (mi 62)) (mi9 67) (stK (DV (mi 62)) s n 3))) noX := by
  refine Ct_of (ini := false) pn_X6 hfl (fun h => nomatch h) (Nat.le_of_ble_eq_true rfl) ?_
  show E l RX6 cX6_listAll 8 none false [] (rmE 4 0 0) (wl mi ml) (TgM (wl mi ml) 0 0 (QV (fun mi9 ml9 => ml = ml9 ∧ Fr [61, 65, 66, 67] mi mi9 ∧ (∀ k, k ≠ 9 → mi9 61 k = mi 61 k) ∧ (mi9 61 9).toInt = ((stK (DV (mi 62)) s n 3).length : Int) ∧ encd (DV (mi 62)) (mi9 67) (stK (DV (mi 62)) s n 3))) noX) 0 0 0 [(0, .ref 61), (1, .int xs)] [] (wl mi ml)
  refine E_aload_n 0 dX6_listAll_0 rfl rfl ?_
  refine E_callV (c_X6_rowsOfAll l hfl mi ml n hn (by omega)) cw_X6_98 (As := []) (st := []) wi_yX6_rowsOfAll we_yX6_rowsOfAll (ci := 6) (q := (RX6, TX6, 23)) rfl rfl (wl_atO tw_61) rfl ⟨Nat.le_of_ble_eq_true rfl, Nat.le_of_ble_eq_true rfl, Nat.le_of_ble_eq_true rfl, Nat.le_of_ble_eq_true rfl⟩ (Nat.le_of_ble_eq_true rfl) dX6_listAll_1 (fun _ _ h => h) rfl (kV (fun mi_1 ml_1 h_1 => ?_))
  obtain ⟨rfl, hFr_1, hrw_1⟩ := h_1
  have h_1 := And.intro True.intro (And.intro hFr_1 hrw_1)
  have hrow1 := RowM_of hwf hn hrw_1
  refine E_aload_n 0 dX6_listAll_4 rfl rfl ?_
  refine E_iconst 0 (by decide) dX6_listAll_5 ?_
  refine pf_X6_95 tw_61 rfl dX6_listAll_6 ?_
  refine E_aload_n 0 dX6_listAll_9 rfl rfl ?_
  refine gf_X6_7 tw_61 rfl dX6_listAll_10 ?_
  refine E_iconst 5 (by decide) dX6_listAll_13 ?_
  refine S_iald 5 (mi 62 5) tw_62 rfl (by decide) ((u2_n (by omega)).trans (congrFun (h_1.2.1 62 (by decide)) 5)) dX6_listAll_14 ?_
  refine E_istore_n [(2, .int (mi 62 5)), (0, .ref 61), (1, .int xs)] dX6_listAll_15 rfl (by decide) rfl ?_
  refine E_iconst 0 (by decide) dX6_listAll_16 ?_
  refine E_istore_n [(3, .int 0), (2, .int (mi 62 5)), (0, .ref 61), (1, .int xs)] dX6_listAll_17 rfl (by decide) rfl ?_
  have J18 : ∀ (N : Nat) (xk : Int32) (kd : Nat) (ma : MI), 3 - kd < N → xk.toInt = (kd : Int) → kd ≤ 3 → LsP (DV (mi 62)) mi_1 ma (stK (DV (mi 62)) s n kd) → E l RX6 cX6_listAll 8 none false [] (rmE 4 0 0) (wl mi ml) (TgM (wl mi ml) 0 0 (QV (fun mi9 ml9 => ml = ml9 ∧ Fr [61, 65, 66, 67] mi mi9 ∧ (∀ k, k ≠ 9 → mi9 61 k = mi 61 k) ∧ (mi9 61 9).toInt = ((stK (DV (mi 62)) s n 3).length : Int) ∧ encd (DV (mi 62)) (mi9 67) (stK (DV (mi 62)) s n 3))) noX) 0 0 18 [(0, .ref 61), (1, .int xs), (2, .int (mi 62 5)), (3, .int xk)] [] (wl ma ml) := by
    intro N
    induction N with
    | zero => intros; omega
    | succ N ih18 =>
      intro xk kd ma hN18 hxk hk hLa
      refine E_iload_n 3 dX6_listAll_18 rfl rfl ?_
      refine E_iconst 3 (by decide) dX6_listAll_19 ?_
      refine Z_ge (kd : Int) 3 hxk (show (3 : Int32).toInt = 3 from rfl) 171 dX6_listAll_20 (by decide) (fun c_20 => ?_) (fun c_20 => ?_)
      · skip
        refine E_vret rfl (Nat.le_of_ble_eq_true rfl) (Nat.le_of_ble_eq_true rfl) dX6_listAll_171 ?_
        exact okQV ⟨rfl, (hFr_1.trans hLa.1 (by decide) (by decide)), fun k hk => (hLa.2.1 k hk).trans (by rw [hFr_1 61 (by decide)]), by rw [← show kd = 3 by omega]; exact hLa.2.2.1, by rw [← show kd = 3 by omega]; exact hLa.2.2.2⟩
      · skip
        refine E_iconst 0 (by decide) dX6_listAll_23 ?_
        refine E_istore [(4, .int 0), (0, .ref 61), (1, .int xs), (2, .int (mi 62 5)), (3, .int xk)] dX6_listAll_24 (by decide) rfl ?_
        have J26 : ∀ (N : Nat) (xa : Int32) (a : Nat) (mb : MI), n - a < N → xa.toInt = (a : Int) → a ≤ n → LsP (DV (mi 62)) mi_1 mb (stK (DV (mi 62)) s n kd ++ stA (DV (mi 62)) s n kd a) → E l RX6 cX6_listAll 8 none false [] (rmE 4 0 0) (wl mi ml) (TgM (wl mi ml) 0 0 (QV (fun mi9 ml9 => ml = ml9 ∧ Fr [61, 65, 66, 67] mi mi9 ∧ (∀ k, k ≠ 9 → mi9 61 k = mi 61 k) ∧ (mi9 61 9).toInt = ((stK (DV (mi 62)) s n 3).length : Int) ∧ encd (DV (mi 62)) (mi9 67) (stK (DV (mi 62)) s n 3))) noX) 0 0 26 [(0, .ref 61), (1, .int xs), (2, .int (mi 62 5)), (3, .int xk), (4, .int xa)] [] (wl mb ml) := by
          intro N
          induction N with
          | zero => intros; omega
          | succ N ih26 =>
            intro xa a mb hN26 hxa ha hLb
            refine E_iload 4 dX6_listAll_26 rfl ?_
            refine E_iload_n 2 dX6_listAll_28 rfl rfl ?_
            refine Z_ge (a : Int) (n : Int) hxa hn 165 dX6_listAll_29 (by decide) (fun c_29 => ?_) (fun c_29 => ?_)
            · skip
              refine E_iinc 3 (xk + 1) [(3, .int (xk + 1)), (0, .ref 61), (1, .int xs), (2, .int (mi 62 5)), (4, .int xa)] dX6_listAll_165 rfl rfl (by decide) rfl ?_
              refine E_goto 18 dX6_listAll_168 (by decide) ?_
              refine E_sub [1, 2, 3, 0] rfl ?_
              exact ih18 (xk + 1) (kd + 1) mb (by omega) ((tI_add hxk (show (1 : Int32).toInt = 1 from rfl) (by omega)).trans (by omega)) (by omega) (la_k hLb (by omega))
            · skip
              refine E_iload_n 3 dX6_listAll_32 rfl rfl ?_
              refine E_iconst 1 (by decide) dX6_listAll_33 ?_
              refine Z_ne (kd : Int) 1 hxk (show (1 : Int32).toInt = 1 from rfl) 44 dX6_listAll_34 (by decide) (fun c_34 => ?_) (fun c_34 => ?_)
              · skip
                refine E_iconst 0 (by decide) dX6_listAll_44 ?_
                refine E_istore [(5, .int 0), (0, .ref 61), (1, .int xs), (2, .int (mi 62 5)), (3, .int xk), (4, .int xa)] dX6_listAll_45 (by decide) rfl ?_
                have J47 : ∀ (N : Nat) (xb : Int32) (b : Nat) (mc : MI), n - b < N → xb.toInt = (b : Int) → b ≤ n → (kd = 1 → a < b) → LsP (DV (mi 62)) mi_1 mc (stK (DV (mi 62)) s n kd ++ stA (DV (mi 62)) s n kd a ++ stB (DV (mi 62)) s n kd a b) → E l RX6 cX6_listAll 8 none false [] (rmE 4 0 0) (wl mi ml) (TgM (wl mi ml) 0 0 (QV (fun mi9 ml9 => ml = ml9 ∧ Fr [61, 65, 66, 67] mi mi9 ∧ (∀ k, k ≠ 9 → mi9 61 k = mi 61 k) ∧ (mi9 61 9).toInt = ((stK (DV (mi 62)) s n 3).length : Int) ∧ encd (DV (mi 62)) (mi9 67) (stK (DV (mi 62)) s n 3))) noX) 0 0 47 [(0, .ref 61), (1, .int xs), (2, .int (mi 62 5)), (3, .int xk), (4, .int xa), (5, .int xb)] [] (wl mc ml) := by
                  intro N
                  induction N with
                  | zero => intros; omega
                  | succ N ih47 =>
                    intro xb b mc hN47 hxb hb hkab hLc
                    refine E_iload 5 dX6_listAll_47 rfl ?_
                    refine E_iload_n 2 dX6_listAll_49 rfl rfl ?_
                    refine Z_ge (b : Int) (n : Int) hxb hn 159 dX6_listAll_50 (by decide) (fun c_50 => ?_) (fun c_50 => ?_)
                    · skip
                      refine E_iinc 4 (xa + 1) [(4, .int (xa + 1)), (0, .ref 61), (1, .int xs), (2, .int (mi 62 5)), (3, .int xk), (5, .int xb)] dX6_listAll_159 rfl rfl (by decide) rfl ?_
                      refine E_goto 26 dX6_listAll_162 (by decide) ?_
                      refine E_sub [1, 2, 3, 4, 0] rfl ?_
                      exact ih26 (xa + 1) (a + 1) mc (by omega) ((tI_add hxa (show (1 : Int32).toInt = 1 from rfl) (by omega)).trans (by omega)) (by omega) (la_a hLc (by omega))
                    · skip
                      refine E_iload 4 dX6_listAll_53 rfl ?_
                      refine E_iload 5 dX6_listAll_55 rfl ?_
                      refine Z_eq (a : Int) (b : Int) hxa hxb 82 dX6_listAll_57 (by decide) (fun c_57 => ?_) (fun c_57 => ?_)
                      · skip
                        refine E_iconst 0 (by decide) dX6_listAll_82 ?_
                        refine E_istore [(6, .int 0), (0, .ref 61), (1, .int xs), (2, .int (mi 62 5)), (3, .int xk), (4, .int xa), (5, .int xb)] dX6_listAll_83 (by decide) rfl ?_
                        refine E_iconst 0 (by decide) dX6_listAll_85 ?_
                        refine E_istore [(7, .int 0), (6, .int 0), (0, .ref 61), (1, .int xs), (2, .int (mi 62 5)), (3, .int xk), (4, .int xa), (5, .int xb)] dX6_listAll_86 (by decide) rfl ?_
                        have J88 : ∀ (N : Nat) (xc xv : Int32) (c : Nat) (md : MI), n + 1 - c < N → xc.toInt = (c : Int) → c ≤ nCs n kd → ((xv = 1 ∧ vB s kd a b) ∨ (xv = 0 ∧ ¬ vB s kd a b ∧ c = 0)) → LsP (DV (mi 62)) mi_1 md (stK (DV (mi 62)) s n kd ++ stA (DV (mi 62)) s n kd a ++ stB (DV (mi 62)) s n kd a b ++ stC (DV (mi 62)) s kd a b c) → E l RX6 cX6_listAll 8 none false [] (rmE 4 0 0) (wl mi ml) (TgM (wl mi ml) 0 0 (QV (fun mi9 ml9 => ml = ml9 ∧ Fr [61, 65, 66, 67] mi mi9 ∧ (∀ k, k ≠ 9 → mi9 61 k = mi 61 k) ∧ (mi9 61 9).toInt = ((stK (DV (mi 62)) s n 3).length : Int) ∧ encd (DV (mi 62)) (mi9 67) (stK (DV (mi 62)) s n 3))) noX) 0 0 88 [(0, .ref 61), (1, .int xs), (2, .int (mi 62 5)), (3, .int xk), (4, .int xa), (5, .int xb), (6, .int xv), (7, .int xc)] [] (wl md ml) := by
                          intro N
                          induction N with
                          | zero => intros; omega
                          | succ N ih88 =>
                            intro xc xv c md hN88 hxc hc hxs6 hLd
                            have hbnd : (kd = 1 ∧ nCs n kd = n) ∨ (kd ≠ 1 ∧ nCs n kd = 1) := by unfold nCs; split <;> omega
                            have hset9 : SetM md (DV (mi 62)) := (SetM_of hwf).c ((hLd.1 62 (by decide)).trans (hFr_1 62 (by decide)))
                            have hrow9 := hrow1.c (hLd.1 65 (by decide)) (hLd.1 66 (by decide))
                            refine E_iload 7 dX6_listAll_88 rfl ?_
                            refine E_iload_n 3 dX6_listAll_90 rfl rfl ?_
                            refine E_iconst 1 (by decide) dX6_listAll_91 ?_
                            refine Z_ne (kd : Int) 1 hxk (show (1 : Int32).toInt = 1 from rfl) 99 dX6_listAll_92 (by decide) (fun c_92 => ?_) (fun c_92 => ?_)
                            · skip
                              refine E_iconst 1 (by decide) dX6_listAll_99 ?_
                              refine Z_ge (c : Int) 1 hxc (show (1 : Int32).toInt = 1 from rfl) 153 dX6_listAll_100 (by decide) (fun c_100 => ?_) (fun c_100 => ?_)
                              · skip
                                refine E_iinc 5 (xb + 1) [(5, .int (xb + 1)), (0, .ref 61), (1, .int xs), (2, .int (mi 62 5)), (3, .int xk), (4, .int xa), (6, .int xv), (7, .int xc)] dX6_listAll_153 rfl rfl (by decide) rfl ?_
                                refine E_goto 47 dX6_listAll_156 (by decide) ?_
                                refine E_sub [1, 2, 3, 4, 5, 0] rfl ?_
                                exact ih47 (xb + 1) (b + 1) md (by omega) ((tI_add hxb (show (1 : Int32).toInt = 1 from rfl) (by omega)).trans (by omega)) (by omega) (by omega) (la_b hxs6 hLd (by first | exact Or.inl c_105 | exact Or.inr (by omega)))
                              · skip
                                refine E_iload 6 dX6_listAll_103 rfl ?_
                                refine Y_eq xv.toInt rfl 153 dX6_listAll_105 (by decide) (fun c_105 => ?_) (fun c_105 => ?_)
                                · skip
                                  refine E_iinc 5 (xb + 1) [(5, .int (xb + 1)), (0, .ref 61), (1, .int xs), (2, .int (mi 62 5)), (3, .int xk), (4, .int xa), (6, .int xv), (7, .int xc)] dX6_listAll_153 rfl rfl (by decide) rfl ?_
                                  refine E_goto 47 dX6_listAll_156 (by decide) ?_
                                  refine E_sub [1, 2, 3, 4, 5, 0] rfl ?_
                                  exact ih47 (xb + 1) (b + 1) md (by omega) ((tI_add hxb (show (1 : Int32).toInt = 1 from rfl) (by omega)).trans (by omega)) (by omega) (by omega) (la_b hxs6 hLd (by first | exact Or.inl c_105 | exact Or.inr (by omega)))
                                · skip
                                  refine E_iload_n 3 dX6_listAll_108 rfl rfl ?_
                                  refine E_iconst 1 (by decide) dX6_listAll_109 ?_
                                  refine Z_ne (kd : Int) 1 hxk (show (1 : Int32).toInt = 1 from rfl) 136 dX6_listAll_110 (by decide) (fun c_110 => ?_) (fun c_110 => ?_)
                                  · skip
                                    refine E_aload_n 0 dX6_listAll_136 rfl rfl ?_
                                    refine E_iload_n 3 dX6_listAll_137 rfl rfl ?_
                                    refine E_iload 4 dX6_listAll_138 rfl ?_
                                    refine E_iload 5 dX6_listAll_140 rfl ?_
                                    refine E_iload 7 dX6_listAll_142 rfl ?_
                                    have hvB9 : vB s kd a b := hxs6.elim (fun q => q.2) (fun q => absurd (by rw [q.1]; rfl) c_105)
                                    have b1 := hvB9.1
                                    have b2 := hvB9.2.1
                                    refine E_callV (c_X6_lists l hfl md ml (mi 62 0).toInt.toNat (mi 62 1).toInt (mi 62 2).toInt (fun k => (mi 62 (6 + 2 * k)).toInt) (fun k => (mi 62 (7 + 2 * k)).toInt) n hset9 hrow9 (by omega) xk xa xb xc kd a b c (hxk.trans (by omega)) (hxa.trans (by omega)) (hxb.trans (by omega)) (hxc.trans (by omega)) (by omega) (by omega) (by omega) (by omega) (((stK (DV (mi 62)) s n kd ++ stA (DV (mi 62)) s n kd a ++ stB (DV (mi 62)) s n kd a b ++ stC (DV (mi 62)) s kd a b c)).length) hLd.2.2.1 (by simp only [List.length_append]; exact st_room h10 (by omega) (by omega) (by omega) (by omega) (by omega) (by omega))) cw_X6_101 (As := [.int xk, .int xa, .int xb, .int xc]) (st := []) wi_yX6_lists we_yX6_lists (ci := 6) (q := (RX6, TX6, 23)) rfl rfl (wl_atO tw_61) rfl ⟨Nat.le_of_ble_eq_true rfl, Nat.le_of_ble_eq_true rfl, Nat.le_of_ble_eq_true rfl, Nat.le_of_ble_eq_true rfl⟩ (Nat.le_of_ble_eq_true rfl) dX6_listAll_144 (fun _ _ h => h) rfl (kV (fun mi_144 ml_144 h_144 => ?_))
                                    obtain ⟨rfl, hl_144⟩ := h_144
                                    refine E_iinc 7 (xc + 1) [(7, .int (xc + 1)), (0, .ref 61), (1, .int xs), (2, .int (mi 62 5)), (3, .int xk), (4, .int xa), (5, .int xb), (6, .int xv)] dX6_listAll_147 rfl rfl (by decide) rfl ?_
                                    refine E_goto 88 dX6_listAll_150 (by decide) ?_
                                    refine E_sub [1, 2, 3, 4, 5, 6, 7, 0] rfl ?_
                                    exact ih88 (xc + 1) xv (c + 1) mi_144 (by omega) ((tI_add hxc (show (1 : Int32).toInt = 1 from rfl) (by omega)).trans (by omega)) (by omega) (Or.inl ⟨hxs6.elim (fun q => q.1) (fun q => absurd (by rw [q.1]; rfl) c_105), hxs6.elim (fun q => q.2) (fun q => absurd (by rw [q.1]; rfl) c_105)⟩) (by first | exact hl_144.elim (fun q => by rw [← q.2]; exact la_c0 hLd (fun z => q.1 z.2)) (fun q => la_c1 hLd (by first | exact Or.inl (by omega) | exact Or.inr ⟨by omega, by omega, c_133⟩) q.1 q.2.1 q.2.2.1 q.2.2.2.1 q.2.2.2.2.1 q.2.2.2.2.2) | exact la_c0 hLd (fun z => by exact z.1.elim (fun z => by omega) (fun z => by first | omega | exact c_133 z.2.2)))
                                  · skip
                                    refine E_iload 7 dX6_listAll_113 rfl ?_
                                    refine E_iload 4 dX6_listAll_115 rfl ?_
                                    refine Z_eq (c : Int) (a : Int) hxc hxa 147 dX6_listAll_117 (by decide) (fun c_117 => ?_) (fun c_117 => ?_)
                                    · skip
                                      refine E_iinc 7 (xc + 1) [(7, .int (xc + 1)), (0, .ref 61), (1, .int xs), (2, .int (mi 62 5)), (3, .int xk), (4, .int xa), (5, .int xb), (6, .int xv)] dX6_listAll_147 rfl rfl (by decide) rfl ?_
                                      refine E_goto 88 dX6_listAll_150 (by decide) ?_
                                      refine E_sub [1, 2, 3, 4, 5, 6, 7, 0] rfl ?_
                                      exact ih88 (xc + 1) xv (c + 1) md (by omega) ((tI_add hxc (show (1 : Int32).toInt = 1 from rfl) (by omega)).trans (by omega)) (by omega) (Or.inl ⟨hxs6.elim (fun q => q.1) (fun q => absurd (by rw [q.1]; rfl) c_105), hxs6.elim (fun q => q.2) (fun q => absurd (by rw [q.1]; rfl) c_105)⟩) (by first | exact hl_144.elim (fun q => by rw [← q.2]; exact la_c0 hLd (fun z => q.1 z.2)) (fun q => la_c1 hLd (by first | exact Or.inl (by omega) | exact Or.inr ⟨by omega, by omega, c_133⟩) q.1 q.2.1 q.2.2.1 q.2.2.2.1 q.2.2.2.2.1 q.2.2.2.2.2) | exact la_c0 hLd (fun z => by exact z.1.elim (fun z => by omega) (fun z => by first | omega | exact c_133 z.2.2)))
                                    · skip
                                      refine E_iload 7 dX6_listAll_120 rfl ?_
                                      refine E_iload 5 dX6_listAll_122 rfl ?_
                                      refine Z_eq (c : Int) (b : Int) hxc hxb 147 dX6_listAll_124 (by decide) (fun c_124 => ?_) (fun c_124 => ?_)
                                      · skip
                                        refine E_iinc 7 (xc + 1) [(7, .int (xc + 1)), (0, .ref 61), (1, .int xs), (2, .int (mi 62 5)), (3, .int xk), (4, .int xa), (5, .int xb), (6, .int xv)] dX6_listAll_147 rfl rfl (by decide) rfl ?_
                                        refine E_goto 88 dX6_listAll_150 (by decide) ?_
                                        refine E_sub [1, 2, 3, 4, 5, 6, 7, 0] rfl ?_
                                        exact ih88 (xc + 1) xv (c + 1) md (by omega) ((tI_add hxc (show (1 : Int32).toInt = 1 from rfl) (by omega)).trans (by omega)) (by omega) (Or.inl ⟨hxs6.elim (fun q => q.1) (fun q => absurd (by rw [q.1]; rfl) c_105), hxs6.elim (fun q => q.2) (fun q => absurd (by rw [q.1]; rfl) c_105)⟩) (by first | exact hl_144.elim (fun q => by rw [← q.2]; exact la_c0 hLd (fun z => q.1 z.2)) (fun q => la_c1 hLd (by first | exact Or.inl (by omega) | exact Or.inr ⟨by omega, by omega, c_133⟩) q.1 q.2.1 q.2.2.1 q.2.2.2.1 q.2.2.2.2.1 q.2.2.2.2.2) | exact la_c0 hLd (fun z => by exact z.1.elim (fun z => by omega) (fun z => by first | omega | exact c_133 z.2.2)))
                                      · skip
                                        refine E_iload_n 1 dX6_listAll_127 rfl rfl ?_
                                        refine E_iload 7 dX6_listAll_128 rfl ?_
                                        refine E_callS (c_X6_has l hfl md ml xs xc s c (hxs.trans (by omega)) (hxc.trans (by omega)) (by omega) (by omega)) cw_X6_85 (As := [.int xs, .int xc]) (st := []) ws_yX6_has rfl ⟨Nat.le_of_ble_eq_true rfl, Nat.le_of_ble_eq_true rfl, Nat.le_of_ble_eq_true rfl, Nat.le_of_ble_eq_true rfl⟩ (Nat.le_of_ble_eq_true rfl) dX6_listAll_130 (fun _ _ h => h) rfl (kE ?_)
                                        refine B_eq 147 dX6_listAll_133 (by decide) (fun c_133 => ?_) (fun c_133 => ?_)
                                        · skip
                                          refine E_iinc 7 (xc + 1) [(7, .int (xc + 1)), (0, .ref 61), (1, .int xs), (2, .int (mi 62 5)), (3, .int xk), (4, .int xa), (5, .int xb), (6, .int xv)] dX6_listAll_147 rfl rfl (by decide) rfl ?_
                                          refine E_goto 88 dX6_listAll_150 (by decide) ?_
                                          refine E_sub [1, 2, 3, 4, 5, 6, 7, 0] rfl ?_
                                          exact ih88 (xc + 1) xv (c + 1) md (by omega) ((tI_add hxc (show (1 : Int32).toInt = 1 from rfl) (by omega)).trans (by omega)) (by omega) (Or.inl ⟨hxs6.elim (fun q => q.1) (fun q => absurd (by rw [q.1]; rfl) c_105), hxs6.elim (fun q => q.2) (fun q => absurd (by rw [q.1]; rfl) c_105)⟩) (by first | exact hl_144.elim (fun q => by rw [← q.2]; exact la_c0 hLd (fun z => q.1 z.2)) (fun q => la_c1 hLd (by first | exact Or.inl (by omega) | exact Or.inr ⟨by omega, by omega, c_133⟩) q.1 q.2.1 q.2.2.1 q.2.2.2.1 q.2.2.2.2.1 q.2.2.2.2.2) | exact la_c0 hLd (fun z => by exact z.1.elim (fun z => by omega) (fun z => by first | omega | exact c_133 z.2.2)))
                                        · skip
                                          refine E_aload_n 0 dX6_listAll_136 rfl rfl ?_
                                          refine E_iload_n 3 dX6_listAll_137 rfl rfl ?_
                                          refine E_iload 4 dX6_listAll_138 rfl ?_
                                          refine E_iload 5 dX6_listAll_140 rfl ?_
                                          refine E_iload 7 dX6_listAll_142 rfl ?_
                                          have hvB9 : vB s kd a b := hxs6.elim (fun q => q.2) (fun q => absurd (by rw [q.1]; rfl) c_105)
                                          have b1 := hvB9.1
                                          have b2 := hvB9.2.1
                                          refine E_callV (c_X6_lists l hfl md ml (mi 62 0).toInt.toNat (mi 62 1).toInt (mi 62 2).toInt (fun k => (mi 62 (6 + 2 * k)).toInt) (fun k => (mi 62 (7 + 2 * k)).toInt) n hset9 hrow9 (by omega) xk xa xb xc kd a b c (hxk.trans (by omega)) (hxa.trans (by omega)) (hxb.trans (by omega)) (hxc.trans (by omega)) (by omega) (by omega) (by omega) (by omega) (((stK (DV (mi 62)) s n kd ++ stA (DV (mi 62)) s n kd a ++ stB (DV (mi 62)) s n kd a b ++ stC (DV (mi 62)) s kd a b c)).length) hLd.2.2.1 (by simp only [List.length_append]; exact st_room h10 (by omega) (by omega) (by omega) (by omega) (by omega) (by omega))) cw_X6_101 (As := [.int xk, .int xa, .int xb, .int xc]) (st := []) wi_yX6_lists we_yX6_lists (ci := 6) (q := (RX6, TX6, 23)) rfl rfl (wl_atO tw_61) rfl ⟨Nat.le_of_ble_eq_true rfl, Nat.le_of_ble_eq_true rfl, Nat.le_of_ble_eq_true rfl, Nat.le_of_ble_eq_true rfl⟩ (Nat.le_of_ble_eq_true rfl) dX6_listAll_144 (fun _ _ h => h) rfl (kV (fun mi_144 ml_144 h_144 => ?_))
                                          obtain ⟨rfl, hl_144⟩ := h_144
                                          refine E_iinc 7 (xc + 1) [(7, .int (xc + 1)), (0, .ref 61), (1, .int xs), (2, .int (mi 62 5)), (3, .int xk), (4, .int xa), (5, .int xb), (6, .int xv)] dX6_listAll_147 rfl rfl (by decide) rfl ?_
                                          refine E_goto 88 dX6_listAll_150 (by decide) ?_
                                          refine E_sub [1, 2, 3, 4, 5, 6, 7, 0] rfl ?_
                                          exact ih88 (xc + 1) xv (c + 1) mi_144 (by omega) ((tI_add hxc (show (1 : Int32).toInt = 1 from rfl) (by omega)).trans (by omega)) (by omega) (Or.inl ⟨hxs6.elim (fun q => q.1) (fun q => absurd (by rw [q.1]; rfl) c_105), hxs6.elim (fun q => q.2) (fun q => absurd (by rw [q.1]; rfl) c_105)⟩) (by first | exact hl_144.elim (fun q => by rw [← q.2]; exact la_c0 hLd (fun z => q.1 z.2)) (fun q => la_c1 hLd (by first | exact Or.inl (by omega) | exact Or.inr ⟨by omega, by omega, c_133⟩) q.1 q.2.1 q.2.2.1 q.2.2.2.1 q.2.2.2.2.1 q.2.2.2.2.2) | exact la_c0 hLd (fun z => by exact z.1.elim (fun z => by omega) (fun z => by first | omega | exact c_133 z.2.2)))
                            · skip
                              refine E_iload_n 2 dX6_listAll_95 rfl rfl ?_
                              refine E_goto 100 dX6_listAll_96 (by decide) ?_
                              refine Z_ge (c : Int) (n : Int) hxc hn 153 dX6_listAll_100 (by decide) (fun c_100 => ?_) (fun c_100 => ?_)
                              · skip
                                refine E_iinc 5 (xb + 1) [(5, .int (xb + 1)), (0, .ref 61), (1, .int xs), (2, .int (mi 62 5)), (3, .int xk), (4, .int xa), (6, .int xv), (7, .int xc)] dX6_listAll_153 rfl rfl (by decide) rfl ?_
                                refine E_goto 47 dX6_listAll_156 (by decide) ?_
                                refine E_sub [1, 2, 3, 4, 5, 0] rfl ?_
                                exact ih47 (xb + 1) (b + 1) md (by omega) ((tI_add hxb (show (1 : Int32).toInt = 1 from rfl) (by omega)).trans (by omega)) (by omega) (by omega) (la_b hxs6 hLd (by first | exact Or.inl c_105 | exact Or.inr (by omega)))
                              · skip
                                refine E_iload 6 dX6_listAll_103 rfl ?_
                                refine Y_eq xv.toInt rfl 153 dX6_listAll_105 (by decide) (fun c_105 => ?_) (fun c_105 => ?_)
                                · skip
                                  refine E_iinc 5 (xb + 1) [(5, .int (xb + 1)), (0, .ref 61), (1, .int xs), (2, .int (mi 62 5)), (3, .int xk), (4, .int xa), (6, .int xv), (7, .int xc)] dX6_listAll_153 rfl rfl (by decide) rfl ?_
                                  refine E_goto 47 dX6_listAll_156 (by decide) ?_
                                  refine E_sub [1, 2, 3, 4, 5, 0] rfl ?_
                                  exact ih47 (xb + 1) (b + 1) md (by omega) ((tI_add hxb (show (1 : Int32).toInt = 1 from rfl) (by omega)).trans (by omega)) (by omega) (by omega) (la_b hxs6 hLd (by first | exact Or.inl c_105 | exact Or.inr (by omega)))
                                · skip
                                  refine E_iload_n 3 dX6_listAll_108 rfl rfl ?_
                                  refine E_iconst 1 (by decide) dX6_listAll_109 ?_
                                  refine Z_ne (kd : Int) 1 hxk (show (1 : Int32).toInt = 1 from rfl) 136 dX6_listAll_110 (by decide) (fun c_110 => ?_) (fun c_110 => ?_)
                                  · skip
                                    refine E_aload_n 0 dX6_listAll_136 rfl rfl ?_
                                    refine E_iload_n 3 dX6_listAll_137 rfl rfl ?_
                                    refine E_iload 4 dX6_listAll_138 rfl ?_
                                    refine E_iload 5 dX6_listAll_140 rfl ?_
                                    refine E_iload 7 dX6_listAll_142 rfl ?_
                                    have hvB9 : vB s kd a b := hxs6.elim (fun q => q.2) (fun q => absurd (by rw [q.1]; rfl) c_105)
                                    have b1 := hvB9.1
                                    have b2 := hvB9.2.1
                                    refine E_callV (c_X6_lists l hfl md ml (mi 62 0).toInt.toNat (mi 62 1).toInt (mi 62 2).toInt (fun k => (mi 62 (6 + 2 * k)).toInt) (fun k => (mi 62 (7 + 2 * k)).toInt) n hset9 hrow9 (by omega) xk xa xb xc kd a b c (hxk.trans (by omega)) (hxa.trans (by omega)) (hxb.trans (by omega)) (hxc.trans (by omega)) (by omega) (by omega) (by omega) (by omega) (((stK (DV (mi 62)) s n kd ++ stA (DV (mi 62)) s n kd a ++ stB (DV (mi 62)) s n kd a b ++ stC (DV (mi 62)) s kd a b c)).length) hLd.2.2.1 (by simp only [List.length_append]; exact st_room h10 (by omega) (by omega) (by omega) (by omega) (by omega) (by omega))) cw_X6_101 (As := [.int xk, .int xa, .int xb, .int xc]) (st := []) wi_yX6_lists we_yX6_lists (ci := 6) (q := (RX6, TX6, 23)) rfl rfl (wl_atO tw_61) rfl ⟨Nat.le_of_ble_eq_true rfl, Nat.le_of_ble_eq_true rfl, Nat.le_of_ble_eq_true rfl, Nat.le_of_ble_eq_true rfl⟩ (Nat.le_of_ble_eq_true rfl) dX6_listAll_144 (fun _ _ h => h) rfl (kV (fun mi_144 ml_144 h_144 => ?_))
                                    obtain ⟨rfl, hl_144⟩ := h_144
                                    refine E_iinc 7 (xc + 1) [(7, .int (xc + 1)), (0, .ref 61), (1, .int xs), (2, .int (mi 62 5)), (3, .int xk), (4, .int xa), (5, .int xb), (6, .int xv)] dX6_listAll_147 rfl rfl (by decide) rfl ?_
                                    refine E_goto 88 dX6_listAll_150 (by decide) ?_
                                    refine E_sub [1, 2, 3, 4, 5, 6, 7, 0] rfl ?_
                                    exact ih88 (xc + 1) xv (c + 1) mi_144 (by omega) ((tI_add hxc (show (1 : Int32).toInt = 1 from rfl) (by omega)).trans (by omega)) (by omega) (Or.inl ⟨hxs6.elim (fun q => q.1) (fun q => absurd (by rw [q.1]; rfl) c_105), hxs6.elim (fun q => q.2) (fun q => absurd (by rw [q.1]; rfl) c_105)⟩) (by first | exact hl_144.elim (fun q => by rw [← q.2]; exact la_c0 hLd (fun z => q.1 z.2)) (fun q => la_c1 hLd (by first | exact Or.inl (by omega) | exact Or.inr ⟨by omega, by omega, c_133⟩) q.1 q.2.1 q.2.2.1 q.2.2.2.1 q.2.2.2.2.1 q.2.2.2.2.2) | exact la_c0 hLd (fun z => by exact z.1.elim (fun z => by omega) (fun z => by first | omega | exact c_133 z.2.2)))
                                  · skip
                                    refine E_iload 7 dX6_listAll_113 rfl ?_
                                    refine E_iload 4 dX6_listAll_115 rfl ?_
                                    refine Z_eq (c : Int) (a : Int) hxc hxa 147 dX6_listAll_117 (by decide) (fun c_117 => ?_) (fun c_117 => ?_)
                                    · skip
                                      refine E_iinc 7 (xc + 1) [(7, .int (xc + 1)), (0, .ref 61), (1, .int xs), (2, .int (mi 62 5)), (3, .int xk), (4, .int xa), (5, .int xb), (6, .int xv)] dX6_listAll_147 rfl rfl (by decide) rfl ?_
                                      refine E_goto 88 dX6_listAll_150 (by decide) ?_
                                      refine E_sub [1, 2, 3, 4, 5, 6, 7, 0] rfl ?_
                                      exact ih88 (xc + 1) xv (c + 1) md (by omega) ((tI_add hxc (show (1 : Int32).toInt = 1 from rfl) (by omega)).trans (by omega)) (by omega) (Or.inl ⟨hxs6.elim (fun q => q.1) (fun q => absurd (by rw [q.1]; rfl) c_105), hxs6.elim (fun q => q.2) (fun q => absurd (by rw [q.1]; rfl) c_105)⟩) (by first | exact hl_144.elim (fun q => by rw [← q.2]; exact la_c0 hLd (fun z => q.1 z.2)) (fun q => la_c1 hLd (by first | exact Or.inl (by omega) | exact Or.inr ⟨by omega, by omega, c_133⟩) q.1 q.2.1 q.2.2.1 q.2.2.2.1 q.2.2.2.2.1 q.2.2.2.2.2) | exact la_c0 hLd (fun z => by exact z.1.elim (fun z => by omega) (fun z => by first | omega | exact c_133 z.2.2)))
                                    · skip
                                      refine E_iload 7 dX6_listAll_120 rfl ?_
                                      refine E_iload 5 dX6_listAll_122 rfl ?_
                                      refine Z_eq (c : Int) (b : Int) hxc hxb 147 dX6_listAll_124 (by decide) (fun c_124 => ?_) (fun c_124 => ?_)
                                      · skip
                                        refine E_iinc 7 (xc + 1) [(7, .int (xc + 1)), (0, .ref 61), (1, .int xs), (2, .int (mi 62 5)), (3, .int xk), (4, .int xa), (5, .int xb), (6, .int xv)] dX6_listAll_147 rfl rfl (by decide) rfl ?_
                                        refine E_goto 88 dX6_listAll_150 (by decide) ?_
                                        refine E_sub [1, 2, 3, 4, 5, 6, 7, 0] rfl ?_
                                        exact ih88 (xc + 1) xv (c + 1) md (by omega) ((tI_add hxc (show (1 : Int32).toInt = 1 from rfl) (by omega)).trans (by omega)) (by omega) (Or.inl ⟨hxs6.elim (fun q => q.1) (fun q => absurd (by rw [q.1]; rfl) c_105), hxs6.elim (fun q => q.2) (fun q => absurd (by rw [q.1]; rfl) c_105)⟩) (by first | exact hl_144.elim (fun q => by rw [← q.2]; exact la_c0 hLd (fun z => q.1 z.2)) (fun q => la_c1 hLd (by first | exact Or.inl (by omega) | exact Or.inr ⟨by omega, by omega, c_133⟩) q.1 q.2.1 q.2.2.1 q.2.2.2.1 q.2.2.2.2.1 q.2.2.2.2.2) | exact la_c0 hLd (fun z => by exact z.1.elim (fun z => by omega) (fun z => by first | omega | exact c_133 z.2.2)))
                                      · skip
                                        refine E_iload_n 1 dX6_listAll_127 rfl rfl ?_
                                        refine E_iload 7 dX6_listAll_128 rfl ?_
                                        refine E_callS (c_X6_has l hfl md ml xs xc s c (hxs.trans (by omega)) (hxc.trans (by omega)) (by omega) (by omega)) cw_X6_85 (As := [.int xs, .int xc]) (st := []) ws_yX6_has rfl ⟨Nat.le_of_ble_eq_true rfl, Nat.le_of_ble_eq_true rfl, Nat.le_of_ble_eq_true rfl, Nat.le_of_ble_eq_true rfl⟩ (Nat.le_of_ble_eq_true rfl) dX6_listAll_130 (fun _ _ h => h) rfl (kE ?_)
                                        refine B_eq 147 dX6_listAll_133 (by decide) (fun c_133 => ?_) (fun c_133 => ?_)
                                        · skip
                                          refine E_iinc 7 (xc + 1) [(7, .int (xc + 1)), (0, .ref 61), (1, .int xs), (2, .int (mi 62 5)), (3, .int xk), (4, .int xa), (5, .int xb), (6, .int xv)] dX6_listAll_147 rfl rfl (by decide) rfl ?_
                                          refine E_goto 88 dX6_listAll_150 (by decide) ?_
                                          refine E_sub [1, 2, 3, 4, 5, 6, 7, 0] rfl ?_
                                          exact ih88 (xc + 1) xv (c + 1) md (by omega) ((tI_add hxc (show (1 : Int32).toInt = 1 from rfl) (by omega)).trans (by omega)) (by omega) (Or.inl ⟨hxs6.elim (fun q => q.1) (fun q => absurd (by rw [q.1]; rfl) c_105), hxs6.elim (fun q => q.2) (fun q => absurd (by rw [q.1]; rfl) c_105)⟩) (by first | exact hl_144.elim (fun q => by rw [← q.2]; exact la_c0 hLd (fun z => q.1 z.2)) (fun q => la_c1 hLd (by first | exact Or.inl (by omega) | exact Or.inr ⟨by omega, by omega, c_133⟩) q.1 q.2.1 q.2.2.1 q.2.2.2.1 q.2.2.2.2.1 q.2.2.2.2.2) | exact la_c0 hLd (fun z => by exact z.1.elim (fun z => by omega) (fun z => by first | omega | exact c_133 z.2.2)))
                                        · skip
                                          refine E_aload_n 0 dX6_listAll_136 rfl rfl ?_
                                          refine E_iload_n 3 dX6_listAll_137 rfl rfl ?_
                                          refine E_iload 4 dX6_listAll_138 rfl ?_
                                          refine E_iload 5 dX6_listAll_140 rfl ?_
                                          refine E_iload 7 dX6_listAll_142 rfl ?_
                                          have hvB9 : vB s kd a b := hxs6.elim (fun q => q.2) (fun q => absurd (by rw [q.1]; rfl) c_105)
                                          have b1 := hvB9.1
                                          have b2 := hvB9.2.1
                                          refine E_callV (c_X6_lists l hfl md ml (mi 62 0).toInt.toNat (mi 62 1).toInt (mi 62 2).toInt (fun k => (mi 62 (6 + 2 * k)).toInt) (fun k => (mi 62 (7 + 2 * k)).toInt) n hset9 hrow9 (by omega) xk xa xb xc kd a b c (hxk.trans (by omega)) (hxa.trans (by omega)) (hxb.trans (by omega)) (hxc.trans (by omega)) (by omega) (by omega) (by omega) (by omega) (((stK (DV (mi 62)) s n kd ++ stA (DV (mi 62)) s n kd a ++ stB (DV (mi 62)) s n kd a b ++ stC (DV (mi 62)) s kd a b c)).length) hLd.2.2.1 (by simp only [List.length_append]; exact st_room h10 (by omega) (by omega) (by omega) (by omega) (by omega) (by omega))) cw_X6_101 (As := [.int xk, .int xa, .int xb, .int xc]) (st := []) wi_yX6_lists we_yX6_lists (ci := 6) (q := (RX6, TX6, 23)) rfl rfl (wl_atO tw_61) rfl ⟨Nat.le_of_ble_eq_true rfl, Nat.le_of_ble_eq_true rfl, Nat.le_of_ble_eq_true rfl, Nat.le_of_ble_eq_true rfl⟩ (Nat.le_of_ble_eq_true rfl) dX6_listAll_144 (fun _ _ h => h) rfl (kV (fun mi_144 ml_144 h_144 => ?_))
                                          obtain ⟨rfl, hl_144⟩ := h_144
                                          refine E_iinc 7 (xc + 1) [(7, .int (xc + 1)), (0, .ref 61), (1, .int xs), (2, .int (mi 62 5)), (3, .int xk), (4, .int xa), (5, .int xb), (6, .int xv)] dX6_listAll_147 rfl rfl (by decide) rfl ?_
                                          refine E_goto 88 dX6_listAll_150 (by decide) ?_
                                          refine E_sub [1, 2, 3, 4, 5, 6, 7, 0] rfl ?_
                                          exact ih88 (xc + 1) xv (c + 1) mi_144 (by omega) ((tI_add hxc (show (1 : Int32).toInt = 1 from rfl) (by omega)).trans (by omega)) (by omega) (Or.inl ⟨hxs6.elim (fun q => q.1) (fun q => absurd (by rw [q.1]; rfl) c_105), hxs6.elim (fun q => q.2) (fun q => absurd (by rw [q.1]; rfl) c_105)⟩) (by first | exact hl_144.elim (fun q => by rw [← q.2]; exact la_c0 hLd (fun z => q.1 z.2)) (fun q => la_c1 hLd (by first | exact Or.inl (by omega) | exact Or.inr ⟨by omega, by omega, c_133⟩) q.1 q.2.1 q.2.2.1 q.2.2.2.1 q.2.2.2.2.1 q.2.2.2.2.2) | exact la_c0 hLd (fun z => by exact z.1.elim (fun z => by omega) (fun z => by first | omega | exact c_133 z.2.2)))
                        refine E_sub [2, 3, 4, 5, 6, 7, 1, 0] rfl ?_
                        exact J88 _ 0 0 0 mc (Nat.lt_succ_self _) (show (0 : Int32).toInt = 0 from rfl) (by omega) (by first | exact Or.inl ⟨rfl, vB_t hkab c_57 c_66 c_75⟩ | exact Or.inr ⟨rfl, fun q => c_66 q.2.2.1, rfl⟩ | exact Or.inr ⟨rfl, fun q => c_75 q.2.2.2, rfl⟩ | exact Or.inr ⟨rfl, fun q => q.2.1 (by omega), rfl⟩) (by rw [show stC (DV (mi 62)) s kd a b 0 = [] from rfl, List.append_nil]; exact hLc)
                      · skip
                        refine E_iload_n 1 dX6_listAll_60 rfl rfl ?_
                        refine E_iload 4 dX6_listAll_61 rfl ?_
                        refine E_callS (c_X6_has l hfl mc ml xs xa s a (hxs.trans (by omega)) (hxa.trans (by omega)) (by omega) (by omega)) cw_X6_85 (As := [.int xs, .int xa]) (st := []) ws_yX6_has rfl ⟨Nat.le_of_ble_eq_true rfl, Nat.le_of_ble_eq_true rfl, Nat.le_of_ble_eq_true rfl, Nat.le_of_ble_eq_true rfl⟩ (Nat.le_of_ble_eq_true rfl) dX6_listAll_63 (fun _ _ h => h) rfl (kE ?_)
                        refine B_eq 82 dX6_listAll_66 (by decide) (fun c_66 => ?_) (fun c_66 => ?_)
                        · skip
                          refine E_iconst 0 (by decide) dX6_listAll_82 ?_
                          refine E_istore [(6, .int 0), (0, .ref 61), (1, .int xs), (2, .int (mi 62 5)), (3, .int xk), (4, .int xa), (5, .int xb)] dX6_listAll_83 (by decide) rfl ?_
                          refine E_iconst 0 (by decide) dX6_listAll_85 ?_
                          refine E_istore [(7, .int 0), (6, .int 0), (0, .ref 61), (1, .int xs), (2, .int (mi 62 5)), (3, .int xk), (4, .int xa), (5, .int xb)] dX6_listAll_86 (by decide) rfl ?_
                          have J88 : ∀ (N : Nat) (xc xv : Int32) (c : Nat) (md : MI), n + 1 - c < N → xc.toInt = (c : Int) → c ≤ nCs n kd → ((xv = 1 ∧ vB s kd a b) ∨ (xv = 0 ∧ ¬ vB s kd a b ∧ c = 0)) → LsP (DV (mi 62)) mi_1 md (stK (DV (mi 62)) s n kd ++ stA (DV (mi 62)) s n kd a ++ stB (DV (mi 62)) s n kd a b ++ stC (DV (mi 62)) s kd a b c) → E l RX6 cX6_listAll 8 none false [] (rmE 4 0 0) (wl mi ml) (TgM (wl mi ml) 0 0 (QV (fun mi9 ml9 => ml = ml9 ∧ Fr [61, 65, 66, 67] mi mi9 ∧ (∀ k, k ≠ 9 → mi9 61 k = mi 61 k) ∧ (mi9 61 9).toInt = ((stK (DV (mi 62)) s n 3).length : Int) ∧ encd (DV (mi 62)) (mi9 67) (stK (DV (mi 62)) s n 3))) noX) 0 0 88 [(0, .ref 61), (1, .int xs), (2, .int (mi 62 5)), (3, .int xk), (4, .int xa), (5, .int xb), (6, .int xv), (7, .int xc)] [] (wl md ml) := by
                            intro N
                            induction N with
                            | zero => intros; omega
                            | succ N ih88 =>
                              intro xc xv c md hN88 hxc hc hxs6 hLd
                              have hbnd : (kd = 1 ∧ nCs n kd = n) ∨ (kd ≠ 1 ∧ nCs n kd = 1) := by unfold nCs; split <;> omega
                              have hset9 : SetM md (DV (mi 62)) := (SetM_of hwf).c ((hLd.1 62 (by decide)).trans (hFr_1 62 (by decide)))
                              have hrow9 := hrow1.c (hLd.1 65 (by decide)) (hLd.1 66 (by decide))
                              refine E_iload 7 dX6_listAll_88 rfl ?_
                              refine E_iload_n 3 dX6_listAll_90 rfl rfl ?_
                              refine E_iconst 1 (by decide) dX6_listAll_91 ?_
                              refine Z_ne (kd : Int) 1 hxk (show (1 : Int32).toInt = 1 from rfl) 99 dX6_listAll_92 (by decide) (fun c_92 => ?_) (fun c_92 => ?_)
                              · skip
                                refine E_iconst 1 (by decide) dX6_listAll_99 ?_
                                refine Z_ge (c : Int) 1 hxc (show (1 : Int32).toInt = 1 from rfl) 153 dX6_listAll_100 (by decide) (fun c_100 => ?_) (fun c_100 => ?_)
                                · skip
                                  refine E_iinc 5 (xb + 1) [(5, .int (xb + 1)), (0, .ref 61), (1, .int xs), (2, .int (mi 62 5)), (3, .int xk), (4, .int xa), (6, .int xv), (7, .int xc)] dX6_listAll_153 rfl rfl (by decide) rfl ?_
                                  refine E_goto 47 dX6_listAll_156 (by decide) ?_
                                  refine E_sub [1, 2, 3, 4, 5, 0] rfl ?_
                                  exact ih47 (xb + 1) (b + 1) md (by omega) ((tI_add hxb (show (1 : Int32).toInt = 1 from rfl) (by omega)).trans (by omega)) (by omega) (by omega) (la_b hxs6 hLd (by first | exact Or.inl c_105 | exact Or.inr (by omega)))
                                · skip
                                  refine E_iload 6 dX6_listAll_103 rfl ?_
                                  refine Y_eq xv.toInt rfl 153 dX6_listAll_105 (by decide) (fun c_105 => ?_) (fun c_105 => ?_)
                                  · skip
                                    refine E_iinc 5 (xb + 1) [(5, .int (xb + 1)), (0, .ref 61), (1, .int xs), (2, .int (mi 62 5)), (3, .int xk), (4, .int xa), (6, .int xv), (7, .int xc)] dX6_listAll_153 rfl rfl (by decide) rfl ?_
                                    refine E_goto 47 dX6_listAll_156 (by decide) ?_
                                    refine E_sub [1, 2, 3, 4, 5, 0] rfl ?_
                                    exact ih47 (xb + 1) (b + 1) md (by omega) ((tI_add hxb (show (1 : Int32).toInt = 1 from rfl) (by omega)).trans (by omega)) (by omega) (by omega) (la_b hxs6 hLd (by first | exact Or.inl c_105 | exact Or.inr (by omega)))
                                  · skip
                                    refine E_iload_n 3 dX6_listAll_108 rfl rfl ?_
                                    refine E_iconst 1 (by decide) dX6_listAll_109 ?_
                                    refine Z_ne (kd : Int) 1 hxk (show (1 : Int32).toInt = 1 from rfl) 136 dX6_listAll_110 (by decide) (fun c_110 => ?_) (fun c_110 => ?_)
                                    · skip
                                      refine E_aload_n 0 dX6_listAll_136 rfl rfl ?_
                                      refine E_iload_n 3 dX6_listAll_137 rfl rfl ?_
                                      refine E_iload 4 dX6_listAll_138 rfl ?_
                                      refine E_iload 5 dX6_listAll_140 rfl ?_
                                      refine E_iload 7 dX6_listAll_142 rfl ?_
                                      have hvB9 : vB s kd a b := hxs6.elim (fun q => q.2) (fun q => absurd (by rw [q.1]; rfl) c_105)
                                      have b1 := hvB9.1
                                      have b2 := hvB9.2.1
                                      refine E_callV (c_X6_lists l hfl md ml (mi 62 0).toInt.toNat (mi 62 1).toInt (mi 62 2).toInt (fun k => (mi 62 (6 + 2 * k)).toInt) (fun k => (mi 62 (7 + 2 * k)).toInt) n hset9 hrow9 (by omega) xk xa xb xc kd a b c (hxk.trans (by omega)) (hxa.trans (by omega)) (hxb.trans (by omega)) (hxc.trans (by omega)) (by omega) (by omega) (by omega) (by omega) (((stK (DV (mi 62)) s n kd ++ stA (DV (mi 62)) s n kd a ++ stB (DV (mi 62)) s n kd a b ++ stC (DV (mi 62)) s kd a b c)).length) hLd.2.2.1 (by simp only [List.length_append]; exact st_room h10 (by omega) (by omega) (by omega) (by omega) (by omega) (by omega))) cw_X6_101 (As := [.int xk, .int xa, .int xb, .int xc]) (st := []) wi_yX6_lists we_yX6_lists (ci := 6) (q := (RX6, TX6, 23)) rfl rfl (wl_atO tw_61) rfl ⟨Nat.le_of_ble_eq_true rfl, Nat.le_of_ble_eq_true rfl, Nat.le_of_ble_eq_true rfl, Nat.le_of_ble_eq_true rfl⟩ (Nat.le_of_ble_eq_true rfl) dX6_listAll_144 (fun _ _ h => h) rfl (kV (fun mi_144 ml_144 h_144 => ?_))
                                      obtain ⟨rfl, hl_144⟩ := h_144
                                      refine E_iinc 7 (xc + 1) [(7, .int (xc + 1)), (0, .ref 61), (1, .int xs), (2, .int (mi 62 5)), (3, .int xk), (4, .int xa), (5, .int xb), (6, .int xv)] dX6_listAll_147 rfl rfl (by decide) rfl ?_
                                      refine E_goto 88 dX6_listAll_150 (by decide) ?_
                                      refine E_sub [1, 2, 3, 4, 5, 6, 7, 0] rfl ?_
                                      exact ih88 (xc + 1) xv (c + 1) mi_144 (by omega) ((tI_add hxc (show (1 : Int32).toInt = 1 from rfl) (by omega)).trans (by omega)) (by omega) (Or.inl ⟨hxs6.elim (fun q => q.1) (fun q => absurd (by rw [q.1]; rfl) c_105), hxs6.elim (fun q => q.2) (fun q => absurd (by rw [q.1]; rfl) c_105)⟩) (by first | exact hl_144.elim (fun q => by rw [← q.2]; exact la_c0 hLd (fun z => q.1 z.2)) (fun q => la_c1 hLd (by first | exact Or.inl (by omega) | exact Or.inr ⟨by omega, by omega, c_133⟩) q.1 q.2.1 q.2.2.1 q.2.2.2.1 q.2.2.2.2.1 q.2.2.2.2.2) | exact la_c0 hLd (fun z => by exact z.1.elim (fun z => by omega) (fun z => by first | omega | exact c_133 z.2.2)))
                                    · skip
                                      refine E_iload 7 dX6_listAll_113 rfl ?_
                                      refine E_iload 4 dX6_listAll_115 rfl ?_
                                      refine Z_eq (c : Int) (a : Int) hxc hxa 147 dX6_listAll_117 (by decide) (fun c_117 => ?_) (fun c_117 => ?_)
                                      · skip
                                        refine E_iinc 7 (xc + 1) [(7, .int (xc + 1)), (0, .ref 61), (1, .int xs), (2, .int (mi 62 5)), (3, .int xk), (4, .int xa), (5, .int xb), (6, .int xv)] dX6_listAll_147 rfl rfl (by decide) rfl ?_
                                        refine E_goto 88 dX6_listAll_150 (by decide) ?_
                                        refine E_sub [1, 2, 3, 4, 5, 6, 7, 0] rfl ?_
                                        exact ih88 (xc + 1) xv (c + 1) md (by omega) ((tI_add hxc (show (1 : Int32).toInt = 1 from rfl) (by omega)).trans (by omega)) (by omega) (Or.inl ⟨hxs6.elim (fun q => q.1) (fun q => absurd (by rw [q.1]; rfl) c_105), hxs6.elim (fun q => q.2) (fun q => absurd (by rw [q.1]; rfl) c_105)⟩) (by first | exact hl_144.elim (fun q => by rw [← q.2]; exact la_c0 hLd (fun z => q.1 z.2)) (fun q => la_c1 hLd (by first | exact Or.inl (by omega) | exact Or.inr ⟨by omega, by omega, c_133⟩) q.1 q.2.1 q.2.2.1 q.2.2.2.1 q.2.2.2.2.1 q.2.2.2.2.2) | exact la_c0 hLd (fun z => by exact z.1.elim (fun z => by omega) (fun z => by first | omega | exact c_133 z.2.2)))
                                      · skip
                                        refine E_iload 7 dX6_listAll_120 rfl ?_
                                        refine E_iload 5 dX6_listAll_122 rfl ?_
                                        refine Z_eq (c : Int) (b : Int) hxc hxb 147 dX6_listAll_124 (by decide) (fun c_124 => ?_) (fun c_124 => ?_)
                                        · skip
                                          refine E_iinc 7 (xc + 1) [(7, .int (xc + 1)), (0, .ref 61), (1, .int xs), (2, .int (mi 62 5)), (3, .int xk), (4, .int xa), (5, .int xb), (6, .int xv)] dX6_listAll_147 rfl rfl (by decide) rfl ?_
                                          refine E_goto 88 dX6_listAll_150 (by decide) ?_
                                          refine E_sub [1, 2, 3, 4, 5, 6, 7, 0] rfl ?_
                                          exact ih88 (xc + 1) xv (c + 1) md (by omega) ((tI_add hxc (show (1 : Int32).toInt = 1 from rfl) (by omega)).trans (by omega)) (by omega) (Or.inl ⟨hxs6.elim (fun q => q.1) (fun q => absurd (by rw [q.1]; rfl) c_105), hxs6.elim (fun q => q.2) (fun q => absurd (by rw [q.1]; rfl) c_105)⟩) (by first | exact hl_144.elim (fun q => by rw [← q.2]; exact la_c0 hLd (fun z => q.1 z.2)) (fun q => la_c1 hLd (by first | exact Or.inl (by omega) | exact Or.inr ⟨by omega, by omega, c_133⟩) q.1 q.2.1 q.2.2.1 q.2.2.2.1 q.2.2.2.2.1 q.2.2.2.2.2) | exact la_c0 hLd (fun z => by exact z.1.elim (fun z => by omega) (fun z => by first | omega | exact c_133 z.2.2)))
                                        · skip
                                          refine E_iload_n 1 dX6_listAll_127 rfl rfl ?_
                                          refine E_iload 7 dX6_listAll_128 rfl ?_
                                          refine E_callS (c_X6_has l hfl md ml xs xc s c (hxs.trans (by omega)) (hxc.trans (by omega)) (by omega) (by omega)) cw_X6_85 (As := [.int xs, .int xc]) (st := []) ws_yX6_has rfl ⟨Nat.le_of_ble_eq_true rfl, Nat.le_of_ble_eq_true rfl, Nat.le_of_ble_eq_true rfl, Nat.le_of_ble_eq_true rfl⟩ (Nat.le_of_ble_eq_true rfl) dX6_listAll_130 (fun _ _ h => h) rfl (kE ?_)
                                          refine B_eq 147 dX6_listAll_133 (by decide) (fun c_133 => ?_) (fun c_133 => ?_)
                                          · skip
                                            refine E_iinc 7 (xc + 1) [(7, .int (xc + 1)), (0, .ref 61), (1, .int xs), (2, .int (mi 62 5)), (3, .int xk), (4, .int xa), (5, .int xb), (6, .int xv)] dX6_listAll_147 rfl rfl (by decide) rfl ?_
                                            refine E_goto 88 dX6_listAll_150 (by decide) ?_
                                            refine E_sub [1, 2, 3, 4, 5, 6, 7, 0] rfl ?_
                                            exact ih88 (xc + 1) xv (c + 1) md (by omega) ((tI_add hxc (show (1 : Int32).toInt = 1 from rfl) (by omega)).trans (by omega)) (by omega) (Or.inl ⟨hxs6.elim (fun q => q.1) (fun q => absurd (by rw [q.1]; rfl) c_105), hxs6.elim (fun q => q.2) (fun q => absurd (by rw [q.1]; rfl) c_105)⟩) (by first | exact hl_144.elim (fun q => by rw [← q.2]; exact la_c0 hLd (fun z => q.1 z.2)) (fun q => la_c1 hLd (by first | exact Or.inl (by omega) | exact Or.inr ⟨by omega, by omega, c_133⟩) q.1 q.2.1 q.2.2.1 q.2.2.2.1 q.2.2.2.2.1 q.2.2.2.2.2) | exact la_c0 hLd (fun z => by exact z.1.elim (fun z => by omega) (fun z => by first | omega | exact c_133 z.2.2)))
                                          · skip
                                            refine E_aload_n 0 dX6_listAll_136 rfl rfl ?_
                                            refine E_iload_n 3 dX6_listAll_137 rfl rfl ?_
                                            refine E_iload 4 dX6_listAll_138 rfl ?_
                                            refine E_iload 5 dX6_listAll_140 rfl ?_
                                            refine E_iload 7 dX6_listAll_142 rfl ?_
                                            have hvB9 : vB s kd a b := hxs6.elim (fun q => q.2) (fun q => absurd (by rw [q.1]; rfl) c_105)
                                            have b1 := hvB9.1
                                            have b2 := hvB9.2.1
                                            refine E_callV (c_X6_lists l hfl md ml (mi 62 0).toInt.toNat (mi 62 1).toInt (mi 62 2).toInt (fun k => (mi 62 (6 + 2 * k)).toInt) (fun k => (mi 62 (7 + 2 * k)).toInt) n hset9 hrow9 (by omega) xk xa xb xc kd a b c (hxk.trans (by omega)) (hxa.trans (by omega)) (hxb.trans (by omega)) (hxc.trans (by omega)) (by omega) (by omega) (by omega) (by omega) (((stK (DV (mi 62)) s n kd ++ stA (DV (mi 62)) s n kd a ++ stB (DV (mi 62)) s n kd a b ++ stC (DV (mi 62)) s kd a b c)).length) hLd.2.2.1 (by simp only [List.length_append]; exact st_room h10 (by omega) (by omega) (by omega) (by omega) (by omega) (by omega))) cw_X6_101 (As := [.int xk, .int xa, .int xb, .int xc]) (st := []) wi_yX6_lists we_yX6_lists (ci := 6) (q := (RX6, TX6, 23)) rfl rfl (wl_atO tw_61) rfl ⟨Nat.le_of_ble_eq_true rfl, Nat.le_of_ble_eq_true rfl, Nat.le_of_ble_eq_true rfl, Nat.le_of_ble_eq_true rfl⟩ (Nat.le_of_ble_eq_true rfl) dX6_listAll_144 (fun _ _ h => h) rfl (kV (fun mi_144 ml_144 h_144 => ?_))
                                            obtain ⟨rfl, hl_144⟩ := h_144
                                            refine E_iinc 7 (xc + 1) [(7, .int (xc + 1)), (0, .ref 61), (1, .int xs), (2, .int (mi 62 5)), (3, .int xk), (4, .int xa), (5, .int xb), (6, .int xv)] dX6_listAll_147 rfl rfl (by decide) rfl ?_
                                            refine E_goto 88 dX6_listAll_150 (by decide) ?_
                                            refine E_sub [1, 2, 3, 4, 5, 6, 7, 0] rfl ?_
                                            exact ih88 (xc + 1) xv (c + 1) mi_144 (by omega) ((tI_add hxc (show (1 : Int32).toInt = 1 from rfl) (by omega)).trans (by omega)) (by omega) (Or.inl ⟨hxs6.elim (fun q => q.1) (fun q => absurd (by rw [q.1]; rfl) c_105), hxs6.elim (fun q => q.2) (fun q => absurd (by rw [q.1]; rfl) c_105)⟩) (by first | exact hl_144.elim (fun q => by rw [← q.2]; exact la_c0 hLd (fun z => q.1 z.2)) (fun q => la_c1 hLd (by first | exact Or.inl (by omega) | exact Or.inr ⟨by omega, by omega, c_133⟩) q.1 q.2.1 q.2.2.1 q.2.2.2.1 q.2.2.2.2.1 q.2.2.2.2.2) | exact la_c0 hLd (fun z => by exact z.1.elim (fun z => by omega) (fun z => by first | omega | exact c_133 z.2.2)))
                              · skip
                                refine E_iload_n 2 dX6_listAll_95 rfl rfl ?_
                                refine E_goto 100 dX6_listAll_96 (by decide) ?_
                                refine Z_ge (c : Int) (n : Int) hxc hn 153 dX6_listAll_100 (by decide) (fun c_100 => ?_) (fun c_100 => ?_)
                                · skip
                                  refine E_iinc 5 (xb + 1) [(5, .int (xb + 1)), (0, .ref 61), (1, .int xs), (2, .int (mi 62 5)), (3, .int xk), (4, .int xa), (6, .int xv), (7, .int xc)] dX6_listAll_153 rfl rfl (by decide) rfl ?_
                                  refine E_goto 47 dX6_listAll_156 (by decide) ?_
                                  refine E_sub [1, 2, 3, 4, 5, 0] rfl ?_
                                  exact ih47 (xb + 1) (b + 1) md (by omega) ((tI_add hxb (show (1 : Int32).toInt = 1 from rfl) (by omega)).trans (by omega)) (by omega) (by omega) (la_b hxs6 hLd (by first | exact Or.inl c_105 | exact Or.inr (by omega)))
                                · skip
                                  refine E_iload 6 dX6_listAll_103 rfl ?_
                                  refine Y_eq xv.toInt rfl 153 dX6_listAll_105 (by decide) (fun c_105 => ?_) (fun c_105 => ?_)
                                  · skip
                                    refine E_iinc 5 (xb + 1) [(5, .int (xb + 1)), (0, .ref 61), (1, .int xs), (2, .int (mi 62 5)), (3, .int xk), (4, .int xa), (6, .int xv), (7, .int xc)] dX6_listAll_153 rfl rfl (by decide) rfl ?_
                                    refine E_goto 47 dX6_listAll_156 (by decide) ?_
                                    refine E_sub [1, 2, 3, 4, 5, 0] rfl ?_
                                    exact ih47 (xb + 1) (b + 1) md (by omega) ((tI_add hxb (show (1 : Int32).toInt = 1 from rfl) (by omega)).trans (by omega)) (by omega) (by omega) (la_b hxs6 hLd (by first | exact Or.inl c_105 | exact Or.inr (by omega)))
                                  · skip
                                    refine E_iload_n 3 dX6_listAll_108 rfl rfl ?_
                                    refine E_iconst 1 (by decide) dX6_listAll_109 ?_
                                    refine Z_ne (kd : Int) 1 hxk (show (1 : Int32).toInt = 1 from rfl) 136 dX6_listAll_110 (by decide) (fun c_110 => ?_) (fun c_110 => ?_)
                                    · skip
                                      refine E_aload_n 0 dX6_listAll_136 rfl rfl ?_
                                      refine E_iload_n 3 dX6_listAll_137 rfl rfl ?_
                                      refine E_iload 4 dX6_listAll_138 rfl ?_
                                      refine E_iload 5 dX6_listAll_140 rfl ?_
                                      refine E_iload 7 dX6_listAll_142 rfl ?_
                                      have hvB9 : vB s kd a b := hxs6.elim (fun q => q.2) (fun q => absurd (by rw [q.1]; rfl) c_105)
                                      have b1 := hvB9.1
                                      have b2 := hvB9.2.1
                                      refine E_callV (c_X6_lists l hfl md ml (mi 62 0).toInt.toNat (mi 62 1).toInt (mi 62 2).toInt (fun k => (mi 62 (6 + 2 * k)).toInt) (fun k => (mi 62 (7 + 2 * k)).toInt) n hset9 hrow9 (by omega) xk xa xb xc kd a b c (hxk.trans (by omega)) (hxa.trans (by omega)) (hxb.trans (by omega)) (hxc.trans (by omega)) (by omega) (by omega) (by omega) (by omega) (((stK (DV (mi 62)) s n kd ++ stA (DV (mi 62)) s n kd a ++ stB (DV (mi 62)) s n kd a b ++ stC (DV (mi 62)) s kd a b c)).length) hLd.2.2.1 (by simp only [List.length_append]; exact st_room h10 (by omega) (by omega) (by omega) (by omega) (by omega) (by omega))) cw_X6_101 (As := [.int xk, .int xa, .int xb, .int xc]) (st := []) wi_yX6_lists we_yX6_lists (ci := 6) (q := (RX6, TX6, 23)) rfl rfl (wl_atO tw_61) rfl ⟨Nat.le_of_ble_eq_true rfl, Nat.le_of_ble_eq_true rfl, Nat.le_of_ble_eq_true rfl, Nat.le_of_ble_eq_true rfl⟩ (Nat.le_of_ble_eq_true rfl) dX6_listAll_144 (fun _ _ h => h) rfl (kV (fun mi_144 ml_144 h_144 => ?_))
                                      obtain ⟨rfl, hl_144⟩ := h_144
                                      refine E_iinc 7 (xc + 1) [(7, .int (xc + 1)), (0, .ref 61), (1, .int xs), (2, .int (mi 62 5)), (3, .int xk), (4, .int xa), (5, .int xb), (6, .int xv)] dX6_listAll_147 rfl rfl (by decide) rfl ?_
                                      refine E_goto 88 dX6_listAll_150 (by decide) ?_
                                      refine E_sub [1, 2, 3, 4, 5, 6, 7, 0] rfl ?_
                                      exact ih88 (xc + 1) xv (c + 1) mi_144 (by omega) ((tI_add hxc (show (1 : Int32).toInt = 1 from rfl) (by omega)).trans (by omega)) (by omega) (Or.inl ⟨hxs6.elim (fun q => q.1) (fun q => absurd (by rw [q.1]; rfl) c_105), hxs6.elim (fun q => q.2) (fun q => absurd (by rw [q.1]; rfl) c_105)⟩) (by first | exact hl_144.elim (fun q => by rw [← q.2]; exact la_c0 hLd (fun z => q.1 z.2)) (fun q => la_c1 hLd (by first | exact Or.inl (by omega) | exact Or.inr ⟨by omega, by omega, c_133⟩) q.1 q.2.1 q.2.2.1 q.2.2.2.1 q.2.2.2.2.1 q.2.2.2.2.2) | exact la_c0 hLd (fun z => by exact z.1.elim (fun z => by omega) (fun z => by first | omega | exact c_133 z.2.2)))
                                    · skip
                                      refine E_iload 7 dX6_listAll_113 rfl ?_
                                      refine E_iload 4 dX6_listAll_115 rfl ?_
                                      refine Z_eq (c : Int) (a : Int) hxc hxa 147 dX6_listAll_117 (by decide) (fun c_117 => ?_) (fun c_117 => ?_)
                                      · skip
                                        refine E_iinc 7 (xc + 1) [(7, .int (xc + 1)), (0, .ref 61), (1, .int xs), (2, .int (mi 62 5)), (3, .int xk), (4, .int xa), (5, .int xb), (6, .int xv)] dX6_listAll_147 rfl rfl (by decide) rfl ?_
                                        refine E_goto 88 dX6_listAll_150 (by decide) ?_
                                        refine E_sub [1, 2, 3, 4, 5, 6, 7, 0] rfl ?_
                                        exact ih88 (xc + 1) xv (c + 1) md (by omega) ((tI_add hxc (show (1 : Int32).toInt = 1 from rfl) (by omega)).trans (by omega)) (by omega) (Or.inl ⟨hxs6.elim (fun q => q.1) (fun q => absurd (by rw [q.1]; rfl) c_105), hxs6.elim (fun q => q.2) (fun q => absurd (by rw [q.1]; rfl) c_105)⟩) (by first | exact hl_144.elim (fun q => by rw [← q.2]; exact la_c0 hLd (fun z => q.1 z.2)) (fun q => la_c1 hLd (by first | exact Or.inl (by omega) | exact Or.inr ⟨by omega, by omega, c_133⟩) q.1 q.2.1 q.2.2.1 q.2.2.2.1 q.2.2.2.2.1 q.2.2.2.2.2) | exact la_c0 hLd (fun z => by exact z.1.elim (fun z => by omega) (fun z => by first | omega | exact c_133 z.2.2)))
                                      · skip
                                        refine E_iload 7 dX6_listAll_120 rfl ?_
                                        refine E_iload 5 dX6_listAll_122 rfl ?_
                                        refine Z_eq (c : Int) (b : Int) hxc hxb 147 dX6_listAll_124 (by decide) (fun c_124 => ?_) (fun c_124 => ?_)
                                        · skip
                                          refine E_iinc 7 (xc + 1) [(7, .int (xc + 1)), (0, .ref 61), (1, .int xs), (2, .int (mi 62 5)), (3, .int xk), (4, .int xa), (5, .int xb), (6, .int xv)] dX6_listAll_147 rfl rfl (by decide) rfl ?_
                                          refine E_goto 88 dX6_listAll_150 (by decide) ?_
                                          refine E_sub [1, 2, 3, 4, 5, 6, 7, 0] rfl ?_
                                          exact ih88 (xc + 1) xv (c + 1) md (by omega) ((tI_add hxc (show (1 : Int32).toInt = 1 from rfl) (by omega)).trans (by omega)) (by omega) (Or.inl ⟨hxs6.elim (fun q => q.1) (fun q => absurd (by rw [q.1]; rfl) c_105), hxs6.elim (fun q => q.2) (fun q => absurd (by rw [q.1]; rfl) c_105)⟩) (by first | exact hl_144.elim (fun q => by rw [← q.2]; exact la_c0 hLd (fun z => q.1 z.2)) (fun q => la_c1 hLd (by first | exact Or.inl (by omega) | exact Or.inr ⟨by omega, by omega, c_133⟩) q.1 q.2.1 q.2.2.1 q.2.2.2.1 q.2.2.2.2.1 q.2.2.2.2.2) | exact la_c0 hLd (fun z => by exact z.1.elim (fun z => by omega) (fun z => by first | omega | exact c_133 z.2.2)))
                                        · skip
                                          refine E_iload_n 1 dX6_listAll_127 rfl rfl ?_
                                          refine E_iload 7 dX6_listAll_128 rfl ?_
                                          refine E_callS (c_X6_has l hfl md ml xs xc s c (hxs.trans (by omega)) (hxc.trans (by omega)) (by omega) (by omega)) cw_X6_85 (As := [.int xs, .int xc]) (st := []) ws_yX6_has rfl ⟨Nat.le_of_ble_eq_true rfl, Nat.le_of_ble_eq_true rfl, Nat.le_of_ble_eq_true rfl, Nat.le_of_ble_eq_true rfl⟩ (Nat.le_of_ble_eq_true rfl) dX6_listAll_130 (fun _ _ h => h) rfl (kE ?_)
                                          refine B_eq 147 dX6_listAll_133 (by decide) (fun c_133 => ?_) (fun c_133 => ?_)
                                          · skip
                                            refine E_iinc 7 (xc + 1) [(7, .int (xc + 1)), (0, .ref 61), (1, .int xs), (2, .int (mi 62 5)), (3, .int xk), (4, .int xa), (5, .int xb), (6, .int xv)] dX6_listAll_147 rfl rfl (by decide) rfl ?_
                                            refine E_goto 88 dX6_listAll_150 (by decide) ?_
                                            refine E_sub [1, 2, 3, 4, 5, 6, 7, 0] rfl ?_
                                            exact ih88 (xc + 1) xv (c + 1) md (by omega) ((tI_add hxc (show (1 : Int32).toInt = 1 from rfl) (by omega)).trans (by omega)) (by omega) (Or.inl ⟨hxs6.elim (fun q => q.1) (fun q => absurd (by rw [q.1]; rfl) c_105), hxs6.elim (fun q => q.2) (fun q => absurd (by rw [q.1]; rfl) c_105)⟩) (by first | exact hl_144.elim (fun q => by rw [← q.2]; exact la_c0 hLd (fun z => q.1 z.2)) (fun q => la_c1 hLd (by first | exact Or.inl (by omega) | exact Or.inr ⟨by omega, by omega, c_133⟩) q.1 q.2.1 q.2.2.1 q.2.2.2.1 q.2.2.2.2.1 q.2.2.2.2.2) | exact la_c0 hLd (fun z => by exact z.1.elim (fun z => by omega) (fun z => by first | omega | exact c_133 z.2.2)))
                                          · skip
                                            refine E_aload_n 0 dX6_listAll_136 rfl rfl ?_
                                            refine E_iload_n 3 dX6_listAll_137 rfl rfl ?_
                                            refine E_iload 4 dX6_listAll_138 rfl ?_
                                            refine E_iload 5 dX6_listAll_140 rfl ?_
                                            refine E_iload 7 dX6_listAll_142 rfl ?_
                                            have hvB9 : vB s kd a b := hxs6.elim (fun q => q.2) (fun q => absurd (by rw [q.1]; rfl) c_105)
                                            have b1 := hvB9.1
                                            have b2 := hvB9.2.1
                                            refine E_callV (c_X6_lists l hfl md ml (mi 62 0).toInt.toNat (mi 62 1).toInt (mi 62 2).toInt (fun k => (mi 62 (6 + 2 * k)).toInt) (fun k => (mi 62 (7 + 2 * k)).toInt) n hset9 hrow9 (by omega) xk xa xb xc kd a b c (hxk.trans (by omega)) (hxa.trans (by omega)) (hxb.trans (by omega)) (hxc.trans (by omega)) (by omega) (by omega) (by omega) (by omega) (((stK (DV (mi 62)) s n kd ++ stA (DV (mi 62)) s n kd a ++ stB (DV (mi 62)) s n kd a b ++ stC (DV (mi 62)) s kd a b c)).length) hLd.2.2.1 (by simp only [List.length_append]; exact st_room h10 (by omega) (by omega) (by omega) (by omega) (by omega) (by omega))) cw_X6_101 (As := [.int xk, .int xa, .int xb, .int xc]) (st := []) wi_yX6_lists we_yX6_lists (ci := 6) (q := (RX6, TX6, 23)) rfl rfl (wl_atO tw_61) rfl ⟨Nat.le_of_ble_eq_true rfl, Nat.le_of_ble_eq_true rfl, Nat.le_of_ble_eq_true rfl, Nat.le_of_ble_eq_true rfl⟩ (Nat.le_of_ble_eq_true rfl) dX6_listAll_144 (fun _ _ h => h) rfl (kV (fun mi_144 ml_144 h_144 => ?_))
                                            obtain ⟨rfl, hl_144⟩ := h_144
                                            refine E_iinc 7 (xc + 1) [(7, .int (xc + 1)), (0, .ref 61), (1, .int xs), (2, .int (mi 62 5)), (3, .int xk), (4, .int xa), (5, .int xb), (6, .int xv)] dX6_listAll_147 rfl rfl (by decide) rfl ?_
                                            refine E_goto 88 dX6_listAll_150 (by decide) ?_
                                            refine E_sub [1, 2, 3, 4, 5, 6, 7, 0] rfl ?_
                                            exact ih88 (xc + 1) xv (c + 1) mi_144 (by omega) ((tI_add hxc (show (1 : Int32).toInt = 1 from rfl) (by omega)).trans (by omega)) (by omega) (Or.inl ⟨hxs6.elim (fun q => q.1) (fun q => absurd (by rw [q.1]; rfl) c_105), hxs6.elim (fun q => q.2) (fun q => absurd (by rw [q.1]; rfl) c_105)⟩) (by first | exact hl_144.elim (fun q => by rw [← q.2]; exact la_c0 hLd (fun z => q.1 z.2)) (fun q => la_c1 hLd (by first | exact Or.inl (by omega) | exact Or.inr ⟨by omega, by omega, c_133⟩) q.1 q.2.1 q.2.2.1 q.2.2.2.1 q.2.2.2.2.1 q.2.2.2.2.2) | exact la_c0 hLd (fun z => by exact z.1.elim (fun z => by omega) (fun z => by first | omega | exact c_133 z.2.2)))
                          refine E_sub [2, 3, 4, 5, 6, 7, 1, 0] rfl ?_
                          exact J88 _ 0 0 0 mc (Nat.lt_succ_self _) (show (0 : Int32).toInt = 0 from rfl) (by omega) (by first | exact Or.inl ⟨rfl, vB_t hkab c_57 c_66 c_75⟩ | exact Or.inr ⟨rfl, fun q => c_66 q.2.2.1, rfl⟩ | exact Or.inr ⟨rfl, fun q => c_75 q.2.2.2, rfl⟩ | exact Or.inr ⟨rfl, fun q => q.2.1 (by omega), rfl⟩) (by rw [show stC (DV (mi 62)) s kd a b 0 = [] from rfl, List.append_nil]; exact hLc)
                        · skip
                          refine E_iload_n 1 dX6_listAll_69 rfl rfl ?_
                          refine E_iload 5 dX6_listAll_70 rfl ?_
                          refine E_callS (c_X6_has l hfl mc ml xs xb s b (hxs.trans (by omega)) (hxb.trans (by omega)) (by omega) (by omega)) cw_X6_85 (As := [.int xs, .int xb]) (st := []) ws_yX6_has rfl ⟨Nat.le_of_ble_eq_true rfl, Nat.le_of_ble_eq_true rfl, Nat.le_of_ble_eq_true rfl, Nat.le_of_ble_eq_true rfl⟩ (Nat.le_of_ble_eq_true rfl) dX6_listAll_72 (fun _ _ h => h) rfl (kE ?_)
                          refine B_eq 82 dX6_listAll_75 (by decide) (fun c_75 => ?_) (fun c_75 => ?_)
                          · skip
                            refine E_iconst 0 (by decide) dX6_listAll_82 ?_
                            refine E_istore [(6, .int 0), (0, .ref 61), (1, .int xs), (2, .int (mi 62 5)), (3, .int xk), (4, .int xa), (5, .int xb)] dX6_listAll_83 (by decide) rfl ?_
                            refine E_iconst 0 (by decide) dX6_listAll_85 ?_
                            refine E_istore [(7, .int 0), (6, .int 0), (0, .ref 61), (1, .int xs), (2, .int (mi 62 5)), (3, .int xk), (4, .int xa), (5, .int xb)] dX6_listAll_86 (by decide) rfl ?_
                            have J88 : ∀ (N : Nat) (xc xv : Int32) (c : Nat) (md : MI), n + 1 - c < N → xc.toInt = (c : Int) → c ≤ nCs n kd → ((xv = 1 ∧ vB s kd a b) ∨ (xv = 0 ∧ ¬ vB s kd a b ∧ c = 0)) → LsP (DV (mi 62)) mi_1 md (stK (DV (mi 62)) s n kd ++ stA (DV (mi 62)) s n kd a ++ stB (DV (mi 62)) s n kd a b ++ stC (DV (mi 62)) s kd a b c) → E l RX6 cX6_listAll 8 none false [] (rmE 4 0 0) (wl mi ml) (TgM (wl mi ml) 0 0 (QV (fun mi9 ml9 => ml = ml9 ∧ Fr [61, 65, 66, 67] mi mi9 ∧ (∀ k, k ≠ 9 → mi9 61 k = mi 61 k) ∧ (mi9 61 9).toInt = ((stK (DV (mi 62)) s n 3).length : Int) ∧ encd (DV (mi 62)) (mi9 67) (stK (DV (mi 62)) s n 3))) noX) 0 0 88 [(0, .ref 61), (1, .int xs), (2, .int (mi 62 5)), (3, .int xk), (4, .int xa), (5, .int xb), (6, .int xv), (7, .int xc)] [] (wl md ml) := by
                              intro N
                              induction N with
                              | zero => intros; omega
                              | succ N ih88 =>
                                intro xc xv c md hN88 hxc hc hxs6 hLd
                                have hbnd : (kd = 1 ∧ nCs n kd = n) ∨ (kd ≠ 1 ∧ nCs n kd = 1) := by unfold nCs; split <;> omega
                                have hset9 : SetM md (DV (mi 62)) := (SetM_of hwf).c ((hLd.1 62 (by decide)).trans (hFr_1 62 (by decide)))
                                have hrow9 := hrow1.c (hLd.1 65 (by decide)) (hLd.1 66 (by decide))
                                refine E_iload 7 dX6_listAll_88 rfl ?_
                                refine E_iload_n 3 dX6_listAll_90 rfl rfl ?_
                                refine E_iconst 1 (by decide) dX6_listAll_91 ?_
                                refine Z_ne (kd : Int) 1 hxk (show (1 : Int32).toInt = 1 from rfl) 99 dX6_listAll_92 (by decide) (fun c_92 => ?_) (fun c_92 => ?_)
                                · skip
                                  refine E_iconst 1 (by decide) dX6_listAll_99 ?_
                                  refine Z_ge (c : Int) 1 hxc (show (1 : Int32).toInt = 1 from rfl) 153 dX6_listAll_100 (by decide) (fun c_100 => ?_) (fun c_100 => ?_)
                                  · skip
                                    refine E_iinc 5 (xb + 1) [(5, .int (xb + 1)), (0, .ref 61), (1, .int xs), (2, .int (mi 62 5)), (3, .int xk), (4, .int xa), (6, .int xv), (7, .int xc)] dX6_listAll_153 rfl rfl (by decide) rfl ?_
                                    refine E_goto 47 dX6_listAll_156 (by decide) ?_
                                    refine E_sub [1, 2, 3, 4, 5, 0] rfl ?_
                                    exact ih47 (xb + 1) (b + 1) md (by omega) ((tI_add hxb (show (1 : Int32).toInt = 1 from rfl) (by omega)).trans (by omega)) (by omega) (by omega) (la_b hxs6 hLd (by first | exact Or.inl c_105 | exact Or.inr (by omega)))
                                  · skip
                                    refine E_iload 6 dX6_listAll_103 rfl ?_
                                    refine Y_eq xv.toInt rfl 153 dX6_listAll_105 (by decide) (fun c_105 => ?_) (fun c_105 => ?_)
                                    · skip
                                      refine E_iinc 5 (xb + 1) [(5, .int (xb + 1)), (0, .ref 61), (1, .int xs), (2, .int (mi 62 5)), (3, .int xk), (4, .int xa), (6, .int xv), (7, .int xc)] dX6_listAll_153 rfl rfl (by decide) rfl ?_
                                      refine E_goto 47 dX6_listAll_156 (by decide) ?_
                                      refine E_sub [1, 2, 3, 4, 5, 0] rfl ?_
                                      exact ih47 (xb + 1) (b + 1) md (by omega) ((tI_add hxb (show (1 : Int32).toInt = 1 from rfl) (by omega)).trans (by omega)) (by omega) (by omega) (la_b hxs6 hLd (by first | exact Or.inl c_105 | exact Or.inr (by omega)))
                                    · skip
                                      refine E_iload_n 3 dX6_listAll_108 rfl rfl ?_
                                      refine E_iconst 1 (by decide) dX6_listAll_109 ?_
                                      refine Z_ne (kd : Int) 1 hxk (show (1 : Int32).toInt = 1 from rfl) 136 dX6_listAll_110 (by decide) (fun c_110 => ?_) (fun c_110 => ?_)
                                      · skip
                                        refine E_aload_n 0 dX6_listAll_136 rfl rfl ?_
                                        refine E_iload_n 3 dX6_listAll_137 rfl rfl ?_
                                        refine E_iload 4 dX6_listAll_138 rfl ?_
                                        refine E_iload 5 dX6_listAll_140 rfl ?_
                                        refine E_iload 7 dX6_listAll_142 rfl ?_
                                        have hvB9 : vB s kd a b := hxs6.elim (fun q => q.2) (fun q => absurd (by rw [q.1]; rfl) c_105)
                                        have b1 := hvB9.1
                                        have b2 := hvB9.2.1
                                        refine E_callV (c_X6_lists l hfl md ml (mi 62 0).toInt.toNat (mi 62 1).toInt (mi 62 2).toInt (fun k => (mi 62 (6 + 2 * k)).toInt) (fun k => (mi 62 (7 + 2 * k)).toInt) n hset9 hrow9 (by omega) xk xa xb xc kd a b c (hxk.trans (by omega)) (hxa.trans (by omega)) (hxb.trans (by omega)) (hxc.trans (by omega)) (by omega) (by omega) (by omega) (by omega) (((stK (DV (mi 62)) s n kd ++ stA (DV (mi 62)) s n kd a ++ stB (DV (mi 62)) s n kd a b ++ stC (DV (mi 62)) s kd a b c)).length) hLd.2.2.1 (by simp only [List.length_append]; exact st_room h10 (by omega) (by omega) (by omega) (by omega) (by omega) (by omega))) cw_X6_101 (As := [.int xk, .int xa, .int xb, .int xc]) (st := []) wi_yX6_lists we_yX6_lists (ci := 6) (q := (RX6, TX6, 23)) rfl rfl (wl_atO tw_61) rfl ⟨Nat.le_of_ble_eq_true rfl, Nat.le_of_ble_eq_true rfl, Nat.le_of_ble_eq_true rfl, Nat.le_of_ble_eq_true rfl⟩ (Nat.le_of_ble_eq_true rfl) dX6_listAll_144 (fun _ _ h => h) rfl (kV (fun mi_144 ml_144 h_144 => ?_))
                                        obtain ⟨rfl, hl_144⟩ := h_144
                                        refine E_iinc 7 (xc + 1) [(7, .int (xc + 1)), (0, .ref 61), (1, .int xs), (2, .int (mi 62 5)), (3, .int xk), (4, .int xa), (5, .int xb), (6, .int xv)] dX6_listAll_147 rfl rfl (by decide) rfl ?_
                                        refine E_goto 88 dX6_listAll_150 (by decide) ?_
                                        refine E_sub [1, 2, 3, 4, 5, 6, 7, 0] rfl ?_
                                        exact ih88 (xc + 1) xv (c + 1) mi_144 (by omega) ((tI_add hxc (show (1 : Int32).toInt = 1 from rfl) (by omega)).trans (by omega)) (by omega) (Or.inl ⟨hxs6.elim (fun q => q.1) (fun q => absurd (by rw [q.1]; rfl) c_105), hxs6.elim (fun q => q.2) (fun q => absurd (by rw [q.1]; rfl) c_105)⟩) (by first | exact hl_144.elim (fun q => by rw [← q.2]; exact la_c0 hLd (fun z => q.1 z.2)) (fun q => la_c1 hLd (by first | exact Or.inl (by omega) | exact Or.inr ⟨by omega, by omega, c_133⟩) q.1 q.2.1 q.2.2.1 q.2.2.2.1 q.2.2.2.2.1 q.2.2.2.2.2) | exact la_c0 hLd (fun z => by exact z.1.elim (fun z => by omega) (fun z => by first | omega | exact c_133 z.2.2)))
                                      · skip
                                        refine E_iload 7 dX6_listAll_113 rfl ?_
                                        refine E_iload 4 dX6_listAll_115 rfl ?_
                                        refine Z_eq (c : Int) (a : Int) hxc hxa 147 dX6_listAll_117 (by decide) (fun c_117 => ?_) (fun c_117 => ?_)
                                        · skip
                                          refine E_iinc 7 (xc + 1) [(7, .int (xc + 1)), (0, .ref 61), (1, .int xs), (2, .int (mi 62 5)), (3, .int xk), (4, .int xa), (5, .int xb), (6, .int xv)] dX6_listAll_147 rfl rfl (by decide) rfl ?_
                                          refine E_goto 88 dX6_listAll_150 (by decide) ?_
                                          refine E_sub [1, 2, 3, 4, 5, 6, 7, 0] rfl ?_
                                          exact ih88 (xc + 1) xv (c + 1) md (by omega) ((tI_add hxc (show (1 : Int32).toInt = 1 from rfl) (by omega)).trans (by omega)) (by omega) (Or.inl ⟨hxs6.elim (fun q => q.1) (fun q => absurd (by rw [q.1]; rfl) c_105), hxs6.elim (fun q => q.2) (fun q => absurd (by rw [q.1]; rfl) c_105)⟩) (by first | exact hl_144.elim (fun q => by rw [← q.2]; exact la_c0 hLd (fun z => q.1 z.2)) (fun q => la_c1 hLd (by first | exact Or.inl (by omega) | exact Or.inr ⟨by omega, by omega, c_133⟩) q.1 q.2.1 q.2.2.1 q.2.2.2.1 q.2.2.2.2.1 q.2.2.2.2.2) | exact la_c0 hLd (fun z => by exact z.1.elim (fun z => by omega) (fun z => by first | omega | exact c_133 z.2.2)))
                                        · skip
                                          refine E_iload 7 dX6_listAll_120 rfl ?_
                                          refine E_iload 5 dX6_listAll_122 rfl ?_
                                          refine Z_eq (c : Int) (b : Int) hxc hxb 147 dX6_listAll_124 (by decide) (fun c_124 => ?_) (fun c_124 => ?_)
                                          · skip
                                            refine E_iinc 7 (xc + 1) [(7, .int (xc + 1)), (0, .ref 61), (1, .int xs), (2, .int (mi 62 5)), (3, .int xk), (4, .int xa), (5, .int xb), (6, .int xv)] dX6_listAll_147 rfl rfl (by decide) rfl ?_
                                            refine E_goto 88 dX6_listAll_150 (by decide) ?_
                                            refine E_sub [1, 2, 3, 4, 5, 6, 7, 0] rfl ?_
                                            exact ih88 (xc + 1) xv (c + 1) md (by omega) ((tI_add hxc (show (1 : Int32).toInt = 1 from rfl) (by omega)).trans (by omega)) (by omega) (Or.inl ⟨hxs6.elim (fun q => q.1) (fun q => absurd (by rw [q.1]; rfl) c_105), hxs6.elim (fun q => q.2) (fun q => absurd (by rw [q.1]; rfl) c_105)⟩) (by first | exact hl_144.elim (fun q => by rw [← q.2]; exact la_c0 hLd (fun z => q.1 z.2)) (fun q => la_c1 hLd (by first | exact Or.inl (by omega) | exact Or.inr ⟨by omega, by omega, c_133⟩) q.1 q.2.1 q.2.2.1 q.2.2.2.1 q.2.2.2.2.1 q.2.2.2.2.2) | exact la_c0 hLd (fun z => by exact z.1.elim (fun z => by omega) (fun z => by first | omega | exact c_133 z.2.2)))
                                          · skip
                                            refine E_iload_n 1 dX6_listAll_127 rfl rfl ?_
                                            refine E_iload 7 dX6_listAll_128 rfl ?_
                                            refine E_callS (c_X6_has l hfl md ml xs xc s c (hxs.trans (by omega)) (hxc.trans (by omega)) (by omega) (by omega)) cw_X6_85 (As := [.int xs, .int xc]) (st := []) ws_yX6_has rfl ⟨Nat.le_of_ble_eq_true rfl, Nat.le_of_ble_eq_true rfl, Nat.le_of_ble_eq_true rfl, Nat.le_of_ble_eq_true rfl⟩ (Nat.le_of_ble_eq_true rfl) dX6_listAll_130 (fun _ _ h => h) rfl (kE ?_)
                                            refine B_eq 147 dX6_listAll_133 (by decide) (fun c_133 => ?_) (fun c_133 => ?_)
                                            · skip
                                              refine E_iinc 7 (xc + 1) [(7, .int (xc + 1)), (0, .ref 61), (1, .int xs), (2, .int (mi 62 5)), (3, .int xk), (4, .int xa), (5, .int xb), (6, .int xv)] dX6_listAll_147 rfl rfl (by decide) rfl ?_
                                              refine E_goto 88 dX6_listAll_150 (by decide) ?_
                                              refine E_sub [1, 2, 3, 4, 5, 6, 7, 0] rfl ?_
                                              exact ih88 (xc + 1) xv (c + 1) md (by omega) ((tI_add hxc (show (1 : Int32).toInt = 1 from rfl) (by omega)).trans (by omega)) (by omega) (Or.inl ⟨hxs6.elim (fun q => q.1) (fun q => absurd (by rw [q.1]; rfl) c_105), hxs6.elim (fun q => q.2) (fun q => absurd (by rw [q.1]; rfl) c_105)⟩) (by first | exact hl_144.elim (fun q => by rw [← q.2]; exact la_c0 hLd (fun z => q.1 z.2)) (fun q => la_c1 hLd (by first | exact Or.inl (by omega) | exact Or.inr ⟨by omega, by omega, c_133⟩) q.1 q.2.1 q.2.2.1 q.2.2.2.1 q.2.2.2.2.1 q.2.2.2.2.2) | exact la_c0 hLd (fun z => by exact z.1.elim (fun z => by omega) (fun z => by first | omega | exact c_133 z.2.2)))
                                            · skip
                                              refine E_aload_n 0 dX6_listAll_136 rfl rfl ?_
                                              refine E_iload_n 3 dX6_listAll_137 rfl rfl ?_
                                              refine E_iload 4 dX6_listAll_138 rfl ?_
                                              refine E_iload 5 dX6_listAll_140 rfl ?_
                                              refine E_iload 7 dX6_listAll_142 rfl ?_
                                              have hvB9 : vB s kd a b := hxs6.elim (fun q => q.2) (fun q => absurd (by rw [q.1]; rfl) c_105)
                                              have b1 := hvB9.1
                                              have b2 := hvB9.2.1
                                              refine E_callV (c_X6_lists l hfl md ml (mi 62 0).toInt.toNat (mi 62 1).toInt (mi 62 2).toInt (fun k => (mi 62 (6 + 2 * k)).toInt) (fun k => (mi 62 (7 + 2 * k)).toInt) n hset9 hrow9 (by omega) xk xa xb xc kd a b c (hxk.trans (by omega)) (hxa.trans (by omega)) (hxb.trans (by omega)) (hxc.trans (by omega)) (by omega) (by omega) (by omega) (by omega) (((stK (DV (mi 62)) s n kd ++ stA (DV (mi 62)) s n kd a ++ stB (DV (mi 62)) s n kd a b ++ stC (DV (mi 62)) s kd a b c)).length) hLd.2.2.1 (by simp only [List.length_append]; exact st_room h10 (by omega) (by omega) (by omega) (by omega) (by omega) (by omega))) cw_X6_101 (As := [.int xk, .int xa, .int xb, .int xc]) (st := []) wi_yX6_lists we_yX6_lists (ci := 6) (q := (RX6, TX6, 23)) rfl rfl (wl_atO tw_61) rfl ⟨Nat.le_of_ble_eq_true rfl, Nat.le_of_ble_eq_true rfl, Nat.le_of_ble_eq_true rfl, Nat.le_of_ble_eq_true rfl⟩ (Nat.le_of_ble_eq_true rfl) dX6_listAll_144 (fun _ _ h => h) rfl (kV (fun mi_144 ml_144 h_144 => ?_))
                                              obtain ⟨rfl, hl_144⟩ := h_144
                                              refine E_iinc 7 (xc + 1) [(7, .int (xc + 1)), (0, .ref 61), (1, .int xs), (2, .int (mi 62 5)), (3, .int xk), (4, .int xa), (5, .int xb), (6, .int xv)] dX6_listAll_147 rfl rfl (by decide) rfl ?_
                                              refine E_goto 88 dX6_listAll_150 (by decide) ?_
                                              refine E_sub [1, 2, 3, 4, 5, 6, 7, 0] rfl ?_
                                              exact ih88 (xc + 1) xv (c + 1) mi_144 (by omega) ((tI_add hxc (show (1 : Int32).toInt = 1 from rfl) (by omega)).trans (by omega)) (by omega) (Or.inl ⟨hxs6.elim (fun q => q.1) (fun q => absurd (by rw [q.1]; rfl) c_105), hxs6.elim (fun q => q.2) (fun q => absurd (by rw [q.1]; rfl) c_105)⟩) (by first | exact hl_144.elim (fun q => by rw [← q.2]; exact la_c0 hLd (fun z => q.1 z.2)) (fun q => la_c1 hLd (by first | exact Or.inl (by omega) | exact Or.inr ⟨by omega, by omega, c_133⟩) q.1 q.2.1 q.2.2.1 q.2.2.2.1 q.2.2.2.2.1 q.2.2.2.2.2) | exact la_c0 hLd (fun z => by exact z.1.elim (fun z => by omega) (fun z => by first | omega | exact c_133 z.2.2)))
                                · skip
                                  refine E_iload_n 2 dX6_listAll_95 rfl rfl ?_
                                  refine E_goto 100 dX6_listAll_96 (by decide) ?_
                                  refine Z_ge (c : Int) (n : Int) hxc hn 153 dX6_listAll_100 (by decide) (fun c_100 => ?_) (fun c_100 => ?_)
                                  · skip
                                    refine E_iinc 5 (xb + 1) [(5, .int (xb + 1)), (0, .ref 61), (1, .int xs), (2, .int (mi 62 5)), (3, .int xk), (4, .int xa), (6, .int xv), (7, .int xc)] dX6_listAll_153 rfl rfl (by decide) rfl ?_
                                    refine E_goto 47 dX6_listAll_156 (by decide) ?_
                                    refine E_sub [1, 2, 3, 4, 5, 0] rfl ?_
                                    exact ih47 (xb + 1) (b + 1) md (by omega) ((tI_add hxb (show (1 : Int32).toInt = 1 from rfl) (by omega)).trans (by omega)) (by omega) (by omega) (la_b hxs6 hLd (by first | exact Or.inl c_105 | exact Or.inr (by omega)))
                                  · skip
                                    refine E_iload 6 dX6_listAll_103 rfl ?_
                                    refine Y_eq xv.toInt rfl 153 dX6_listAll_105 (by decide) (fun c_105 => ?_) (fun c_105 => ?_)
                                    · skip
                                      refine E_iinc 5 (xb + 1) [(5, .int (xb + 1)), (0, .ref 61), (1, .int xs), (2, .int (mi 62 5)), (3, .int xk), (4, .int xa), (6, .int xv), (7, .int xc)] dX6_listAll_153 rfl rfl (by decide) rfl ?_
                                      refine E_goto 47 dX6_listAll_156 (by decide) ?_
                                      refine E_sub [1, 2, 3, 4, 5, 0] rfl ?_
                                      exact ih47 (xb + 1) (b + 1) md (by omega) ((tI_add hxb (show (1 : Int32).toInt = 1 from rfl) (by omega)).trans (by omega)) (by omega) (by omega) (la_b hxs6 hLd (by first | exact Or.inl c_105 | exact Or.inr (by omega)))
                                    · skip
                                      refine E_iload_n 3 dX6_listAll_108 rfl rfl ?_
                                      refine E_iconst 1 (by decide) dX6_listAll_109 ?_
                                      refine Z_ne (kd : Int) 1 hxk (show (1 : Int32).toInt = 1 from rfl) 136 dX6_listAll_110 (by decide) (fun c_110 => ?_) (fun c_110 => ?_)
                                      · skip
                                        refine E_aload_n 0 dX6_listAll_136 rfl rfl ?_
                                        refine E_iload_n 3 dX6_listAll_137 rfl rfl ?_
                                        refine E_iload 4 dX6_listAll_138 rfl ?_
                                        refine E_iload 5 dX6_listAll_140 rfl ?_
                                        refine E_iload 7 dX6_listAll_142 rfl ?_
                                        have hvB9 : vB s kd a b := hxs6.elim (fun q => q.2) (fun q => absurd (by rw [q.1]; rfl) c_105)
                                        have b1 := hvB9.1
                                        have b2 := hvB9.2.1
                                        refine E_callV (c_X6_lists l hfl md ml (mi 62 0).toInt.toNat (mi 62 1).toInt (mi 62 2).toInt (fun k => (mi 62 (6 + 2 * k)).toInt) (fun k => (mi 62 (7 + 2 * k)).toInt) n hset9 hrow9 (by omega) xk xa xb xc kd a b c (hxk.trans (by omega)) (hxa.trans (by omega)) (hxb.trans (by omega)) (hxc.trans (by omega)) (by omega) (by omega) (by omega) (by omega) (((stK (DV (mi 62)) s n kd ++ stA (DV (mi 62)) s n kd a ++ stB (DV (mi 62)) s n kd a b ++ stC (DV (mi 62)) s kd a b c)).length) hLd.2.2.1 (by simp only [List.length_append]; exact st_room h10 (by omega) (by omega) (by omega) (by omega) (by omega) (by omega))) cw_X6_101 (As := [.int xk, .int xa, .int xb, .int xc]) (st := []) wi_yX6_lists we_yX6_lists (ci := 6) (q := (RX6, TX6, 23)) rfl rfl (wl_atO tw_61) rfl ⟨Nat.le_of_ble_eq_true rfl, Nat.le_of_ble_eq_true rfl, Nat.le_of_ble_eq_true rfl, Nat.le_of_ble_eq_true rfl⟩ (Nat.le_of_ble_eq_true rfl) dX6_listAll_144 (fun _ _ h => h) rfl (kV (fun mi_144 ml_144 h_144 => ?_))
                                        obtain ⟨rfl, hl_144⟩ := h_144
                                        refine E_iinc 7 (xc + 1) [(7, .int (xc + 1)), (0, .ref 61), (1, .int xs), (2, .int (mi 62 5)), (3, .int xk), (4, .int xa), (5, .int xb), (6, .int xv)] dX6_listAll_147 rfl rfl (by decide) rfl ?_
                                        refine E_goto 88 dX6_listAll_150 (by decide) ?_
                                        refine E_sub [1, 2, 3, 4, 5, 6, 7, 0] rfl ?_
                                        exact ih88 (xc + 1) xv (c + 1) mi_144 (by omega) ((tI_add hxc (show (1 : Int32).toInt = 1 from rfl) (by omega)).trans (by omega)) (by omega) (Or.inl ⟨hxs6.elim (fun q => q.1) (fun q => absurd (by rw [q.1]; rfl) c_105), hxs6.elim (fun q => q.2) (fun q => absurd (by rw [q.1]; rfl) c_105)⟩) (by first | exact hl_144.elim (fun q => by rw [← q.2]; exact la_c0 hLd (fun z => q.1 z.2)) (fun q => la_c1 hLd (by first | exact Or.inl (by omega) | exact Or.inr ⟨by omega, by omega, c_133⟩) q.1 q.2.1 q.2.2.1 q.2.2.2.1 q.2.2.2.2.1 q.2.2.2.2.2) | exact la_c0 hLd (fun z => by exact z.1.elim (fun z => by omega) (fun z => by first | omega | exact c_133 z.2.2)))
                                      · skip
                                        refine E_iload 7 dX6_listAll_113 rfl ?_
                                        refine E_iload 4 dX6_listAll_115 rfl ?_
                                        refine Z_eq (c : Int) (a : Int) hxc hxa 147 dX6_listAll_117 (by decide) (fun c_117 => ?_) (fun c_117 => ?_)
                                        · skip
                                          refine E_iinc 7 (xc + 1) [(7, .int (xc + 1)), (0, .ref 61), (1, .int xs), (2, .int (mi 62 5)), (3, .int xk), (4, .int xa), (5, .int xb), (6, .int xv)] dX6_listAll_147 rfl rfl (by decide) rfl ?_
                                          refine E_goto 88 dX6_listAll_150 (by decide) ?_
                                          refine E_sub [1, 2, 3, 4, 5, 6, 7, 0] rfl ?_
                                          exact ih88 (xc + 1) xv (c + 1) md (by omega) ((tI_add hxc (show (1 : Int32).toInt = 1 from rfl) (by omega)).trans (by omega)) (by omega) (Or.inl ⟨hxs6.elim (fun q => q.1) (fun q => absurd (by rw [q.1]; rfl) c_105), hxs6.elim (fun q => q.2) (fun q => absurd (by rw [q.1]; rfl) c_105)⟩) (by first | exact hl_144.elim (fun q => by rw [← q.2]; exact la_c0 hLd (fun z => q.1 z.2)) (fun q => la_c1 hLd (by first | exact Or.inl (by omega) | exact Or.inr ⟨by omega, by omega, c_133⟩) q.1 q.2.1 q.2.2.1 q.2.2.2.1 q.2.2.2.2.1 q.2.2.2.2.2) | exact la_c0 hLd (fun z => by exact z.1.elim (fun z => by omega) (fun z => by first | omega | exact c_133 z.2.2)))
                                        · skip
                                          refine E_iload 7 dX6_listAll_120 rfl ?_
                                          refine E_iload 5 dX6_listAll_122 rfl ?_
                                          refine Z_eq (c : Int) (b : Int) hxc hxb 147 dX6_listAll_124 (by decide) (fun c_124 => ?_) (fun c_124 => ?_)
                                          · skip
                                            refine E_iinc 7 (xc + 1) [(7, .int (xc + 1)), (0, .ref 61), (1, .int xs), (2, .int (mi 62 5)), (3, .int xk), (4, .int xa), (5, .int xb), (6, .int xv)] dX6_listAll_147 rfl rfl (by decide) rfl ?_
                                            refine E_goto 88 dX6_listAll_150 (by decide) ?_
                                            refine E_sub [1, 2, 3, 4, 5, 6, 7, 0] rfl ?_
                                            exact ih88 (xc + 1) xv (c + 1) md (by omega) ((tI_add hxc (show (1 : Int32).toInt = 1 from rfl) (by omega)).trans (by omega)) (by omega) (Or.inl ⟨hxs6.elim (fun q => q.1) (fun q => absurd (by rw [q.1]; rfl) c_105), hxs6.elim (fun q => q.2) (fun q => absurd (by rw [q.1]; rfl) c_105)⟩) (by first | exact hl_144.elim (fun q => by rw [← q.2]; exact la_c0 hLd (fun z => q.1 z.2)) (fun q => la_c1 hLd (by first | exact Or.inl (by omega) | exact Or.inr ⟨by omega, by omega, c_133⟩) q.1 q.2.1 q.2.2.1 q.2.2.2.1 q.2.2.2.2.1 q.2.2.2.2.2) | exact la_c0 hLd (fun z => by exact z.1.elim (fun z => by omega) (fun z => by first | omega | exact c_133 z.2.2)))
                                          · skip
                                            refine E_iload_n 1 dX6_listAll_127 rfl rfl ?_
                                            refine E_iload 7 dX6_listAll_128 rfl ?_
                                            refine E_callS (c_X6_has l hfl md ml xs xc s c (hxs.trans (by omega)) (hxc.trans (by omega)) (by omega) (by omega)) cw_X6_85 (As := [.int xs, .int xc]) (st := []) ws_yX6_has rfl ⟨Nat.le_of_ble_eq_true rfl, Nat.le_of_ble_eq_true rfl, Nat.le_of_ble_eq_true rfl, Nat.le_of_ble_eq_true rfl⟩ (Nat.le_of_ble_eq_true rfl) dX6_listAll_130 (fun _ _ h => h) rfl (kE ?_)
                                            refine B_eq 147 dX6_listAll_133 (by decide) (fun c_133 => ?_) (fun c_133 => ?_)
                                            · skip
                                              refine E_iinc 7 (xc + 1) [(7, .int (xc + 1)), (0, .ref 61), (1, .int xs), (2, .int (mi 62 5)), (3, .int xk), (4, .int xa), (5, .int xb), (6, .int xv)] dX6_listAll_147 rfl rfl (by decide) rfl ?_
                                              refine E_goto 88 dX6_listAll_150 (by decide) ?_
                                              refine E_sub [1, 2, 3, 4, 5, 6, 7, 0] rfl ?_
                                              exact ih88 (xc + 1) xv (c + 1) md (by omega) ((tI_add hxc (show (1 : Int32).toInt = 1 from rfl) (by omega)).trans (by omega)) (by omega) (Or.inl ⟨hxs6.elim (fun q => q.1) (fun q => absurd (by rw [q.1]; rfl) c_105), hxs6.elim (fun q => q.2) (fun q => absurd (by rw [q.1]; rfl) c_105)⟩) (by first | exact hl_144.elim (fun q => by rw [← q.2]; exact la_c0 hLd (fun z => q.1 z.2)) (fun q => la_c1 hLd (by first | exact Or.inl (by omega) | exact Or.inr ⟨by omega, by omega, c_133⟩) q.1 q.2.1 q.2.2.1 q.2.2.2.1 q.2.2.2.2.1 q.2.2.2.2.2) | exact la_c0 hLd (fun z => by exact z.1.elim (fun z => by omega) (fun z => by first | omega | exact c_133 z.2.2)))
                                            · skip
                                              refine E_aload_n 0 dX6_listAll_136 rfl rfl ?_
                                              refine E_iload_n 3 dX6_listAll_137 rfl rfl ?_
                                              refine E_iload 4 dX6_listAll_138 rfl ?_
                                              refine E_iload 5 dX6_listAll_140 rfl ?_
                                              refine E_iload 7 dX6_listAll_142 rfl ?_
                                              have hvB9 : vB s kd a b := hxs6.elim (fun q => q.2) (fun q => absurd (by rw [q.1]; rfl) c_105)
                                              have b1 := hvB9.1
                                              have b2 := hvB9.2.1
                                              refine E_callV (c_X6_lists l hfl md ml (mi 62 0).toInt.toNat (mi 62 1).toInt (mi 62 2).toInt (fun k => (mi 62 (6 + 2 * k)).toInt) (fun k => (mi 62 (7 + 2 * k)).toInt) n hset9 hrow9 (by omega) xk xa xb xc kd a b c (hxk.trans (by omega)) (hxa.trans (by omega)) (hxb.trans (by omega)) (hxc.trans (by omega)) (by omega) (by omega) (by omega) (by omega) (((stK (DV (mi 62)) s n kd ++ stA (DV (mi 62)) s n kd a ++ stB (DV (mi 62)) s n kd a b ++ stC (DV (mi 62)) s kd a b c)).length) hLd.2.2.1 (by simp only [List.length_append]; exact st_room h10 (by omega) (by omega) (by omega) (by omega) (by omega) (by omega))) cw_X6_101 (As := [.int xk, .int xa, .int xb, .int xc]) (st := []) wi_yX6_lists we_yX6_lists (ci := 6) (q := (RX6, TX6, 23)) rfl rfl (wl_atO tw_61) rfl ⟨Nat.le_of_ble_eq_true rfl, Nat.le_of_ble_eq_true rfl, Nat.le_of_ble_eq_true rfl, Nat.le_of_ble_eq_true rfl⟩ (Nat.le_of_ble_eq_true rfl) dX6_listAll_144 (fun _ _ h => h) rfl (kV (fun mi_144 ml_144 h_144 => ?_))
                                              obtain ⟨rfl, hl_144⟩ := h_144
                                              refine E_iinc 7 (xc + 1) [(7, .int (xc + 1)), (0, .ref 61), (1, .int xs), (2, .int (mi 62 5)), (3, .int xk), (4, .int xa), (5, .int xb), (6, .int xv)] dX6_listAll_147 rfl rfl (by decide) rfl ?_
                                              refine E_goto 88 dX6_listAll_150 (by decide) ?_
                                              refine E_sub [1, 2, 3, 4, 5, 6, 7, 0] rfl ?_
                                              exact ih88 (xc + 1) xv (c + 1) mi_144 (by omega) ((tI_add hxc (show (1 : Int32).toInt = 1 from rfl) (by omega)).trans (by omega)) (by omega) (Or.inl ⟨hxs6.elim (fun q => q.1) (fun q => absurd (by rw [q.1]; rfl) c_105), hxs6.elim (fun q => q.2) (fun q => absurd (by rw [q.1]; rfl) c_105)⟩) (by first | exact hl_144.elim (fun q => by rw [← q.2]; exact la_c0 hLd (fun z => q.1 z.2)) (fun q => la_c1 hLd (by first | exact Or.inl (by omega) | exact Or.inr ⟨by omega, by omega, c_133⟩) q.1 q.2.1 q.2.2.1 q.2.2.2.1 q.2.2.2.2.1 q.2.2.2.2.2) | exact la_c0 hLd (fun z => by exact z.1.elim (fun z => by omega) (fun z => by first | omega | exact c_133 z.2.2)))
                            refine E_sub [2, 3, 4, 5, 6, 7, 1, 0] rfl ?_
                            exact J88 _ 0 0 0 mc (Nat.lt_succ_self _) (show (0 : Int32).toInt = 0 from rfl) (by omega) (by first | exact Or.inl ⟨rfl, vB_t hkab c_57 c_66 c_75⟩ | exact Or.inr ⟨rfl, fun q => c_66 q.2.2.1, rfl⟩ | exact Or.inr ⟨rfl, fun q => c_75 q.2.2.2, rfl⟩ | exact Or.inr ⟨rfl, fun q => q.2.1 (by omega), rfl⟩) (by rw [show stC (DV (mi 62)) s kd a b 0 = [] from rfl, List.append_nil]; exact hLc)
                          · skip
                            refine E_iconst 1 (by decide) dX6_listAll_78 ?_
                            refine E_goto 83 dX6_listAll_79 (by decide) ?_
                            refine E_istore [(6, .int 1), (0, .ref 61), (1, .int xs), (2, .int (mi 62 5)), (3, .int xk), (4, .int xa), (5, .int xb)] dX6_listAll_83 (by decide) rfl ?_
                            refine E_iconst 0 (by decide) dX6_listAll_85 ?_
                            refine E_istore [(7, .int 0), (6, .int 1), (0, .ref 61), (1, .int xs), (2, .int (mi 62 5)), (3, .int xk), (4, .int xa), (5, .int xb)] dX6_listAll_86 (by decide) rfl ?_
                            have J88 : ∀ (N : Nat) (xc xv : Int32) (c : Nat) (md : MI), n + 1 - c < N → xc.toInt = (c : Int) → c ≤ nCs n kd → ((xv = 1 ∧ vB s kd a b) ∨ (xv = 0 ∧ ¬ vB s kd a b ∧ c = 0)) → LsP (DV (mi 62)) mi_1 md (stK (DV (mi 62)) s n kd ++ stA (DV (mi 62)) s n kd a ++ stB (DV (mi 62)) s n kd a b ++ stC (DV (mi 62)) s kd a b c) → E l RX6 cX6_listAll 8 none false [] (rmE 4 0 0) (wl mi ml) (TgM (wl mi ml) 0 0 (QV (fun mi9 ml9 => ml = ml9 ∧ Fr [61, 65, 66, 67] mi mi9 ∧ (∀ k, k ≠ 9 → mi9 61 k = mi 61 k) ∧ (mi9 61 9).toInt = ((stK (DV (mi 62)) s n 3).length : Int) ∧ encd (DV (mi 62)) (mi9 67) (stK (DV (mi 62)) s n 3))) noX) 0 0 88 [(0, .ref 61), (1, .int xs), (2, .int (mi 62 5)), (3, .int xk), (4, .int xa), (5, .int xb), (6, .int xv), (7, .int xc)] [] (wl md ml) := by
                              intro N
                              induction N with
                              | zero => intros; omega
                              | succ N ih88 =>
                                intro xc xv c md hN88 hxc hc hxs6 hLd
                                have hbnd : (kd = 1 ∧ nCs n kd = n) ∨ (kd ≠ 1 ∧ nCs n kd = 1) := by unfold nCs; split <;> omega
                                have hset9 : SetM md (DV (mi 62)) := (SetM_of hwf).c ((hLd.1 62 (by decide)).trans (hFr_1 62 (by decide)))
                                have hrow9 := hrow1.c (hLd.1 65 (by decide)) (hLd.1 66 (by decide))
                                refine E_iload 7 dX6_listAll_88 rfl ?_
                                refine E_iload_n 3 dX6_listAll_90 rfl rfl ?_
                                refine E_iconst 1 (by decide) dX6_listAll_91 ?_
                                refine Z_ne (kd : Int) 1 hxk (show (1 : Int32).toInt = 1 from rfl) 99 dX6_listAll_92 (by decide) (fun c_92 => ?_) (fun c_92 => ?_)
                                · skip
                                  refine E_iconst 1 (by decide) dX6_listAll_99 ?_
                                  refine Z_ge (c : Int) 1 hxc (show (1 : Int32).toInt = 1 from rfl) 153 dX6_listAll_100 (by decide) (fun c_100 => ?_) (fun c_100 => ?_)
                                  · skip
                                    refine E_iinc 5 (xb + 1) [(5, .int (xb + 1)), (0, .ref 61), (1, .int xs), (2, .int (mi 62 5)), (3, .int xk), (4, .int xa), (6, .int xv), (7, .int xc)] dX6_listAll_153 rfl rfl (by decide) rfl ?_
                                    refine E_goto 47 dX6_listAll_156 (by decide) ?_
                                    refine E_sub [1, 2, 3, 4, 5, 0] rfl ?_
                                    exact ih47 (xb + 1) (b + 1) md (by omega) ((tI_add hxb (show (1 : Int32).toInt = 1 from rfl) (by omega)).trans (by omega)) (by omega) (by omega) (la_b hxs6 hLd (by first | exact Or.inl c_105 | exact Or.inr (by omega)))
                                  · skip
                                    refine E_iload 6 dX6_listAll_103 rfl ?_
                                    refine Y_eq xv.toInt rfl 153 dX6_listAll_105 (by decide) (fun c_105 => ?_) (fun c_105 => ?_)
                                    · skip
                                      refine E_iinc 5 (xb + 1) [(5, .int (xb + 1)), (0, .ref 61), (1, .int xs), (2, .int (mi 62 5)), (3, .int xk), (4, .int xa), (6, .int xv), (7, .int xc)] dX6_listAll_153 rfl rfl (by decide) rfl ?_
                                      refine E_goto 47 dX6_listAll_156 (by decide) ?_
                                      refine E_sub [1, 2, 3, 4, 5, 0] rfl ?_
                                      exact ih47 (xb + 1) (b + 1) md (by omega) ((tI_add hxb (show (1 : Int32).toInt = 1 from rfl) (by omega)).trans (by omega)) (by omega) (by omega) (la_b hxs6 hLd (by first | exact Or.inl c_105 | exact Or.inr (by omega)))
                                    · skip
                                      refine E_iload_n 3 dX6_listAll_108 rfl rfl ?_
                                      refine E_iconst 1 (by decide) dX6_listAll_109 ?_
                                      refine Z_ne (kd : Int) 1 hxk (show (1 : Int32).toInt = 1 from rfl) 136 dX6_listAll_110 (by decide) (fun c_110 => ?_) (fun c_110 => ?_)
                                      · skip
                                        refine E_aload_n 0 dX6_listAll_136 rfl rfl ?_
                                        refine E_iload_n 3 dX6_listAll_137 rfl rfl ?_
                                        refine E_iload 4 dX6_listAll_138 rfl ?_
                                        refine E_iload 5 dX6_listAll_140 rfl ?_
                                        refine E_iload 7 dX6_listAll_142 rfl ?_
                                        have hvB9 : vB s kd a b := hxs6.elim (fun q => q.2) (fun q => absurd (by rw [q.1]; rfl) c_105)
                                        have b1 := hvB9.1
                                        have b2 := hvB9.2.1
                                        refine E_callV (c_X6_lists l hfl md ml (mi 62 0).toInt.toNat (mi 62 1).toInt (mi 62 2).toInt (fun k => (mi 62 (6 + 2 * k)).toInt) (fun k => (mi 62 (7 + 2 * k)).toInt) n hset9 hrow9 (by omega) xk xa xb xc kd a b c (hxk.trans (by omega)) (hxa.trans (by omega)) (hxb.trans (by omega)) (hxc.trans (by omega)) (by omega) (by omega) (by omega) (by omega) (((stK (DV (mi 62)) s n kd ++ stA (DV (mi 62)) s n kd a ++ stB (DV (mi 62)) s n kd a b ++ stC (DV (mi 62)) s kd a b c)).length) hLd.2.2.1 (by simp only [List.length_append]; exact st_room h10 (by omega) (by omega) (by omega) (by omega) (by omega) (by omega))) cw_X6_101 (As := [.int xk, .int xa, .int xb, .int xc]) (st := []) wi_yX6_lists we_yX6_lists (ci := 6) (q := (RX6, TX6, 23)) rfl rfl (wl_atO tw_61) rfl ⟨Nat.le_of_ble_eq_true rfl, Nat.le_of_ble_eq_true rfl, Nat.le_of_ble_eq_true rfl, Nat.le_of_ble_eq_true rfl⟩ (Nat.le_of_ble_eq_true rfl) dX6_listAll_144 (fun _ _ h => h) rfl (kV (fun mi_144 ml_144 h_144 => ?_))
                                        obtain ⟨rfl, hl_144⟩ := h_144
                                        refine E_iinc 7 (xc + 1) [(7, .int (xc + 1)), (0, .ref 61), (1, .int xs), (2, .int (mi 62 5)), (3, .int xk), (4, .int xa), (5, .int xb), (6, .int xv)] dX6_listAll_147 rfl rfl (by decide) rfl ?_
                                        refine E_goto 88 dX6_listAll_150 (by decide) ?_
                                        refine E_sub [1, 2, 3, 4, 5, 6, 7, 0] rfl ?_
                                        exact ih88 (xc + 1) xv (c + 1) mi_144 (by omega) ((tI_add hxc (show (1 : Int32).toInt = 1 from rfl) (by omega)).trans (by omega)) (by omega) (Or.inl ⟨hxs6.elim (fun q => q.1) (fun q => absurd (by rw [q.1]; rfl) c_105), hxs6.elim (fun q => q.2) (fun q => absurd (by rw [q.1]; rfl) c_105)⟩) (by first | exact hl_144.elim (fun q => by rw [← q.2]; exact la_c0 hLd (fun z => q.1 z.2)) (fun q => la_c1 hLd (by first | exact Or.inl (by omega) | exact Or.inr ⟨by omega, by omega, c_133⟩) q.1 q.2.1 q.2.2.1 q.2.2.2.1 q.2.2.2.2.1 q.2.2.2.2.2) | exact la_c0 hLd (fun z => by exact z.1.elim (fun z => by omega) (fun z => by first | omega | exact c_133 z.2.2)))
                                      · skip
                                        refine E_iload 7 dX6_listAll_113 rfl ?_
                                        refine E_iload 4 dX6_listAll_115 rfl ?_
                                        refine Z_eq (c : Int) (a : Int) hxc hxa 147 dX6_listAll_117 (by decide) (fun c_117 => ?_) (fun c_117 => ?_)
                                        · skip
                                          refine E_iinc 7 (xc + 1) [(7, .int (xc + 1)), (0, .ref 61), (1, .int xs), (2, .int (mi 62 5)), (3, .int xk), (4, .int xa), (5, .int xb), (6, .int xv)] dX6_listAll_147 rfl rfl (by decide) rfl ?_
                                          refine E_goto 88 dX6_listAll_150 (by decide) ?_
                                          refine E_sub [1, 2, 3, 4, 5, 6, 7, 0] rfl ?_
                                          exact ih88 (xc + 1) xv (c + 1) md (by omega) ((tI_add hxc (show (1 : Int32).toInt = 1 from rfl) (by omega)).trans (by omega)) (by omega) (Or.inl ⟨hxs6.elim (fun q => q.1) (fun q => absurd (by rw [q.1]; rfl) c_105), hxs6.elim (fun q => q.2) (fun q => absurd (by rw [q.1]; rfl) c_105)⟩) (by first | exact hl_144.elim (fun q => by rw [← q.2]; exact la_c0 hLd (fun z => q.1 z.2)) (fun q => la_c1 hLd (by first | exact Or.inl (by omega) | exact Or.inr ⟨by omega, by omega, c_133⟩) q.1 q.2.1 q.2.2.1 q.2.2.2.1 q.2.2.2.2.1 q.2.2.2.2.2) | exact la_c0 hLd (fun z => by exact z.1.elim (fun z => by omega) (fun z => by first | omega | exact c_133 z.2.2)))
                                        · skip
                                          refine E_iload 7 dX6_listAll_120 rfl ?_
                                          refine E_iload 5 dX6_listAll_122 rfl ?_
                                          refine Z_eq (c : Int) (b : Int) hxc hxb 147 dX6_listAll_124 (by decide) (fun c_124 => ?_) (fun c_124 => ?_)
                                          · skip
                                            refine E_iinc 7 (xc + 1) [(7, .int (xc + 1)), (0, .ref 61), (1, .int xs), (2, .int (mi 62 5)), (3, .int xk), (4, .int xa), (5, .int xb), (6, .int xv)] dX6_listAll_147 rfl rfl (by decide) rfl ?_
                                            refine E_goto 88 dX6_listAll_150 (by decide) ?_
                                            refine E_sub [1, 2, 3, 4, 5, 6, 7, 0] rfl ?_
                                            exact ih88 (xc + 1) xv (c + 1) md (by omega) ((tI_add hxc (show (1 : Int32).toInt = 1 from rfl) (by omega)).trans (by omega)) (by omega) (Or.inl ⟨hxs6.elim (fun q => q.1) (fun q => absurd (by rw [q.1]; rfl) c_105), hxs6.elim (fun q => q.2) (fun q => absurd (by rw [q.1]; rfl) c_105)⟩) (by first | exact hl_144.elim (fun q => by rw [← q.2]; exact la_c0 hLd (fun z => q.1 z.2)) (fun q => la_c1 hLd (by first | exact Or.inl (by omega) | exact Or.inr ⟨by omega, by omega, c_133⟩) q.1 q.2.1 q.2.2.1 q.2.2.2.1 q.2.2.2.2.1 q.2.2.2.2.2) | exact la_c0 hLd (fun z => by exact z.1.elim (fun z => by omega) (fun z => by first | omega | exact c_133 z.2.2)))
                                          · skip
                                            refine E_iload_n 1 dX6_listAll_127 rfl rfl ?_
                                            refine E_iload 7 dX6_listAll_128 rfl ?_
                                            refine E_callS (c_X6_has l hfl md ml xs xc s c (hxs.trans (by omega)) (hxc.trans (by omega)) (by omega) (by omega)) cw_X6_85 (As := [.int xs, .int xc]) (st := []) ws_yX6_has rfl ⟨Nat.le_of_ble_eq_true rfl, Nat.le_of_ble_eq_true rfl, Nat.le_of_ble_eq_true rfl, Nat.le_of_ble_eq_true rfl⟩ (Nat.le_of_ble_eq_true rfl) dX6_listAll_130 (fun _ _ h => h) rfl (kE ?_)
                                            refine B_eq 147 dX6_listAll_133 (by decide) (fun c_133 => ?_) (fun c_133 => ?_)
                                            · skip
                                              refine E_iinc 7 (xc + 1) [(7, .int (xc + 1)), (0, .ref 61), (1, .int xs), (2, .int (mi 62 5)), (3, .int xk), (4, .int xa), (5, .int xb), (6, .int xv)] dX6_listAll_147 rfl rfl (by decide) rfl ?_
                                              refine E_goto 88 dX6_listAll_150 (by decide) ?_
                                              refine E_sub [1, 2, 3, 4, 5, 6, 7, 0] rfl ?_
                                              exact ih88 (xc + 1) xv (c + 1) md (by omega) ((tI_add hxc (show (1 : Int32).toInt = 1 from rfl) (by omega)).trans (by omega)) (by omega) (Or.inl ⟨hxs6.elim (fun q => q.1) (fun q => absurd (by rw [q.1]; rfl) c_105), hxs6.elim (fun q => q.2) (fun q => absurd (by rw [q.1]; rfl) c_105)⟩) (by first | exact hl_144.elim (fun q => by rw [← q.2]; exact la_c0 hLd (fun z => q.1 z.2)) (fun q => la_c1 hLd (by first | exact Or.inl (by omega) | exact Or.inr ⟨by omega, by omega, c_133⟩) q.1 q.2.1 q.2.2.1 q.2.2.2.1 q.2.2.2.2.1 q.2.2.2.2.2) | exact la_c0 hLd (fun z => by exact z.1.elim (fun z => by omega) (fun z => by first | omega | exact c_133 z.2.2)))
                                            · skip
                                              refine E_aload_n 0 dX6_listAll_136 rfl rfl ?_
                                              refine E_iload_n 3 dX6_listAll_137 rfl rfl ?_
                                              refine E_iload 4 dX6_listAll_138 rfl ?_
                                              refine E_iload 5 dX6_listAll_140 rfl ?_
                                              refine E_iload 7 dX6_listAll_142 rfl ?_
                                              have hvB9 : vB s kd a b := hxs6.elim (fun q => q.2) (fun q => absurd (by rw [q.1]; rfl) c_105)
                                              have b1 := hvB9.1
                                              have b2 := hvB9.2.1
                                              refine E_callV (c_X6_lists l hfl md ml (mi 62 0).toInt.toNat (mi 62 1).toInt (mi 62 2).toInt (fun k => (mi 62 (6 + 2 * k)).toInt) (fun k => (mi 62 (7 + 2 * k)).toInt) n hset9 hrow9 (by omega) xk xa xb xc kd a b c (hxk.trans (by omega)) (hxa.trans (by omega)) (hxb.trans (by omega)) (hxc.trans (by omega)) (by omega) (by omega) (by omega) (by omega) (((stK (DV (mi 62)) s n kd ++ stA (DV (mi 62)) s n kd a ++ stB (DV (mi 62)) s n kd a b ++ stC (DV (mi 62)) s kd a b c)).length) hLd.2.2.1 (by simp only [List.length_append]; exact st_room h10 (by omega) (by omega) (by omega) (by omega) (by omega) (by omega))) cw_X6_101 (As := [.int xk, .int xa, .int xb, .int xc]) (st := []) wi_yX6_lists we_yX6_lists (ci := 6) (q := (RX6, TX6, 23)) rfl rfl (wl_atO tw_61) rfl ⟨Nat.le_of_ble_eq_true rfl, Nat.le_of_ble_eq_true rfl, Nat.le_of_ble_eq_true rfl, Nat.le_of_ble_eq_true rfl⟩ (Nat.le_of_ble_eq_true rfl) dX6_listAll_144 (fun _ _ h => h) rfl (kV (fun mi_144 ml_144 h_144 => ?_))
                                              obtain ⟨rfl, hl_144⟩ := h_144
                                              refine E_iinc 7 (xc + 1) [(7, .int (xc + 1)), (0, .ref 61), (1, .int xs), (2, .int (mi 62 5)), (3, .int xk), (4, .int xa), (5, .int xb), (6, .int xv)] dX6_listAll_147 rfl rfl (by decide) rfl ?_
                                              refine E_goto 88 dX6_listAll_150 (by decide) ?_
                                              refine E_sub [1, 2, 3, 4, 5, 6, 7, 0] rfl ?_
                                              exact ih88 (xc + 1) xv (c + 1) mi_144 (by omega) ((tI_add hxc (show (1 : Int32).toInt = 1 from rfl) (by omega)).trans (by omega)) (by omega) (Or.inl ⟨hxs6.elim (fun q => q.1) (fun q => absurd (by rw [q.1]; rfl) c_105), hxs6.elim (fun q => q.2) (fun q => absurd (by rw [q.1]; rfl) c_105)⟩) (by first | exact hl_144.elim (fun q => by rw [← q.2]; exact la_c0 hLd (fun z => q.1 z.2)) (fun q => la_c1 hLd (by first | exact Or.inl (by omega) | exact Or.inr ⟨by omega, by omega, c_133⟩) q.1 q.2.1 q.2.2.1 q.2.2.2.1 q.2.2.2.2.1 q.2.2.2.2.2) | exact la_c0 hLd (fun z => by exact z.1.elim (fun z => by omega) (fun z => by first | omega | exact c_133 z.2.2)))
                                · skip
                                  refine E_iload_n 2 dX6_listAll_95 rfl rfl ?_
                                  refine E_goto 100 dX6_listAll_96 (by decide) ?_
                                  refine Z_ge (c : Int) (n : Int) hxc hn 153 dX6_listAll_100 (by decide) (fun c_100 => ?_) (fun c_100 => ?_)
                                  · skip
                                    refine E_iinc 5 (xb + 1) [(5, .int (xb + 1)), (0, .ref 61), (1, .int xs), (2, .int (mi 62 5)), (3, .int xk), (4, .int xa), (6, .int xv), (7, .int xc)] dX6_listAll_153 rfl rfl (by decide) rfl ?_
                                    refine E_goto 47 dX6_listAll_156 (by decide) ?_
                                    refine E_sub [1, 2, 3, 4, 5, 0] rfl ?_
                                    exact ih47 (xb + 1) (b + 1) md (by omega) ((tI_add hxb (show (1 : Int32).toInt = 1 from rfl) (by omega)).trans (by omega)) (by omega) (by omega) (la_b hxs6 hLd (by first | exact Or.inl c_105 | exact Or.inr (by omega)))
                                  · skip
                                    refine E_iload 6 dX6_listAll_103 rfl ?_
                                    refine Y_eq xv.toInt rfl 153 dX6_listAll_105 (by decide) (fun c_105 => ?_) (fun c_105 => ?_)
                                    · skip
                                      refine E_iinc 5 (xb + 1) [(5, .int (xb + 1)), (0, .ref 61), (1, .int xs), (2, .int (mi 62 5)), (3, .int xk), (4, .int xa), (6, .int xv), (7, .int xc)] dX6_listAll_153 rfl rfl (by decide) rfl ?_
                                      refine E_goto 47 dX6_listAll_156 (by decide) ?_
                                      refine E_sub [1, 2, 3, 4, 5, 0] rfl ?_
                                      exact ih47 (xb + 1) (b + 1) md (by omega) ((tI_add hxb (show (1 : Int32).toInt = 1 from rfl) (by omega)).trans (by omega)) (by omega) (by omega) (la_b hxs6 hLd (by first | exact Or.inl c_105 | exact Or.inr (by omega)))
                                    · skip
                                      refine E_iload_n 3 dX6_listAll_108 rfl rfl ?_
                                      refine E_iconst 1 (by decide) dX6_listAll_109 ?_
                                      refine Z_ne (kd : Int) 1 hxk (show (1 : Int32).toInt = 1 from rfl) 136 dX6_listAll_110 (by decide) (fun c_110 => ?_) (fun c_110 => ?_)
                                      · skip
                                        refine E_aload_n 0 dX6_listAll_136 rfl rfl ?_
                                        refine E_iload_n 3 dX6_listAll_137 rfl rfl ?_
                                        refine E_iload 4 dX6_listAll_138 rfl ?_
                                        refine E_iload 5 dX6_listAll_140 rfl ?_
                                        refine E_iload 7 dX6_listAll_142 rfl ?_
                                        have hvB9 : vB s kd a b := hxs6.elim (fun q => q.2) (fun q => absurd (by rw [q.1]; rfl) c_105)
                                        have b1 := hvB9.1
                                        have b2 := hvB9.2.1
                                        refine E_callV (c_X6_lists l hfl md ml (mi 62 0).toInt.toNat (mi 62 1).toInt (mi 62 2).toInt (fun k => (mi 62 (6 + 2 * k)).toInt) (fun k => (mi 62 (7 + 2 * k)).toInt) n hset9 hrow9 (by omega) xk xa xb xc kd a b c (hxk.trans (by omega)) (hxa.trans (by omega)) (hxb.trans (by omega)) (hxc.trans (by omega)) (by omega) (by omega) (by omega) (by omega) (((stK (DV (mi 62)) s n kd ++ stA (DV (mi 62)) s n kd a ++ stB (DV (mi 62)) s n kd a b ++ stC (DV (mi 62)) s kd a b c)).length) hLd.2.2.1 (by simp only [List.length_append]; exact st_room h10 (by omega) (by omega) (by omega) (by omega) (by omega) (by omega))) cw_X6_101 (As := [.int xk, .int xa, .int xb, .int xc]) (st := []) wi_yX6_lists we_yX6_lists (ci := 6) (q := (RX6, TX6, 23)) rfl rfl (wl_atO tw_61) rfl ⟨Nat.le_of_ble_eq_true rfl, Nat.le_of_ble_eq_true rfl, Nat.le_of_ble_eq_true rfl, Nat.le_of_ble_eq_true rfl⟩ (Nat.le_of_ble_eq_true rfl) dX6_listAll_144 (fun _ _ h => h) rfl (kV (fun mi_144 ml_144 h_144 => ?_))
                                        obtain ⟨rfl, hl_144⟩ := h_144
                                        refine E_iinc 7 (xc + 1) [(7, .int (xc + 1)), (0, .ref 61), (1, .int xs), (2, .int (mi 62 5)), (3, .int xk), (4, .int xa), (5, .int xb), (6, .int xv)] dX6_listAll_147 rfl rfl (by decide) rfl ?_
                                        refine E_goto 88 dX6_listAll_150 (by decide) ?_
                                        refine E_sub [1, 2, 3, 4, 5, 6, 7, 0] rfl ?_
                                        exact ih88 (xc + 1) xv (c + 1) mi_144 (by omega) ((tI_add hxc (show (1 : Int32).toInt = 1 from rfl) (by omega)).trans (by omega)) (by omega) (Or.inl ⟨hxs6.elim (fun q => q.1) (fun q => absurd (by rw [q.1]; rfl) c_105), hxs6.elim (fun q => q.2) (fun q => absurd (by rw [q.1]; rfl) c_105)⟩) (by first | exact hl_144.elim (fun q => by rw [← q.2]; exact la_c0 hLd (fun z => q.1 z.2)) (fun q => la_c1 hLd (by first | exact Or.inl (by omega) | exact Or.inr ⟨by omega, by omega, c_133⟩) q.1 q.2.1 q.2.2.1 q.2.2.2.1 q.2.2.2.2.1 q.2.2.2.2.2) | exact la_c0 hLd (fun z => by exact z.1.elim (fun z => by omega) (fun z => by first | omega | exact c_133 z.2.2)))
                                      · skip
                                        refine E_iload 7 dX6_listAll_113 rfl ?_
                                        refine E_iload 4 dX6_listAll_115 rfl ?_
                                        refine Z_eq (c : Int) (a : Int) hxc hxa 147 dX6_listAll_117 (by decide) (fun c_117 => ?_) (fun c_117 => ?_)
                                        · skip
                                          refine E_iinc 7 (xc + 1) [(7, .int (xc + 1)), (0, .ref 61), (1, .int xs), (2, .int (mi 62 5)), (3, .int xk), (4, .int xa), (5, .int xb), (6, .int xv)] dX6_listAll_147 rfl rfl (by decide) rfl ?_
                                          refine E_goto 88 dX6_listAll_150 (by decide) ?_
                                          refine E_sub [1, 2, 3, 4, 5, 6, 7, 0] rfl ?_
                                          exact ih88 (xc + 1) xv (c + 1) md (by omega) ((tI_add hxc (show (1 : Int32).toInt = 1 from rfl) (by omega)).trans (by omega)) (by omega) (Or.inl ⟨hxs6.elim (fun q => q.1) (fun q => absurd (by rw [q.1]; rfl) c_105), hxs6.elim (fun q => q.2) (fun q => absurd (by rw [q.1]; rfl) c_105)⟩) (by first | exact hl_144.elim (fun q => by rw [← q.2]; exact la_c0 hLd (fun z => q.1 z.2)) (fun q => la_c1 hLd (by first | exact Or.inl (by omega) | exact Or.inr ⟨by omega, by omega, c_133⟩) q.1 q.2.1 q.2.2.1 q.2.2.2.1 q.2.2.2.2.1 q.2.2.2.2.2) | exact la_c0 hLd (fun z => by exact z.1.elim (fun z => by omega) (fun z => by first | omega | exact c_133 z.2.2)))
                                        · skip
                                          refine E_iload 7 dX6_listAll_120 rfl ?_
                                          refine E_iload 5 dX6_listAll_122 rfl ?_
                                          refine Z_eq (c : Int) (b : Int) hxc hxb 147 dX6_listAll_124 (by decide) (fun c_124 => ?_) (fun c_124 => ?_)
                                          · skip
                                            refine E_iinc 7 (xc + 1) [(7, .int (xc + 1)), (0, .ref 61), (1, .int xs), (2, .int (mi 62 5)), (3, .int xk), (4, .int xa), (5, .int xb), (6, .int xv)] dX6_listAll_147 rfl rfl (by decide) rfl ?_
                                            refine E_goto 88 dX6_listAll_150 (by decide) ?_
                                            refine E_sub [1, 2, 3, 4, 5, 6, 7, 0] rfl ?_
                                            exact ih88 (xc + 1) xv (c + 1) md (by omega) ((tI_add hxc (show (1 : Int32).toInt = 1 from rfl) (by omega)).trans (by omega)) (by omega) (Or.inl ⟨hxs6.elim (fun q => q.1) (fun q => absurd (by rw [q.1]; rfl) c_105), hxs6.elim (fun q => q.2) (fun q => absurd (by rw [q.1]; rfl) c_105)⟩) (by first | exact hl_144.elim (fun q => by rw [← q.2]; exact la_c0 hLd (fun z => q.1 z.2)) (fun q => la_c1 hLd (by first | exact Or.inl (by omega) | exact Or.inr ⟨by omega, by omega, c_133⟩) q.1 q.2.1 q.2.2.1 q.2.2.2.1 q.2.2.2.2.1 q.2.2.2.2.2) | exact la_c0 hLd (fun z => by exact z.1.elim (fun z => by omega) (fun z => by first | omega | exact c_133 z.2.2)))
                                          · skip
                                            refine E_iload_n 1 dX6_listAll_127 rfl rfl ?_
                                            refine E_iload 7 dX6_listAll_128 rfl ?_
                                            refine E_callS (c_X6_has l hfl md ml xs xc s c (hxs.trans (by omega)) (hxc.trans (by omega)) (by omega) (by omega)) cw_X6_85 (As := [.int xs, .int xc]) (st := []) ws_yX6_has rfl ⟨Nat.le_of_ble_eq_true rfl, Nat.le_of_ble_eq_true rfl, Nat.le_of_ble_eq_true rfl, Nat.le_of_ble_eq_true rfl⟩ (Nat.le_of_ble_eq_true rfl) dX6_listAll_130 (fun _ _ h => h) rfl (kE ?_)
                                            refine B_eq 147 dX6_listAll_133 (by decide) (fun c_133 => ?_) (fun c_133 => ?_)
                                            · skip
                                              refine E_iinc 7 (xc + 1) [(7, .int (xc + 1)), (0, .ref 61), (1, .int xs), (2, .int (mi 62 5)), (3, .int xk), (4, .int xa), (5, .int xb), (6, .int xv)] dX6_listAll_147 rfl rfl (by decide) rfl ?_
                                              refine E_goto 88 dX6_listAll_150 (by decide) ?_
                                              refine E_sub [1, 2, 3, 4, 5, 6, 7, 0] rfl ?_
                                              exact ih88 (xc + 1) xv (c + 1) md (by omega) ((tI_add hxc (show (1 : Int32).toInt = 1 from rfl) (by omega)).trans (by omega)) (by omega) (Or.inl ⟨hxs6.elim (fun q => q.1) (fun q => absurd (by rw [q.1]; rfl) c_105), hxs6.elim (fun q => q.2) (fun q => absurd (by rw [q.1]; rfl) c_105)⟩) (by first | exact hl_144.elim (fun q => by rw [← q.2]; exact la_c0 hLd (fun z => q.1 z.2)) (fun q => la_c1 hLd (by first | exact Or.inl (by omega) | exact Or.inr ⟨by omega, by omega, c_133⟩) q.1 q.2.1 q.2.2.1 q.2.2.2.1 q.2.2.2.2.1 q.2.2.2.2.2) | exact la_c0 hLd (fun z => by exact z.1.elim (fun z => by omega) (fun z => by first | omega | exact c_133 z.2.2)))
                                            · skip
                                              refine E_aload_n 0 dX6_listAll_136 rfl rfl ?_
                                              refine E_iload_n 3 dX6_listAll_137 rfl rfl ?_
                                              refine E_iload 4 dX6_listAll_138 rfl ?_
                                              refine E_iload 5 dX6_listAll_140 rfl ?_
                                              refine E_iload 7 dX6_listAll_142 rfl ?_
                                              have hvB9 : vB s kd a b := hxs6.elim (fun q => q.2) (fun q => absurd (by rw [q.1]; rfl) c_105)
                                              have b1 := hvB9.1
                                              have b2 := hvB9.2.1
                                              refine E_callV (c_X6_lists l hfl md ml (mi 62 0).toInt.toNat (mi 62 1).toInt (mi 62 2).toInt (fun k => (mi 62 (6 + 2 * k)).toInt) (fun k => (mi 62 (7 + 2 * k)).toInt) n hset9 hrow9 (by omega) xk xa xb xc kd a b c (hxk.trans (by omega)) (hxa.trans (by omega)) (hxb.trans (by omega)) (hxc.trans (by omega)) (by omega) (by omega) (by omega) (by omega) (((stK (DV (mi 62)) s n kd ++ stA (DV (mi 62)) s n kd a ++ stB (DV (mi 62)) s n kd a b ++ stC (DV (mi 62)) s kd a b c)).length) hLd.2.2.1 (by simp only [List.length_append]; exact st_room h10 (by omega) (by omega) (by omega) (by omega) (by omega) (by omega))) cw_X6_101 (As := [.int xk, .int xa, .int xb, .int xc]) (st := []) wi_yX6_lists we_yX6_lists (ci := 6) (q := (RX6, TX6, 23)) rfl rfl (wl_atO tw_61) rfl ⟨Nat.le_of_ble_eq_true rfl, Nat.le_of_ble_eq_true rfl, Nat.le_of_ble_eq_true rfl, Nat.le_of_ble_eq_true rfl⟩ (Nat.le_of_ble_eq_true rfl) dX6_listAll_144 (fun _ _ h => h) rfl (kV (fun mi_144 ml_144 h_144 => ?_))
                                              obtain ⟨rfl, hl_144⟩ := h_144
                                              refine E_iinc 7 (xc + 1) [(7, .int (xc + 1)), (0, .ref 61), (1, .int xs), (2, .int (mi 62 5)), (3, .int xk), (4, .int xa), (5, .int xb), (6, .int xv)] dX6_listAll_147 rfl rfl (by decide) rfl ?_
                                              refine E_goto 88 dX6_listAll_150 (by decide) ?_
                                              refine E_sub [1, 2, 3, 4, 5, 6, 7, 0] rfl ?_
                                              exact ih88 (xc + 1) xv (c + 1) mi_144 (by omega) ((tI_add hxc (show (1 : Int32).toInt = 1 from rfl) (by omega)).trans (by omega)) (by omega) (Or.inl ⟨hxs6.elim (fun q => q.1) (fun q => absurd (by rw [q.1]; rfl) c_105), hxs6.elim (fun q => q.2) (fun q => absurd (by rw [q.1]; rfl) c_105)⟩) (by first | exact hl_144.elim (fun q => by rw [← q.2]; exact la_c0 hLd (fun z => q.1 z.2)) (fun q => la_c1 hLd (by first | exact Or.inl (by omega) | exact Or.inr ⟨by omega, by omega, c_133⟩) q.1 q.2.1 q.2.2.1 q.2.2.2.1 q.2.2.2.2.1 q.2.2.2.2.2) | exact la_c0 hLd (fun z => by exact z.1.elim (fun z => by omega) (fun z => by first | omega | exact c_133 z.2.2)))
                            refine E_sub [2, 3, 4, 5, 6, 7, 1, 0] rfl ?_
                            exact J88 _ 0 1 0 mc (Nat.lt_succ_self _) (show (0 : Int32).toInt = 0 from rfl) (by omega) (by first | exact Or.inl ⟨rfl, vB_t hkab c_57 c_66 c_75⟩ | exact Or.inr ⟨rfl, fun q => c_66 q.2.2.1, rfl⟩ | exact Or.inr ⟨rfl, fun q => c_75 q.2.2.2, rfl⟩ | exact Or.inr ⟨rfl, fun q => q.2.1 (by omega), rfl⟩) (by rw [show stC (DV (mi 62)) s kd a b 0 = [] from rfl, List.append_nil]; exact hLc)
                refine E_sub [1, 2, 3, 4, 5, 0] rfl ?_
                exact J47 _ 0 0 mb (Nat.lt_succ_self _) ((show (0 : Int32).toInt = 0 from rfl).trans (by omega)) (by omega) (by omega) (by rw [show stB (DV (mi 62)) s n kd a 0 = [] from rfl, List.append_nil]; exact hLb)
              · skip
                refine E_iload 4 dX6_listAll_37 rfl ?_
                refine E_iconst 1 (by decide) dX6_listAll_39 ?_
                refine E_iadd dX6_listAll_40 ?_
                refine E_goto 45 dX6_listAll_41 (by decide) ?_
                refine E_istore [(5, .int (xa + 1)), (0, .ref 61), (1, .int xs), (2, .int (mi 62 5)), (3, .int xk), (4, .int xa)] dX6_listAll_45 (by decide) rfl ?_
                have J47 : ∀ (N : Nat) (xb : Int32) (b : Nat) (mc : MI), n - b < N → xb.toInt = (b : Int) → b ≤ n → (kd = 1 → a < b) → LsP (DV (mi 62)) mi_1 mc (stK (DV (mi 62)) s n kd ++ stA (DV (mi 62)) s n kd a ++ stB (DV (mi 62)) s n kd a b) → E l RX6 cX6_listAll 8 none false [] (rmE 4 0 0) (wl mi ml) (TgM (wl mi ml) 0 0 (QV (fun mi9 ml9 => ml = ml9 ∧ Fr [61, 65, 66, 67] mi mi9 ∧ (∀ k, k ≠ 9 → mi9 61 k = mi 61 k) ∧ (mi9 61 9).toInt = ((stK (DV (mi 62)) s n 3).length : Int) ∧ encd (DV (mi 62)) (mi9 67) (stK (DV (mi 62)) s n 3))) noX) 0 0 47 [(0, .ref 61), (1, .int xs), (2, .int (mi 62 5)), (3, .int xk), (4, .int xa), (5, .int xb)] [] (wl mc ml) := by
                  intro N
                  induction N with
                  | zero => intros; omega
                  | succ N ih47 =>
                    intro xb b mc hN47 hxb hb hkab hLc
                    refine E_iload 5 dX6_listAll_47 rfl ?_
                    refine E_iload_n 2 dX6_listAll_49 rfl rfl ?_
                    refine Z_ge (b : Int) (n : Int) hxb hn 159 dX6_listAll_50 (by decide) (fun c_50 => ?_) (fun c_50 => ?_)
                    · skip
                      refine E_iinc 4 (xa + 1) [(4, .int (xa + 1)), (0, .ref 61), (1, .int xs), (2, .int (mi 62 5)), (3, .int xk), (5, .int xb)] dX6_listAll_159 rfl rfl (by decide) rfl ?_
                      refine E_goto 26 dX6_listAll_162 (by decide) ?_
                      refine E_sub [1, 2, 3, 4, 0] rfl ?_
                      exact ih26 (xa + 1) (a + 1) mc (by omega) ((tI_add hxa (show (1 : Int32).toInt = 1 from rfl) (by omega)).trans (by omega)) (by omega) (la_a hLc (by omega))
                    · skip
                      refine E_iload 4 dX6_listAll_53 rfl ?_
                      refine E_iload 5 dX6_listAll_55 rfl ?_
                      refine Z_eq (a : Int) (b : Int) hxa hxb 82 dX6_listAll_57 (by decide) (fun c_57 => ?_) (fun c_57 => ?_)
                      · skip
                        refine E_iconst 0 (by decide) dX6_listAll_82 ?_
                        refine E_istore [(6, .int 0), (0, .ref 61), (1, .int xs), (2, .int (mi 62 5)), (3, .int xk), (4, .int xa), (5, .int xb)] dX6_listAll_83 (by decide) rfl ?_
                        refine E_iconst 0 (by decide) dX6_listAll_85 ?_
                        refine E_istore [(7, .int 0), (6, .int 0), (0, .ref 61), (1, .int xs), (2, .int (mi 62 5)), (3, .int xk), (4, .int xa), (5, .int xb)] dX6_listAll_86 (by decide) rfl ?_
                        have J88 : ∀ (N : Nat) (xc xv : Int32) (c : Nat) (md : MI), n + 1 - c < N → xc.toInt = (c : Int) → c ≤ nCs n kd → ((xv = 1 ∧ vB s kd a b) ∨ (xv = 0 ∧ ¬ vB s kd a b ∧ c = 0)) → LsP (DV (mi 62)) mi_1 md (stK (DV (mi 62)) s n kd ++ stA (DV (mi 62)) s n kd a ++ stB (DV (mi 62)) s n kd a b ++ stC (DV (mi 62)) s kd a b c) → E l RX6 cX6_listAll 8 none false [] (rmE 4 0 0) (wl mi ml) (TgM (wl mi ml) 0 0 (QV (fun mi9 ml9 => ml = ml9 ∧ Fr [61, 65, 66, 67] mi mi9 ∧ (∀ k, k ≠ 9 → mi9 61 k = mi 61 k) ∧ (mi9 61 9).toInt = ((stK (DV (mi 62)) s n 3).length : Int) ∧ encd (DV (mi 62)) (mi9 67) (stK (DV (mi 62)) s n 3))) noX) 0 0 88 [(0, .ref 61), (1, .int xs), (2, .int (mi 62 5)), (3, .int xk), (4, .int xa), (5, .int xb), (6, .int xv), (7, .int xc)] [] (wl md ml) := by
                          intro N
                          induction N with
                          | zero => intros; omega
                          | succ N ih88 =>
                            intro xc xv c md hN88 hxc hc hxs6 hLd
                            have hbnd : (kd = 1 ∧ nCs n kd = n) ∨ (kd ≠ 1 ∧ nCs n kd = 1) := by unfold nCs; split <;> omega
                            have hset9 : SetM md (DV (mi 62)) := (SetM_of hwf).c ((hLd.1 62 (by decide)).trans (hFr_1 62 (by decide)))
                            have hrow9 := hrow1.c (hLd.1 65 (by decide)) (hLd.1 66 (by decide))
                            refine E_iload 7 dX6_listAll_88 rfl ?_
                            refine E_iload_n 3 dX6_listAll_90 rfl rfl ?_
                            refine E_iconst 1 (by decide) dX6_listAll_91 ?_
                            refine Z_ne (kd : Int) 1 hxk (show (1 : Int32).toInt = 1 from rfl) 99 dX6_listAll_92 (by decide) (fun c_92 => ?_) (fun c_92 => ?_)
                            · skip
                              refine E_iconst 1 (by decide) dX6_listAll_99 ?_
                              refine Z_ge (c : Int) 1 hxc (show (1 : Int32).toInt = 1 from rfl) 153 dX6_listAll_100 (by decide) (fun c_100 => ?_) (fun c_100 => ?_)
                              · skip
                                refine E_iinc 5 (xb + 1) [(5, .int (xb + 1)), (0, .ref 61), (1, .int xs), (2, .int (mi 62 5)), (3, .int xk), (4, .int xa), (6, .int xv), (7, .int xc)] dX6_listAll_153 rfl rfl (by decide) rfl ?_
                                refine E_goto 47 dX6_listAll_156 (by decide) ?_
                                refine E_sub [1, 2, 3, 4, 5, 0] rfl ?_
                                exact ih47 (xb + 1) (b + 1) md (by omega) ((tI_add hxb (show (1 : Int32).toInt = 1 from rfl) (by omega)).trans (by omega)) (by omega) (by omega) (la_b hxs6 hLd (by first | exact Or.inl c_105 | exact Or.inr (by omega)))
                              · skip
                                refine E_iload 6 dX6_listAll_103 rfl ?_
                                refine Y_eq xv.toInt rfl 153 dX6_listAll_105 (by decide) (fun c_105 => ?_) (fun c_105 => ?_)
                                · skip
                                  refine E_iinc 5 (xb + 1) [(5, .int (xb + 1)), (0, .ref 61), (1, .int xs), (2, .int (mi 62 5)), (3, .int xk), (4, .int xa), (6, .int xv), (7, .int xc)] dX6_listAll_153 rfl rfl (by decide) rfl ?_
                                  refine E_goto 47 dX6_listAll_156 (by decide) ?_
                                  refine E_sub [1, 2, 3, 4, 5, 0] rfl ?_
                                  exact ih47 (xb + 1) (b + 1) md (by omega) ((tI_add hxb (show (1 : Int32).toInt = 1 from rfl) (by omega)).trans (by omega)) (by omega) (by omega) (la_b hxs6 hLd (by first | exact Or.inl c_105 | exact Or.inr (by omega)))
                                · skip
                                  refine E_iload_n 3 dX6_listAll_108 rfl rfl ?_
                                  refine E_iconst 1 (by decide) dX6_listAll_109 ?_
                                  refine Z_ne (kd : Int) 1 hxk (show (1 : Int32).toInt = 1 from rfl) 136 dX6_listAll_110 (by decide) (fun c_110 => ?_) (fun c_110 => ?_)
                                  · skip
                                    refine E_aload_n 0 dX6_listAll_136 rfl rfl ?_
                                    refine E_iload_n 3 dX6_listAll_137 rfl rfl ?_
                                    refine E_iload 4 dX6_listAll_138 rfl ?_
                                    refine E_iload 5 dX6_listAll_140 rfl ?_
                                    refine E_iload 7 dX6_listAll_142 rfl ?_
                                    have hvB9 : vB s kd a b := hxs6.elim (fun q => q.2) (fun q => absurd (by rw [q.1]; rfl) c_105)
                                    have b1 := hvB9.1
                                    have b2 := hvB9.2.1
                                    refine E_callV (c_X6_lists l hfl md ml (mi 62 0).toInt.toNat (mi 62 1).toInt (mi 62 2).toInt (fun k => (mi 62 (6 + 2 * k)).toInt) (fun k => (mi 62 (7 + 2 * k)).toInt) n hset9 hrow9 (by omega) xk xa xb xc kd a b c (hxk.trans (by omega)) (hxa.trans (by omega)) (hxb.trans (by omega)) (hxc.trans (by omega)) (by omega) (by omega) (by omega) (by omega) (((stK (DV (mi 62)) s n kd ++ stA (DV (mi 62)) s n kd a ++ stB (DV (mi 62)) s n kd a b ++ stC (DV (mi 62)) s kd a b c)).length) hLd.2.2.1 (by simp only [List.length_append]; exact st_room h10 (by omega) (by omega) (by omega) (by omega) (by omega) (by omega))) cw_X6_101 (As := [.int xk, .int xa, .int xb, .int xc]) (st := []) wi_yX6_lists we_yX6_lists (ci := 6) (q := (RX6, TX6, 23)) rfl rfl (wl_atO tw_61) rfl ⟨Nat.le_of_ble_eq_true rfl, Nat.le_of_ble_eq_true rfl, Nat.le_of_ble_eq_true rfl, Nat.le_of_ble_eq_true rfl⟩ (Nat.le_of_ble_eq_true rfl) dX6_listAll_144 (fun _ _ h => h) rfl (kV (fun mi_144 ml_144 h_144 => ?_))
                                    obtain ⟨rfl, hl_144⟩ := h_144
                                    refine E_iinc 7 (xc + 1) [(7, .int (xc + 1)), (0, .ref 61), (1, .int xs), (2, .int (mi 62 5)), (3, .int xk), (4, .int xa), (5, .int xb), (6, .int xv)] dX6_listAll_147 rfl rfl (by decide) rfl ?_
                                    refine E_goto 88 dX6_listAll_150 (by decide) ?_
                                    refine E_sub [1, 2, 3, 4, 5, 6, 7, 0] rfl ?_
                                    exact ih88 (xc + 1) xv (c + 1) mi_144 (by omega) ((tI_add hxc (show (1 : Int32).toInt = 1 from rfl) (by omega)).trans (by omega)) (by omega) (Or.inl ⟨hxs6.elim (fun q => q.1) (fun q => absurd (by rw [q.1]; rfl) c_105), hxs6.elim (fun q => q.2) (fun q => absurd (by rw [q.1]; rfl) c_105)⟩) (by first | exact hl_144.elim (fun q => by rw [← q.2]; exact la_c0 hLd (fun z => q.1 z.2)) (fun q => la_c1 hLd (by first | exact Or.inl (by omega) | exact Or.inr ⟨by omega, by omega, c_133⟩) q.1 q.2.1 q.2.2.1 q.2.2.2.1 q.2.2.2.2.1 q.2.2.2.2.2) | exact la_c0 hLd (fun z => by exact z.1.elim (fun z => by omega) (fun z => by first | omega | exact c_133 z.2.2)))
                                  · skip
                                    refine E_iload 7 dX6_listAll_113 rfl ?_
                                    refine E_iload 4 dX6_listAll_115 rfl ?_
                                    refine Z_eq (c : Int) (a : Int) hxc hxa 147 dX6_listAll_117 (by decide) (fun c_117 => ?_) (fun c_117 => ?_)
                                    · skip
                                      refine E_iinc 7 (xc + 1) [(7, .int (xc + 1)), (0, .ref 61), (1, .int xs), (2, .int (mi 62 5)), (3, .int xk), (4, .int xa), (5, .int xb), (6, .int xv)] dX6_listAll_147 rfl rfl (by decide) rfl ?_
                                      refine E_goto 88 dX6_listAll_150 (by decide) ?_
                                      refine E_sub [1, 2, 3, 4, 5, 6, 7, 0] rfl ?_
                                      exact ih88 (xc + 1) xv (c + 1) md (by omega) ((tI_add hxc (show (1 : Int32).toInt = 1 from rfl) (by omega)).trans (by omega)) (by omega) (Or.inl ⟨hxs6.elim (fun q => q.1) (fun q => absurd (by rw [q.1]; rfl) c_105), hxs6.elim (fun q => q.2) (fun q => absurd (by rw [q.1]; rfl) c_105)⟩) (by first | exact hl_144.elim (fun q => by rw [← q.2]; exact la_c0 hLd (fun z => q.1 z.2)) (fun q => la_c1 hLd (by first | exact Or.inl (by omega) | exact Or.inr ⟨by omega, by omega, c_133⟩) q.1 q.2.1 q.2.2.1 q.2.2.2.1 q.2.2.2.2.1 q.2.2.2.2.2) | exact la_c0 hLd (fun z => by exact z.1.elim (fun z => by omega) (fun z => by first | omega | exact c_133 z.2.2)))
                                    · skip
                                      refine E_iload 7 dX6_listAll_120 rfl ?_
                                      refine E_iload 5 dX6_listAll_122 rfl ?_
                                      refine Z_eq (c : Int) (b : Int) hxc hxb 147 dX6_listAll_124 (by decide) (fun c_124 => ?_) (fun c_124 => ?_)
                                      · skip
                                        refine E_iinc 7 (xc + 1) [(7, .int (xc + 1)), (0, .ref 61), (1, .int xs), (2, .int (mi 62 5)), (3, .int xk), (4, .int xa), (5, .int xb), (6, .int xv)] dX6_listAll_147 rfl rfl (by decide) rfl ?_
                                        refine E_goto 88 dX6_listAll_150 (by decide) ?_
                                        refine E_sub [1, 2, 3, 4, 5, 6, 7, 0] rfl ?_
                                        exact ih88 (xc + 1) xv (c + 1) md (by omega) ((tI_add hxc (show (1 : Int32).toInt = 1 from rfl) (by omega)).trans (by omega)) (by omega) (Or.inl ⟨hxs6.elim (fun q => q.1) (fun q => absurd (by rw [q.1]; rfl) c_105), hxs6.elim (fun q => q.2) (fun q => absurd (by rw [q.1]; rfl) c_105)⟩) (by first | exact hl_144.elim (fun q => by rw [← q.2]; exact la_c0 hLd (fun z => q.1 z.2)) (fun q => la_c1 hLd (by first | exact Or.inl (by omega) | exact Or.inr ⟨by omega, by omega, c_133⟩) q.1 q.2.1 q.2.2.1 q.2.2.2.1 q.2.2.2.2.1 q.2.2.2.2.2) | exact la_c0 hLd (fun z => by exact z.1.elim (fun z => by omega) (fun z => by first | omega | exact c_133 z.2.2)))
                                      · skip
                                        refine E_iload_n 1 dX6_listAll_127 rfl rfl ?_
                                        refine E_iload 7 dX6_listAll_128 rfl ?_
                                        refine E_callS (c_X6_has l hfl md ml xs xc s c (hxs.trans (by omega)) (hxc.trans (by omega)) (by omega) (by omega)) cw_X6_85 (As := [.int xs, .int xc]) (st := []) ws_yX6_has rfl ⟨Nat.le_of_ble_eq_true rfl, Nat.le_of_ble_eq_true rfl, Nat.le_of_ble_eq_true rfl, Nat.le_of_ble_eq_true rfl⟩ (Nat.le_of_ble_eq_true rfl) dX6_listAll_130 (fun _ _ h => h) rfl (kE ?_)
                                        refine B_eq 147 dX6_listAll_133 (by decide) (fun c_133 => ?_) (fun c_133 => ?_)
                                        · skip
                                          refine E_iinc 7 (xc + 1) [(7, .int (xc + 1)), (0, .ref 61), (1, .int xs), (2, .int (mi 62 5)), (3, .int xk), (4, .int xa), (5, .int xb), (6, .int xv)] dX6_listAll_147 rfl rfl (by decide) rfl ?_
                                          refine E_goto 88 dX6_listAll_150 (by decide) ?_
                                          refine E_sub [1, 2, 3, 4, 5, 6, 7, 0] rfl ?_
                                          exact ih88 (xc + 1) xv (c + 1) md (by omega) ((tI_add hxc (show (1 : Int32).toInt = 1 from rfl) (by omega)).trans (by omega)) (by omega) (Or.inl ⟨hxs6.elim (fun q => q.1) (fun q => absurd (by rw [q.1]; rfl) c_105), hxs6.elim (fun q => q.2) (fun q => absurd (by rw [q.1]; rfl) c_105)⟩) (by first | exact hl_144.elim (fun q => by rw [← q.2]; exact la_c0 hLd (fun z => q.1 z.2)) (fun q => la_c1 hLd (by first | exact Or.inl (by omega) | exact Or.inr ⟨by omega, by omega, c_133⟩) q.1 q.2.1 q.2.2.1 q.2.2.2.1 q.2.2.2.2.1 q.2.2.2.2.2) | exact la_c0 hLd (fun z => by exact z.1.elim (fun z => by omega) (fun z => by first | omega | exact c_133 z.2.2)))
                                        · skip
                                          refine E_aload_n 0 dX6_listAll_136 rfl rfl ?_
                                          refine E_iload_n 3 dX6_listAll_137 rfl rfl ?_
                                          refine E_iload 4 dX6_listAll_138 rfl ?_
                                          refine E_iload 5 dX6_listAll_140 rfl ?_
                                          refine E_iload 7 dX6_listAll_142 rfl ?_
                                          have hvB9 : vB s kd a b := hxs6.elim (fun q => q.2) (fun q => absurd (by rw [q.1]; rfl) c_105)
                                          have b1 := hvB9.1
                                          have b2 := hvB9.2.1
                                          refine E_callV (c_X6_lists l hfl md ml (mi 62 0).toInt.toNat (mi 62 1).toInt (mi 62 2).toInt (fun k => (mi 62 (6 + 2 * k)).toInt) (fun k => (mi 62 (7 + 2 * k)).toInt) n hset9 hrow9 (by omega) xk xa xb xc kd a b c (hxk.trans (by omega)) (hxa.trans (by omega)) (hxb.trans (by omega)) (hxc.trans (by omega)) (by omega) (by omega) (by omega) (by omega) (((stK (DV (mi 62)) s n kd ++ stA (DV (mi 62)) s n kd a ++ stB (DV (mi 62)) s n kd a b ++ stC (DV (mi 62)) s kd a b c)).length) hLd.2.2.1 (by simp only [List.length_append]; exact st_room h10 (by omega) (by omega) (by omega) (by omega) (by omega) (by omega))) cw_X6_101 (As := [.int xk, .int xa, .int xb, .int xc]) (st := []) wi_yX6_lists we_yX6_lists (ci := 6) (q := (RX6, TX6, 23)) rfl rfl (wl_atO tw_61) rfl ⟨Nat.le_of_ble_eq_true rfl, Nat.le_of_ble_eq_true rfl, Nat.le_of_ble_eq_true rfl, Nat.le_of_ble_eq_true rfl⟩ (Nat.le_of_ble_eq_true rfl) dX6_listAll_144 (fun _ _ h => h) rfl (kV (fun mi_144 ml_144 h_144 => ?_))
                                          obtain ⟨rfl, hl_144⟩ := h_144
                                          refine E_iinc 7 (xc + 1) [(7, .int (xc + 1)), (0, .ref 61), (1, .int xs), (2, .int (mi 62 5)), (3, .int xk), (4, .int xa), (5, .int xb), (6, .int xv)] dX6_listAll_147 rfl rfl (by decide) rfl ?_
                                          refine E_goto 88 dX6_listAll_150 (by decide) ?_
                                          refine E_sub [1, 2, 3, 4, 5, 6, 7, 0] rfl ?_
                                          exact ih88 (xc + 1) xv (c + 1) mi_144 (by omega) ((tI_add hxc (show (1 : Int32).toInt = 1 from rfl) (by omega)).trans (by omega)) (by omega) (Or.inl ⟨hxs6.elim (fun q => q.1) (fun q => absurd (by rw [q.1]; rfl) c_105), hxs6.elim (fun q => q.2) (fun q => absurd (by rw [q.1]; rfl) c_105)⟩) (by first | exact hl_144.elim (fun q => by rw [← q.2]; exact la_c0 hLd (fun z => q.1 z.2)) (fun q => la_c1 hLd (by first | exact Or.inl (by omega) | exact Or.inr ⟨by omega, by omega, c_133⟩) q.1 q.2.1 q.2.2.1 q.2.2.2.1 q.2.2.2.2.1 q.2.2.2.2.2) | exact la_c0 hLd (fun z => by exact z.1.elim (fun z => by omega) (fun z => by first | omega | exact c_133 z.2.2)))
                            · skip
                              refine E_iload_n 2 dX6_listAll_95 rfl rfl ?_
                              refine E_goto 100 dX6_listAll_96 (by decide) ?_
                              refine Z_ge (c : Int) (n : Int) hxc hn 153 dX6_listAll_100 (by decide) (fun c_100 => ?_) (fun c_100 => ?_)
                              · skip
                                refine E_iinc 5 (xb + 1) [(5, .int (xb + 1)), (0, .ref 61), (1, .int xs), (2, .int (mi 62 5)), (3, .int xk), (4, .int xa), (6, .int xv), (7, .int xc)] dX6_listAll_153 rfl rfl (by decide) rfl ?_
                                refine E_goto 47 dX6_listAll_156 (by decide) ?_
                                refine E_sub [1, 2, 3, 4, 5, 0] rfl ?_
                                exact ih47 (xb + 1) (b + 1) md (by omega) ((tI_add hxb (show (1 : Int32).toInt = 1 from rfl) (by omega)).trans (by omega)) (by omega) (by omega) (la_b hxs6 hLd (by first | exact Or.inl c_105 | exact Or.inr (by omega)))
                              · skip
                                refine E_iload 6 dX6_listAll_103 rfl ?_
                                refine Y_eq xv.toInt rfl 153 dX6_listAll_105 (by decide) (fun c_105 => ?_) (fun c_105 => ?_)
                                · skip
                                  refine E_iinc 5 (xb + 1) [(5, .int (xb + 1)), (0, .ref 61), (1, .int xs), (2, .int (mi 62 5)), (3, .int xk), (4, .int xa), (6, .int xv), (7, .int xc)] dX6_listAll_153 rfl rfl (by decide) rfl ?_
                                  refine E_goto 47 dX6_listAll_156 (by decide) ?_
                                  refine E_sub [1, 2, 3, 4, 5, 0] rfl ?_
                                  exact ih47 (xb + 1) (b + 1) md (by omega) ((tI_add hxb (show (1 : Int32).toInt = 1 from rfl) (by omega)).trans (by omega)) (by omega) (by omega) (la_b hxs6 hLd (by first | exact Or.inl c_105 | exact Or.inr (by omega)))
                                · skip
                                  refine E_iload_n 3 dX6_listAll_108 rfl rfl ?_
                                  refine E_iconst 1 (by decide) dX6_listAll_109 ?_
                                  refine Z_ne (kd : Int) 1 hxk (show (1 : Int32).toInt = 1 from rfl) 136 dX6_listAll_110 (by decide) (fun c_110 => ?_) (fun c_110 => ?_)
                                  · skip
                                    refine E_aload_n 0 dX6_listAll_136 rfl rfl ?_
                                    refine E_iload_n 3 dX6_listAll_137 rfl rfl ?_
                                    refine E_iload 4 dX6_listAll_138 rfl ?_
                                    refine E_iload 5 dX6_listAll_140 rfl ?_
                                    refine E_iload 7 dX6_listAll_142 rfl ?_
                                    have hvB9 : vB s kd a b := hxs6.elim (fun q => q.2) (fun q => absurd (by rw [q.1]; rfl) c_105)
                                    have b1 := hvB9.1
                                    have b2 := hvB9.2.1
                                    refine E_callV (c_X6_lists l hfl md ml (mi 62 0).toInt.toNat (mi 62 1).toInt (mi 62 2).toInt (fun k => (mi 62 (6 + 2 * k)).toInt) (fun k => (mi 62 (7 + 2 * k)).toInt) n hset9 hrow9 (by omega) xk xa xb xc kd a b c (hxk.trans (by omega)) (hxa.trans (by omega)) (hxb.trans (by omega)) (hxc.trans (by omega)) (by omega) (by omega) (by omega) (by omega) (((stK (DV (mi 62)) s n kd ++ stA (DV (mi 62)) s n kd a ++ stB (DV (mi 62)) s n kd a b ++ stC (DV (mi 62)) s kd a b c)).length) hLd.2.2.1 (by simp only [List.length_append]; exact st_room h10 (by omega) (by omega) (by omega) (by omega) (by omega) (by omega))) cw_X6_101 (As := [.int xk, .int xa, .int xb, .int xc]) (st := []) wi_yX6_lists we_yX6_lists (ci := 6) (q := (RX6, TX6, 23)) rfl rfl (wl_atO tw_61) rfl ⟨Nat.le_of_ble_eq_true rfl, Nat.le_of_ble_eq_true rfl, Nat.le_of_ble_eq_true rfl, Nat.le_of_ble_eq_true rfl⟩ (Nat.le_of_ble_eq_true rfl) dX6_listAll_144 (fun _ _ h => h) rfl (kV (fun mi_144 ml_144 h_144 => ?_))
                                    obtain ⟨rfl, hl_144⟩ := h_144
                                    refine E_iinc 7 (xc + 1) [(7, .int (xc + 1)), (0, .ref 61), (1, .int xs), (2, .int (mi 62 5)), (3, .int xk), (4, .int xa), (5, .int xb), (6, .int xv)] dX6_listAll_147 rfl rfl (by decide) rfl ?_
                                    refine E_goto 88 dX6_listAll_150 (by decide) ?_
                                    refine E_sub [1, 2, 3, 4, 5, 6, 7, 0] rfl ?_
                                    exact ih88 (xc + 1) xv (c + 1) mi_144 (by omega) ((tI_add hxc (show (1 : Int32).toInt = 1 from rfl) (by omega)).trans (by omega)) (by omega) (Or.inl ⟨hxs6.elim (fun q => q.1) (fun q => absurd (by rw [q.1]; rfl) c_105), hxs6.elim (fun q => q.2) (fun q => absurd (by rw [q.1]; rfl) c_105)⟩) (by first | exact hl_144.elim (fun q => by rw [← q.2]; exact la_c0 hLd (fun z => q.1 z.2)) (fun q => la_c1 hLd (by first | exact Or.inl (by omega) | exact Or.inr ⟨by omega, by omega, c_133⟩) q.1 q.2.1 q.2.2.1 q.2.2.2.1 q.2.2.2.2.1 q.2.2.2.2.2) | exact la_c0 hLd (fun z => by exact z.1.elim (fun z => by omega) (fun z => by first | omega | exact c_133 z.2.2)))
                                  · skip
                                    refine E_iload 7 dX6_listAll_113 rfl ?_
                                    refine E_iload 4 dX6_listAll_115 rfl ?_
                                    refine Z_eq (c : Int) (a : Int) hxc hxa 147 dX6_listAll_117 (by decide) (fun c_117 => ?_) (fun c_117 => ?_)
                                    · skip
                                      refine E_iinc 7 (xc + 1) [(7, .int (xc + 1)), (0, .ref 61), (1, .int xs), (2, .int (mi 62 5)), (3, .int xk), (4, .int xa), (5, .int xb), (6, .int xv)] dX6_listAll_147 rfl rfl (by decide) rfl ?_
                                      refine E_goto 88 dX6_listAll_150 (by decide) ?_
                                      refine E_sub [1, 2, 3, 4, 5, 6, 7, 0] rfl ?_
                                      exact ih88 (xc + 1) xv (c + 1) md (by omega) ((tI_add hxc (show (1 : Int32).toInt = 1 from rfl) (by omega)).trans (by omega)) (by omega) (Or.inl ⟨hxs6.elim (fun q => q.1) (fun q => absurd (by rw [q.1]; rfl) c_105), hxs6.elim (fun q => q.2) (fun q => absurd (by rw [q.1]; rfl) c_105)⟩) (by first | exact hl_144.elim (fun q => by rw [← q.2]; exact la_c0 hLd (fun z => q.1 z.2)) (fun q => la_c1 hLd (by first | exact Or.inl (by omega) | exact Or.inr ⟨by omega, by omega, c_133⟩) q.1 q.2.1 q.2.2.1 q.2.2.2.1 q.2.2.2.2.1 q.2.2.2.2.2) | exact la_c0 hLd (fun z => by exact z.1.elim (fun z => by omega) (fun z => by first | omega | exact c_133 z.2.2)))
                                    · skip
                                      refine E_iload 7 dX6_listAll_120 rfl ?_
                                      refine E_iload 5 dX6_listAll_122 rfl ?_
                                      refine Z_eq (c : Int) (b : Int) hxc hxb 147 dX6_listAll_124 (by decide) (fun c_124 => ?_) (fun c_124 => ?_)
                                      · skip
                                        refine E_iinc 7 (xc + 1) [(7, .int (xc + 1)), (0, .ref 61), (1, .int xs), (2, .int (mi 62 5)), (3, .int xk), (4, .int xa), (5, .int xb), (6, .int xv)] dX6_listAll_147 rfl rfl (by decide) rfl ?_
                                        refine E_goto 88 dX6_listAll_150 (by decide) ?_
                                        refine E_sub [1, 2, 3, 4, 5, 6, 7, 0] rfl ?_
                                        exact ih88 (xc + 1) xv (c + 1) md (by omega) ((tI_add hxc (show (1 : Int32).toInt = 1 from rfl) (by omega)).trans (by omega)) (by omega) (Or.inl ⟨hxs6.elim (fun q => q.1) (fun q => absurd (by rw [q.1]; rfl) c_105), hxs6.elim (fun q => q.2) (fun q => absurd (by rw [q.1]; rfl) c_105)⟩) (by first | exact hl_144.elim (fun q => by rw [← q.2]; exact la_c0 hLd (fun z => q.1 z.2)) (fun q => la_c1 hLd (by first | exact Or.inl (by omega) | exact Or.inr ⟨by omega, by omega, c_133⟩) q.1 q.2.1 q.2.2.1 q.2.2.2.1 q.2.2.2.2.1 q.2.2.2.2.2) | exact la_c0 hLd (fun z => by exact z.1.elim (fun z => by omega) (fun z => by first | omega | exact c_133 z.2.2)))
                                      · skip
                                        refine E_iload_n 1 dX6_listAll_127 rfl rfl ?_
                                        refine E_iload 7 dX6_listAll_128 rfl ?_
                                        refine E_callS (c_X6_has l hfl md ml xs xc s c (hxs.trans (by omega)) (hxc.trans (by omega)) (by omega) (by omega)) cw_X6_85 (As := [.int xs, .int xc]) (st := []) ws_yX6_has rfl ⟨Nat.le_of_ble_eq_true rfl, Nat.le_of_ble_eq_true rfl, Nat.le_of_ble_eq_true rfl, Nat.le_of_ble_eq_true rfl⟩ (Nat.le_of_ble_eq_true rfl) dX6_listAll_130 (fun _ _ h => h) rfl (kE ?_)
                                        refine B_eq 147 dX6_listAll_133 (by decide) (fun c_133 => ?_) (fun c_133 => ?_)
                                        · skip
                                          refine E_iinc 7 (xc + 1) [(7, .int (xc + 1)), (0, .ref 61), (1, .int xs), (2, .int (mi 62 5)), (3, .int xk), (4, .int xa), (5, .int xb), (6, .int xv)] dX6_listAll_147 rfl rfl (by decide) rfl ?_
                                          refine E_goto 88 dX6_listAll_150 (by decide) ?_
                                          refine E_sub [1, 2, 3, 4, 5, 6, 7, 0] rfl ?_
                                          exact ih88 (xc + 1) xv (c + 1) md (by omega) ((tI_add hxc (show (1 : Int32).toInt = 1 from rfl) (by omega)).trans (by omega)) (by omega) (Or.inl ⟨hxs6.elim (fun q => q.1) (fun q => absurd (by rw [q.1]; rfl) c_105), hxs6.elim (fun q => q.2) (fun q => absurd (by rw [q.1]; rfl) c_105)⟩) (by first | exact hl_144.elim (fun q => by rw [← q.2]; exact la_c0 hLd (fun z => q.1 z.2)) (fun q => la_c1 hLd (by first | exact Or.inl (by omega) | exact Or.inr ⟨by omega, by omega, c_133⟩) q.1 q.2.1 q.2.2.1 q.2.2.2.1 q.2.2.2.2.1 q.2.2.2.2.2) | exact la_c0 hLd (fun z => by exact z.1.elim (fun z => by omega) (fun z => by first | omega | exact c_133 z.2.2)))
                                        · skip
                                          refine E_aload_n 0 dX6_listAll_136 rfl rfl ?_
                                          refine E_iload_n 3 dX6_listAll_137 rfl rfl ?_
                                          refine E_iload 4 dX6_listAll_138 rfl ?_
                                          refine E_iload 5 dX6_listAll_140 rfl ?_
                                          refine E_iload 7 dX6_listAll_142 rfl ?_
                                          have hvB9 : vB s kd a b := hxs6.elim (fun q => q.2) (fun q => absurd (by rw [q.1]; rfl) c_105)
                                          have b1 := hvB9.1
                                          have b2 := hvB9.2.1
                                          refine E_callV (c_X6_lists l hfl md ml (mi 62 0).toInt.toNat (mi 62 1).toInt (mi 62 2).toInt (fun k => (mi 62 (6 + 2 * k)).toInt) (fun k => (mi 62 (7 + 2 * k)).toInt) n hset9 hrow9 (by omega) xk xa xb xc kd a b c (hxk.trans (by omega)) (hxa.trans (by omega)) (hxb.trans (by omega)) (hxc.trans (by omega)) (by omega) (by omega) (by omega) (by omega) (((stK (DV (mi 62)) s n kd ++ stA (DV (mi 62)) s n kd a ++ stB (DV (mi 62)) s n kd a b ++ stC (DV (mi 62)) s kd a b c)).length) hLd.2.2.1 (by simp only [List.length_append]; exact st_room h10 (by omega) (by omega) (by omega) (by omega) (by omega) (by omega))) cw_X6_101 (As := [.int xk, .int xa, .int xb, .int xc]) (st := []) wi_yX6_lists we_yX6_lists (ci := 6) (q := (RX6, TX6, 23)) rfl rfl (wl_atO tw_61) rfl ⟨Nat.le_of_ble_eq_true rfl, Nat.le_of_ble_eq_true rfl, Nat.le_of_ble_eq_true rfl, Nat.le_of_ble_eq_true rfl⟩ (Nat.le_of_ble_eq_true rfl) dX6_listAll_144 (fun _ _ h => h) rfl (kV (fun mi_144 ml_144 h_144 => ?_))
                                          obtain ⟨rfl, hl_144⟩ := h_144
                                          refine E_iinc 7 (xc + 1) [(7, .int (xc + 1)), (0, .ref 61), (1, .int xs), (2, .int (mi 62 5)), (3, .int xk), (4, .int xa), (5, .int xb), (6, .int xv)] dX6_listAll_147 rfl rfl (by decide) rfl ?_
                                          refine E_goto 88 dX6_listAll_150 (by decide) ?_
                                          refine E_sub [1, 2, 3, 4, 5, 6, 7, 0] rfl ?_
                                          exact ih88 (xc + 1) xv (c + 1) mi_144 (by omega) ((tI_add hxc (show (1 : Int32).toInt = 1 from rfl) (by omega)).trans (by omega)) (by omega) (Or.inl ⟨hxs6.elim (fun q => q.1) (fun q => absurd (by rw [q.1]; rfl) c_105), hxs6.elim (fun q => q.2) (fun q => absurd (by rw [q.1]; rfl) c_105)⟩) (by first | exact hl_144.elim (fun q => by rw [← q.2]; exact la_c0 hLd (fun z => q.1 z.2)) (fun q => la_c1 hLd (by first | exact Or.inl (by omega) | exact Or.inr ⟨by omega, by omega, c_133⟩) q.1 q.2.1 q.2.2.1 q.2.2.2.1 q.2.2.2.2.1 q.2.2.2.2.2) | exact la_c0 hLd (fun z => by exact z.1.elim (fun z => by omega) (fun z => by first | omega | exact c_133 z.2.2)))
                        refine E_sub [2, 3, 4, 5, 6, 7, 1, 0] rfl ?_
                        exact J88 _ 0 0 0 mc (Nat.lt_succ_self _) (show (0 : Int32).toInt = 0 from rfl) (by omega) (by first | exact Or.inl ⟨rfl, vB_t hkab c_57 c_66 c_75⟩ | exact Or.inr ⟨rfl, fun q => c_66 q.2.2.1, rfl⟩ | exact Or.inr ⟨rfl, fun q => c_75 q.2.2.2, rfl⟩ | exact Or.inr ⟨rfl, fun q => q.2.1 (by omega), rfl⟩) (by rw [show stC (DV (mi 62)) s kd a b 0 = [] from rfl, List.append_nil]; exact hLc)
                      · skip
                        refine E_iload_n 1 dX6_listAll_60 rfl rfl ?_
                        refine E_iload 4 dX6_listAll_61 rfl ?_
                        refine E_callS (c_X6_has l hfl mc ml xs xa s a (hxs.trans (by omega)) (hxa.trans (by omega)) (by omega) (by omega)) cw_X6_85 (As := [.int xs, .int xa]) (st := []) ws_yX6_has rfl ⟨Nat.le_of_ble_eq_true rfl, Nat.le_of_ble_eq_true rfl, Nat.le_of_ble_eq_true rfl, Nat.le_of_ble_eq_true rfl⟩ (Nat.le_of_ble_eq_true rfl) dX6_listAll_63 (fun _ _ h => h) rfl (kE ?_)
                        refine B_eq 82 dX6_listAll_66 (by decide) (fun c_66 => ?_) (fun c_66 => ?_)
                        · skip
                          refine E_iconst 0 (by decide) dX6_listAll_82 ?_
                          refine E_istore [(6, .int 0), (0, .ref 61), (1, .int xs), (2, .int (mi 62 5)), (3, .int xk), (4, .int xa), (5, .int xb)] dX6_listAll_83 (by decide) rfl ?_
                          refine E_iconst 0 (by decide) dX6_listAll_85 ?_
                          refine E_istore [(7, .int 0), (6, .int 0), (0, .ref 61), (1, .int xs), (2, .int (mi 62 5)), (3, .int xk), (4, .int xa), (5, .int xb)] dX6_listAll_86 (by decide) rfl ?_
                          have J88 : ∀ (N : Nat) (xc xv : Int32) (c : Nat) (md : MI), n + 1 - c < N → xc.toInt = (c : Int) → c ≤ nCs n kd → ((xv = 1 ∧ vB s kd a b) ∨ (xv = 0 ∧ ¬ vB s kd a b ∧ c = 0)) → LsP (DV (mi 62)) mi_1 md (stK (DV (mi 62)) s n kd ++ stA (DV (mi 62)) s n kd a ++ stB (DV (mi 62)) s n kd a b ++ stC (DV (mi 62)) s kd a b c) → E l RX6 cX6_listAll 8 none false [] (rmE 4 0 0) (wl mi ml) (TgM (wl mi ml) 0 0 (QV (fun mi9 ml9 => ml = ml9 ∧ Fr [61, 65, 66, 67] mi mi9 ∧ (∀ k, k ≠ 9 → mi9 61 k = mi 61 k) ∧ (mi9 61 9).toInt = ((stK (DV (mi 62)) s n 3).length : Int) ∧ encd (DV (mi 62)) (mi9 67) (stK (DV (mi 62)) s n 3))) noX) 0 0 88 [(0, .ref 61), (1, .int xs), (2, .int (mi 62 5)), (3, .int xk), (4, .int xa), (5, .int xb), (6, .int xv), (7, .int xc)] [] (wl md ml) := by
                            intro N
                            induction N with
                            | zero => intros; omega
                            | succ N ih88 =>
                              intro xc xv c md hN88 hxc hc hxs6 hLd
                              have hbnd : (kd = 1 ∧ nCs n kd = n) ∨ (kd ≠ 1 ∧ nCs n kd = 1) := by unfold nCs; split <;> omega
                              have hset9 : SetM md (DV (mi 62)) := (SetM_of hwf).c ((hLd.1 62 (by decide)).trans (hFr_1 62 (by decide)))
                              have hrow9 := hrow1.c (hLd.1 65 (by decide)) (hLd.1 66 (by decide))
                              refine E_iload 7 dX6_listAll_88 rfl ?_
                              refine E_iload_n 3 dX6_listAll_90 rfl rfl ?_
                              refine E_iconst 1 (by decide) dX6_listAll_91 ?_
                              refine Z_ne (kd : Int) 1 hxk (show (1 : Int32).toInt = 1 from rfl) 99 dX6_listAll_92 (by decide) (fun c_92 => ?_) (fun c_92 => ?_)
                              · skip
                                refine E_iconst 1 (by decide) dX6_listAll_99 ?_
                                refine Z_ge (c : Int) 1 hxc (show (1 : Int32).toInt = 1 from rfl) 153 dX6_listAll_100 (by decide) (fun c_100 => ?_) (fun c_100 => ?_)
                                · skip
                                  refine E_iinc 5 (xb + 1) [(5, .int (xb + 1)), (0, .ref 61), (1, .int xs), (2, .int (mi 62 5)), (3, .int xk), (4, .int xa), (6, .int xv), (7, .int xc)] dX6_listAll_153 rfl rfl (by decide) rfl ?_
                                  refine E_goto 47 dX6_listAll_156 (by decide) ?_
                                  refine E_sub [1, 2, 3, 4, 5, 0] rfl ?_
                                  exact ih47 (xb + 1) (b + 1) md (by omega) ((tI_add hxb (show (1 : Int32).toInt = 1 from rfl) (by omega)).trans (by omega)) (by omega) (by omega) (la_b hxs6 hLd (by first | exact Or.inl c_105 | exact Or.inr (by omega)))
                                · skip
                                  refine E_iload 6 dX6_listAll_103 rfl ?_
                                  refine Y_eq xv.toInt rfl 153 dX6_listAll_105 (by decide) (fun c_105 => ?_) (fun c_105 => ?_)
                                  · skip
                                    refine E_iinc 5 (xb + 1) [(5, .int (xb + 1)), (0, .ref 61), (1, .int xs), (2, .int (mi 62 5)), (3, .int xk), (4, .int xa), (6, .int xv), (7, .int xc)] dX6_listAll_153 rfl rfl (by decide) rfl ?_
                                    refine E_goto 47 dX6_listAll_156 (by decide) ?_
                                    refine E_sub [1, 2, 3, 4, 5, 0] rfl ?_
                                    exact ih47 (xb + 1) (b + 1) md (by omega) ((tI_add hxb (show (1 : Int32).toInt = 1 from rfl) (by omega)).trans (by omega)) (by omega) (by omega) (la_b hxs6 hLd (by first | exact Or.inl c_105 | exact Or.inr (by omega)))
                                  · skip
                                    refine E_iload_n 3 dX6_listAll_108 rfl rfl ?_
                                    refine E_iconst 1 (by decide) dX6_listAll_109 ?_
                                    refine Z_ne (kd : Int) 1 hxk (show (1 : Int32).toInt = 1 from rfl) 136 dX6_listAll_110 (by decide) (fun c_110 => ?_) (fun c_110 => ?_)
                                    · skip
                                      refine E_aload_n 0 dX6_listAll_136 rfl rfl ?_
                                      refine E_iload_n 3 dX6_listAll_137 rfl rfl ?_
                                      refine E_iload 4 dX6_listAll_138 rfl ?_
                                      refine E_iload 5 dX6_listAll_140 rfl ?_
                                      refine E_iload 7 dX6_listAll_142 rfl ?_
                                      have hvB9 : vB s kd a b := hxs6.elim (fun q => q.2) (fun q => absurd (by rw [q.1]; rfl) c_105)
                                      have b1 := hvB9.1
                                      have b2 := hvB9.2.1
                                      refine E_callV (c_X6_lists l hfl md ml (mi 62 0).toInt.toNat (mi 62 1).toInt (mi 62 2).toInt (fun k => (mi 62 (6 + 2 * k)).toInt) (fun k => (mi 62 (7 + 2 * k)).toInt) n hset9 hrow9 (by omega) xk xa xb xc kd a b c (hxk.trans (by omega)) (hxa.trans (by omega)) (hxb.trans (by omega)) (hxc.trans (by omega)) (by omega) (by omega) (by omega) (by omega) (((stK (DV (mi 62)) s n kd ++ stA (DV (mi 62)) s n kd a ++ stB (DV (mi 62)) s n kd a b ++ stC (DV (mi 62)) s kd a b c)).length) hLd.2.2.1 (by simp only [List.length_append]; exact st_room h10 (by omega) (by omega) (by omega) (by omega) (by omega) (by omega))) cw_X6_101 (As := [.int xk, .int xa, .int xb, .int xc]) (st := []) wi_yX6_lists we_yX6_lists (ci := 6) (q := (RX6, TX6, 23)) rfl rfl (wl_atO tw_61) rfl ⟨Nat.le_of_ble_eq_true rfl, Nat.le_of_ble_eq_true rfl, Nat.le_of_ble_eq_true rfl, Nat.le_of_ble_eq_true rfl⟩ (Nat.le_of_ble_eq_true rfl) dX6_listAll_144 (fun _ _ h => h) rfl (kV (fun mi_144 ml_144 h_144 => ?_))
                                      obtain ⟨rfl, hl_144⟩ := h_144
                                      refine E_iinc 7 (xc + 1) [(7, .int (xc + 1)), (0, .ref 61), (1, .int xs), (2, .int (mi 62 5)), (3, .int xk), (4, .int xa), (5, .int xb), (6, .int xv)] dX6_listAll_147 rfl rfl (by decide) rfl ?_
                                      refine E_goto 88 dX6_listAll_150 (by decide) ?_
                                      refine E_sub [1, 2, 3, 4, 5, 6, 7, 0] rfl ?_
                                      exact ih88 (xc + 1) xv (c + 1) mi_144 (by omega) ((tI_add hxc (show (1 : Int32).toInt = 1 from rfl) (by omega)).trans (by omega)) (by omega) (Or.inl ⟨hxs6.elim (fun q => q.1) (fun q => absurd (by rw [q.1]; rfl) c_105), hxs6.elim (fun q => q.2) (fun q => absurd (by rw [q.1]; rfl) c_105)⟩) (by first | exact hl_144.elim (fun q => by rw [← q.2]; exact la_c0 hLd (fun z => q.1 z.2)) (fun q => la_c1 hLd (by first | exact Or.inl (by omega) | exact Or.inr ⟨by omega, by omega, c_133⟩) q.1 q.2.1 q.2.2.1 q.2.2.2.1 q.2.2.2.2.1 q.2.2.2.2.2) | exact la_c0 hLd (fun z => by exact z.1.elim (fun z => by omega) (fun z => by first | omega | exact c_133 z.2.2)))
                                    · skip
                                      refine E_iload 7 dX6_listAll_113 rfl ?_
                                      refine E_iload 4 dX6_listAll_115 rfl ?_
                                      refine Z_eq (c : Int) (a : Int) hxc hxa 147 dX6_listAll_117 (by decide) (fun c_117 => ?_) (fun c_117 => ?_)
                                      · skip
                                        refine E_iinc 7 (xc + 1) [(7, .int (xc + 1)), (0, .ref 61), (1, .int xs), (2, .int (mi 62 5)), (3, .int xk), (4, .int xa), (5, .int xb), (6, .int xv)] dX6_listAll_147 rfl rfl (by decide) rfl ?_
                                        refine E_goto 88 dX6_listAll_150 (by decide) ?_
                                        refine E_sub [1, 2, 3, 4, 5, 6, 7, 0] rfl ?_
                                        exact ih88 (xc + 1) xv (c + 1) md (by omega) ((tI_add hxc (show (1 : Int32).toInt = 1 from rfl) (by omega)).trans (by omega)) (by omega) (Or.inl ⟨hxs6.elim (fun q => q.1) (fun q => absurd (by rw [q.1]; rfl) c_105), hxs6.elim (fun q => q.2) (fun q => absurd (by rw [q.1]; rfl) c_105)⟩) (by first | exact hl_144.elim (fun q => by rw [← q.2]; exact la_c0 hLd (fun z => q.1 z.2)) (fun q => la_c1 hLd (by first | exact Or.inl (by omega) | exact Or.inr ⟨by omega, by omega, c_133⟩) q.1 q.2.1 q.2.2.1 q.2.2.2.1 q.2.2.2.2.1 q.2.2.2.2.2) | exact la_c0 hLd (fun z => by exact z.1.elim (fun z => by omega) (fun z => by first | omega | exact c_133 z.2.2)))
                                      · skip
                                        refine E_iload 7 dX6_listAll_120 rfl ?_
                                        refine E_iload 5 dX6_listAll_122 rfl ?_
                                        refine Z_eq (c : Int) (b : Int) hxc hxb 147 dX6_listAll_124 (by decide) (fun c_124 => ?_) (fun c_124 => ?_)
                                        · skip
                                          refine E_iinc 7 (xc + 1) [(7, .int (xc + 1)), (0, .ref 61), (1, .int xs), (2, .int (mi 62 5)), (3, .int xk), (4, .int xa), (5, .int xb), (6, .int xv)] dX6_listAll_147 rfl rfl (by decide) rfl ?_
                                          refine E_goto 88 dX6_listAll_150 (by decide) ?_
                                          refine E_sub [1, 2, 3, 4, 5, 6, 7, 0] rfl ?_
                                          exact ih88 (xc + 1) xv (c + 1) md (by omega) ((tI_add hxc (show (1 : Int32).toInt = 1 from rfl) (by omega)).trans (by omega)) (by omega) (Or.inl ⟨hxs6.elim (fun q => q.1) (fun q => absurd (by rw [q.1]; rfl) c_105), hxs6.elim (fun q => q.2) (fun q => absurd (by rw [q.1]; rfl) c_105)⟩) (by first | exact hl_144.elim (fun q => by rw [← q.2]; exact la_c0 hLd (fun z => q.1 z.2)) (fun q => la_c1 hLd (by first | exact Or.inl (by omega) | exact Or.inr ⟨by omega, by omega, c_133⟩) q.1 q.2.1 q.2.2.1 q.2.2.2.1 q.2.2.2.2.1 q.2.2.2.2.2) | exact la_c0 hLd (fun z => by exact z.1.elim (fun z => by omega) (fun z => by first | omega | exact c_133 z.2.2)))
                                        · skip
                                          refine E_iload_n 1 dX6_listAll_127 rfl rfl ?_
                                          refine E_iload 7 dX6_listAll_128 rfl ?_
                                          refine E_callS (c_X6_has l hfl md ml xs xc s c (hxs.trans (by omega)) (hxc.trans (by omega)) (by omega) (by omega)) cw_X6_85 (As := [.int xs, .int xc]) (st := []) ws_yX6_has rfl ⟨Nat.le_of_ble_eq_true rfl, Nat.le_of_ble_eq_true rfl, Nat.le_of_ble_eq_true rfl, Nat.le_of_ble_eq_true rfl⟩ (Nat.le_of_ble_eq_true rfl) dX6_listAll_130 (fun _ _ h => h) rfl (kE ?_)
                                          refine B_eq 147 dX6_listAll_133 (by decide) (fun c_133 => ?_) (fun c_133 => ?_)
                                          · skip
                                            refine E_iinc 7 (xc + 1) [(7, .int (xc + 1)), (0, .ref 61), (1, .int xs), (2, .int (mi 62 5)), (3, .int xk), (4, .int xa), (5, .int xb), (6, .int xv)] dX6_listAll_147 rfl rfl (by decide) rfl ?_
                                            refine E_goto 88 dX6_listAll_150 (by decide) ?_
                                            refine E_sub [1, 2, 3, 4, 5, 6, 7, 0] rfl ?_
                                            exact ih88 (xc + 1) xv (c + 1) md (by omega) ((tI_add hxc (show (1 : Int32).toInt = 1 from rfl) (by omega)).trans (by omega)) (by omega) (Or.inl ⟨hxs6.elim (fun q => q.1) (fun q => absurd (by rw [q.1]; rfl) c_105), hxs6.elim (fun q => q.2) (fun q => absurd (by rw [q.1]; rfl) c_105)⟩) (by first | exact hl_144.elim (fun q => by rw [← q.2]; exact la_c0 hLd (fun z => q.1 z.2)) (fun q => la_c1 hLd (by first | exact Or.inl (by omega) | exact Or.inr ⟨by omega, by omega, c_133⟩) q.1 q.2.1 q.2.2.1 q.2.2.2.1 q.2.2.2.2.1 q.2.2.2.2.2) | exact la_c0 hLd (fun z => by exact z.1.elim (fun z => by omega) (fun z => by first | omega | exact c_133 z.2.2)))
                                          · skip
                                            refine E_aload_n 0 dX6_listAll_136 rfl rfl ?_
                                            refine E_iload_n 3 dX6_listAll_137 rfl rfl ?_
                                            refine E_iload 4 dX6_listAll_138 rfl ?_
                                            refine E_iload 5 dX6_listAll_140 rfl ?_
                                            refine E_iload 7 dX6_listAll_142 rfl ?_
                                            have hvB9 : vB s kd a b := hxs6.elim (fun q => q.2) (fun q => absurd (by rw [q.1]; rfl) c_105)
                                            have b1 := hvB9.1
                                            have b2 := hvB9.2.1
                                            refine E_callV (c_X6_lists l hfl md ml (mi 62 0).toInt.toNat (mi 62 1).toInt (mi 62 2).toInt (fun k => (mi 62 (6 + 2 * k)).toInt) (fun k => (mi 62 (7 + 2 * k)).toInt) n hset9 hrow9 (by omega) xk xa xb xc kd a b c (hxk.trans (by omega)) (hxa.trans (by omega)) (hxb.trans (by omega)) (hxc.trans (by omega)) (by omega) (by omega) (by omega) (by omega) (((stK (DV (mi 62)) s n kd ++ stA (DV (mi 62)) s n kd a ++ stB (DV (mi 62)) s n kd a b ++ stC (DV (mi 62)) s kd a b c)).length) hLd.2.2.1 (by simp only [List.length_append]; exact st_room h10 (by omega) (by omega) (by omega) (by omega) (by omega) (by omega))) cw_X6_101 (As := [.int xk, .int xa, .int xb, .int xc]) (st := []) wi_yX6_lists we_yX6_lists (ci := 6) (q := (RX6, TX6, 23)) rfl rfl (wl_atO tw_61) rfl ⟨Nat.le_of_ble_eq_true rfl, Nat.le_of_ble_eq_true rfl, Nat.le_of_ble_eq_true rfl, Nat.le_of_ble_eq_true rfl⟩ (Nat.le_of_ble_eq_true rfl) dX6_listAll_144 (fun _ _ h => h) rfl (kV (fun mi_144 ml_144 h_144 => ?_))
                                            obtain ⟨rfl, hl_144⟩ := h_144
                                            refine E_iinc 7 (xc + 1) [(7, .int (xc + 1)), (0, .ref 61), (1, .int xs), (2, .int (mi 62 5)), (3, .int xk), (4, .int xa), (5, .int xb), (6, .int xv)] dX6_listAll_147 rfl rfl (by decide) rfl ?_
                                            refine E_goto 88 dX6_listAll_150 (by decide) ?_
                                            refine E_sub [1, 2, 3, 4, 5, 6, 7, 0] rfl ?_
                                            exact ih88 (xc + 1) xv (c + 1) mi_144 (by omega) ((tI_add hxc (show (1 : Int32).toInt = 1 from rfl) (by omega)).trans (by omega)) (by omega) (Or.inl ⟨hxs6.elim (fun q => q.1) (fun q => absurd (by rw [q.1]; rfl) c_105), hxs6.elim (fun q => q.2) (fun q => absurd (by rw [q.1]; rfl) c_105)⟩) (by first | exact hl_144.elim (fun q => by rw [← q.2]; exact la_c0 hLd (fun z => q.1 z.2)) (fun q => la_c1 hLd (by first | exact Or.inl (by omega) | exact Or.inr ⟨by omega, by omega, c_133⟩) q.1 q.2.1 q.2.2.1 q.2.2.2.1 q.2.2.2.2.1 q.2.2.2.2.2) | exact la_c0 hLd (fun z => by exact z.1.elim (fun z => by omega) (fun z => by first | omega | exact c_133 z.2.2)))
                              · skip
                                refine E_iload_n 2 dX6_listAll_95 rfl rfl ?_
                                refine E_goto 100 dX6_listAll_96 (by decide) ?_
                                refine Z_ge (c : Int) (n : Int) hxc hn 153 dX6_listAll_100 (by decide) (fun c_100 => ?_) (fun c_100 => ?_)
                                · skip
                                  refine E_iinc 5 (xb + 1) [(5, .int (xb + 1)), (0, .ref 61), (1, .int xs), (2, .int (mi 62 5)), (3, .int xk), (4, .int xa), (6, .int xv), (7, .int xc)] dX6_listAll_153 rfl rfl (by decide) rfl ?_
                                  refine E_goto 47 dX6_listAll_156 (by decide) ?_
                                  refine E_sub [1, 2, 3, 4, 5, 0] rfl ?_
                                  exact ih47 (xb + 1) (b + 1) md (by omega) ((tI_add hxb (show (1 : Int32).toInt = 1 from rfl) (by omega)).trans (by omega)) (by omega) (by omega) (la_b hxs6 hLd (by first | exact Or.inl c_105 | exact Or.inr (by omega)))
                                · skip
                                  refine E_iload 6 dX6_listAll_103 rfl ?_
                                  refine Y_eq xv.toInt rfl 153 dX6_listAll_105 (by decide) (fun c_105 => ?_) (fun c_105 => ?_)
                                  · skip
                                    refine E_iinc 5 (xb + 1) [(5, .int (xb + 1)), (0, .ref 61), (1, .int xs), (2, .int (mi 62 5)), (3, .int xk), (4, .int xa), (6, .int xv), (7, .int xc)] dX6_listAll_153 rfl rfl (by decide) rfl ?_
                                    refine E_goto 47 dX6_listAll_156 (by decide) ?_
                                    refine E_sub [1, 2, 3, 4, 5, 0] rfl ?_
                                    exact ih47 (xb + 1) (b + 1) md (by omega) ((tI_add hxb (show (1 : Int32).toInt = 1 from rfl) (by omega)).trans (by omega)) (by omega) (by omega) (la_b hxs6 hLd (by first | exact Or.inl c_105 | exact Or.inr (by omega)))
                                  · skip
                                    refine E_iload_n 3 dX6_listAll_108 rfl rfl ?_
                                    refine E_iconst 1 (by decide) dX6_listAll_109 ?_
                                    refine Z_ne (kd : Int) 1 hxk (show (1 : Int32).toInt = 1 from rfl) 136 dX6_listAll_110 (by decide) (fun c_110 => ?_) (fun c_110 => ?_)
                                    · skip
                                      refine E_aload_n 0 dX6_listAll_136 rfl rfl ?_
                                      refine E_iload_n 3 dX6_listAll_137 rfl rfl ?_
                                      refine E_iload 4 dX6_listAll_138 rfl ?_
                                      refine E_iload 5 dX6_listAll_140 rfl ?_
                                      refine E_iload 7 dX6_listAll_142 rfl ?_
                                      have hvB9 : vB s kd a b := hxs6.elim (fun q => q.2) (fun q => absurd (by rw [q.1]; rfl) c_105)
                                      have b1 := hvB9.1
                                      have b2 := hvB9.2.1
                                      refine E_callV (c_X6_lists l hfl md ml (mi 62 0).toInt.toNat (mi 62 1).toInt (mi 62 2).toInt (fun k => (mi 62 (6 + 2 * k)).toInt) (fun k => (mi 62 (7 + 2 * k)).toInt) n hset9 hrow9 (by omega) xk xa xb xc kd a b c (hxk.trans (by omega)) (hxa.trans (by omega)) (hxb.trans (by omega)) (hxc.trans (by omega)) (by omega) (by omega) (by omega) (by omega) (((stK (DV (mi 62)) s n kd ++ stA (DV (mi 62)) s n kd a ++ stB (DV (mi 62)) s n kd a b ++ stC (DV (mi 62)) s kd a b c)).length) hLd.2.2.1 (by simp only [List.length_append]; exact st_room h10 (by omega) (by omega) (by omega) (by omega) (by omega) (by omega))) cw_X6_101 (As := [.int xk, .int xa, .int xb, .int xc]) (st := []) wi_yX6_lists we_yX6_lists (ci := 6) (q := (RX6, TX6, 23)) rfl rfl (wl_atO tw_61) rfl ⟨Nat.le_of_ble_eq_true rfl, Nat.le_of_ble_eq_true rfl, Nat.le_of_ble_eq_true rfl, Nat.le_of_ble_eq_true rfl⟩ (Nat.le_of_ble_eq_true rfl) dX6_listAll_144 (fun _ _ h => h) rfl (kV (fun mi_144 ml_144 h_144 => ?_))
                                      obtain ⟨rfl, hl_144⟩ := h_144
                                      refine E_iinc 7 (xc + 1) [(7, .int (xc + 1)), (0, .ref 61), (1, .int xs), (2, .int (mi 62 5)), (3, .int xk), (4, .int xa), (5, .int xb), (6, .int xv)] dX6_listAll_147 rfl rfl (by decide) rfl ?_
                                      refine E_goto 88 dX6_listAll_150 (by decide) ?_
                                      refine E_sub [1, 2, 3, 4, 5, 6, 7, 0] rfl ?_
                                      exact ih88 (xc + 1) xv (c + 1) mi_144 (by omega) ((tI_add hxc (show (1 : Int32).toInt = 1 from rfl) (by omega)).trans (by omega)) (by omega) (Or.inl ⟨hxs6.elim (fun q => q.1) (fun q => absurd (by rw [q.1]; rfl) c_105), hxs6.elim (fun q => q.2) (fun q => absurd (by rw [q.1]; rfl) c_105)⟩) (by first | exact hl_144.elim (fun q => by rw [← q.2]; exact la_c0 hLd (fun z => q.1 z.2)) (fun q => la_c1 hLd (by first | exact Or.inl (by omega) | exact Or.inr ⟨by omega, by omega, c_133⟩) q.1 q.2.1 q.2.2.1 q.2.2.2.1 q.2.2.2.2.1 q.2.2.2.2.2) | exact la_c0 hLd (fun z => by exact z.1.elim (fun z => by omega) (fun z => by first | omega | exact c_133 z.2.2)))
                                    · skip
                                      refine E_iload 7 dX6_listAll_113 rfl ?_
                                      refine E_iload 4 dX6_listAll_115 rfl ?_
                                      refine Z_eq (c : Int) (a : Int) hxc hxa 147 dX6_listAll_117 (by decide) (fun c_117 => ?_) (fun c_117 => ?_)
                                      · skip
                                        refine E_iinc 7 (xc + 1) [(7, .int (xc + 1)), (0, .ref 61), (1, .int xs), (2, .int (mi 62 5)), (3, .int xk), (4, .int xa), (5, .int xb), (6, .int xv)] dX6_listAll_147 rfl rfl (by decide) rfl ?_
                                        refine E_goto 88 dX6_listAll_150 (by decide) ?_
                                        refine E_sub [1, 2, 3, 4, 5, 6, 7, 0] rfl ?_
                                        exact ih88 (xc + 1) xv (c + 1) md (by omega) ((tI_add hxc (show (1 : Int32).toInt = 1 from rfl) (by omega)).trans (by omega)) (by omega) (Or.inl ⟨hxs6.elim (fun q => q.1) (fun q => absurd (by rw [q.1]; rfl) c_105), hxs6.elim (fun q => q.2) (fun q => absurd (by rw [q.1]; rfl) c_105)⟩) (by first | exact hl_144.elim (fun q => by rw [← q.2]; exact la_c0 hLd (fun z => q.1 z.2)) (fun q => la_c1 hLd (by first | exact Or.inl (by omega) | exact Or.inr ⟨by omega, by omega, c_133⟩) q.1 q.2.1 q.2.2.1 q.2.2.2.1 q.2.2.2.2.1 q.2.2.2.2.2) | exact la_c0 hLd (fun z => by exact z.1.elim (fun z => by omega) (fun z => by first | omega | exact c_133 z.2.2)))
                                      · skip
                                        refine E_iload 7 dX6_listAll_120 rfl ?_
                                        refine E_iload 5 dX6_listAll_122 rfl ?_
                                        refine Z_eq (c : Int) (b : Int) hxc hxb 147 dX6_listAll_124 (by decide) (fun c_124 => ?_) (fun c_124 => ?_)
                                        · skip
                                          refine E_iinc 7 (xc + 1) [(7, .int (xc + 1)), (0, .ref 61), (1, .int xs), (2, .int (mi 62 5)), (3, .int xk), (4, .int xa), (5, .int xb), (6, .int xv)] dX6_listAll_147 rfl rfl (by decide) rfl ?_
                                          refine E_goto 88 dX6_listAll_150 (by decide) ?_
                                          refine E_sub [1, 2, 3, 4, 5, 6, 7, 0] rfl ?_
                                          exact ih88 (xc + 1) xv (c + 1) md (by omega) ((tI_add hxc (show (1 : Int32).toInt = 1 from rfl) (by omega)).trans (by omega)) (by omega) (Or.inl ⟨hxs6.elim (fun q => q.1) (fun q => absurd (by rw [q.1]; rfl) c_105), hxs6.elim (fun q => q.2) (fun q => absurd (by rw [q.1]; rfl) c_105)⟩) (by first | exact hl_144.elim (fun q => by rw [← q.2]; exact la_c0 hLd (fun z => q.1 z.2)) (fun q => la_c1 hLd (by first | exact Or.inl (by omega) | exact Or.inr ⟨by omega, by omega, c_133⟩) q.1 q.2.1 q.2.2.1 q.2.2.2.1 q.2.2.2.2.1 q.2.2.2.2.2) | exact la_c0 hLd (fun z => by exact z.1.elim (fun z => by omega) (fun z => by first | omega | exact c_133 z.2.2)))
                                        · skip
                                          refine E_iload_n 1 dX6_listAll_127 rfl rfl ?_
                                          refine E_iload 7 dX6_listAll_128 rfl ?_
                                          refine E_callS (c_X6_has l hfl md ml xs xc s c (hxs.trans (by omega)) (hxc.trans (by omega)) (by omega) (by omega)) cw_X6_85 (As := [.int xs, .int xc]) (st := []) ws_yX6_has rfl ⟨Nat.le_of_ble_eq_true rfl, Nat.le_of_ble_eq_true rfl, Nat.le_of_ble_eq_true rfl, Nat.le_of_ble_eq_true rfl⟩ (Nat.le_of_ble_eq_true rfl) dX6_listAll_130 (fun _ _ h => h) rfl (kE ?_)
                                          refine B_eq 147 dX6_listAll_133 (by decide) (fun c_133 => ?_) (fun c_133 => ?_)
                                          · skip
                                            refine E_iinc 7 (xc + 1) [(7, .int (xc + 1)), (0, .ref 61), (1, .int xs), (2, .int (mi 62 5)), (3, .int xk), (4, .int xa), (5, .int xb), (6, .int xv)] dX6_listAll_147 rfl rfl (by decide) rfl ?_
                                            refine E_goto 88 dX6_listAll_150 (by decide) ?_
                                            refine E_sub [1, 2, 3, 4, 5, 6, 7, 0] rfl ?_
                                            exact ih88 (xc + 1) xv (c + 1) md (by omega) ((tI_add hxc (show (1 : Int32).toInt = 1 from rfl) (by omega)).trans (by omega)) (by omega) (Or.inl ⟨hxs6.elim (fun q => q.1) (fun q => absurd (by rw [q.1]; rfl) c_105), hxs6.elim (fun q => q.2) (fun q => absurd (by rw [q.1]; rfl) c_105)⟩) (by first | exact hl_144.elim (fun q => by rw [← q.2]; exact la_c0 hLd (fun z => q.1 z.2)) (fun q => la_c1 hLd (by first | exact Or.inl (by omega) | exact Or.inr ⟨by omega, by omega, c_133⟩) q.1 q.2.1 q.2.2.1 q.2.2.2.1 q.2.2.2.2.1 q.2.2.2.2.2) | exact la_c0 hLd (fun z => by exact z.1.elim (fun z => by omega) (fun z => by first | omega | exact c_133 z.2.2)))
                                          · skip
                                            refine E_aload_n 0 dX6_listAll_136 rfl rfl ?_
                                            refine E_iload_n 3 dX6_listAll_137 rfl rfl ?_
                                            refine E_iload 4 dX6_listAll_138 rfl ?_
                                            refine E_iload 5 dX6_listAll_140 rfl ?_
                                            refine E_iload 7 dX6_listAll_142 rfl ?_
                                            have hvB9 : vB s kd a b := hxs6.elim (fun q => q.2) (fun q => absurd (by rw [q.1]; rfl) c_105)
                                            have b1 := hvB9.1
                                            have b2 := hvB9.2.1
                                            refine E_callV (c_X6_lists l hfl md ml (mi 62 0).toInt.toNat (mi 62 1).toInt (mi 62 2).toInt (fun k => (mi 62 (6 + 2 * k)).toInt) (fun k => (mi 62 (7 + 2 * k)).toInt) n hset9 hrow9 (by omega) xk xa xb xc kd a b c (hxk.trans (by omega)) (hxa.trans (by omega)) (hxb.trans (by omega)) (hxc.trans (by omega)) (by omega) (by omega) (by omega) (by omega) (((stK (DV (mi 62)) s n kd ++ stA (DV (mi 62)) s n kd a ++ stB (DV (mi 62)) s n kd a b ++ stC (DV (mi 62)) s kd a b c)).length) hLd.2.2.1 (by simp only [List.length_append]; exact st_room h10 (by omega) (by omega) (by omega) (by omega) (by omega) (by omega))) cw_X6_101 (As := [.int xk, .int xa, .int xb, .int xc]) (st := []) wi_yX6_lists we_yX6_lists (ci := 6) (q := (RX6, TX6, 23)) rfl rfl (wl_atO tw_61) rfl ⟨Nat.le_of_ble_eq_true rfl, Nat.le_of_ble_eq_true rfl, Nat.le_of_ble_eq_true rfl, Nat.le_of_ble_eq_true rfl⟩ (Nat.le_of_ble_eq_true rfl) dX6_listAll_144 (fun _ _ h => h) rfl (kV (fun mi_144 ml_144 h_144 => ?_))
                                            obtain ⟨rfl, hl_144⟩ := h_144
                                            refine E_iinc 7 (xc + 1) [(7, .int (xc + 1)), (0, .ref 61), (1, .int xs), (2, .int (mi 62 5)), (3, .int xk), (4, .int xa), (5, .int xb), (6, .int xv)] dX6_listAll_147 rfl rfl (by decide) rfl ?_
                                            refine E_goto 88 dX6_listAll_150 (by decide) ?_
                                            refine E_sub [1, 2, 3, 4, 5, 6, 7, 0] rfl ?_
                                            exact ih88 (xc + 1) xv (c + 1) mi_144 (by omega) ((tI_add hxc (show (1 : Int32).toInt = 1 from rfl) (by omega)).trans (by omega)) (by omega) (Or.inl ⟨hxs6.elim (fun q => q.1) (fun q => absurd (by rw [q.1]; rfl) c_105), hxs6.elim (fun q => q.2) (fun q => absurd (by rw [q.1]; rfl) c_105)⟩) (by first | exact hl_144.elim (fun q => by rw [← q.2]; exact la_c0 hLd (fun z => q.1 z.2)) (fun q => la_c1 hLd (by first | exact Or.inl (by omega) | exact Or.inr ⟨by omega, by omega, c_133⟩) q.1 q.2.1 q.2.2.1 q.2.2.2.1 q.2.2.2.2.1 q.2.2.2.2.2) | exact la_c0 hLd (fun z => by exact z.1.elim (fun z => by omega) (fun z => by first | omega | exact c_133 z.2.2)))
                          refine E_sub [2, 3, 4, 5, 6, 7, 1, 0] rfl ?_
                          exact J88 _ 0 0 0 mc (Nat.lt_succ_self _) (show (0 : Int32).toInt = 0 from rfl) (by omega) (by first | exact Or.inl ⟨rfl, vB_t hkab c_57 c_66 c_75⟩ | exact Or.inr ⟨rfl, fun q => c_66 q.2.2.1, rfl⟩ | exact Or.inr ⟨rfl, fun q => c_75 q.2.2.2, rfl⟩ | exact Or.inr ⟨rfl, fun q => q.2.1 (by omega), rfl⟩) (by rw [show stC (DV (mi 62)) s kd a b 0 = [] from rfl, List.append_nil]; exact hLc)
                        · skip
                          refine E_iload_n 1 dX6_listAll_69 rfl rfl ?_
                          refine E_iload 5 dX6_listAll_70 rfl ?_
                          refine E_callS (c_X6_has l hfl mc ml xs xb s b (hxs.trans (by omega)) (hxb.trans (by omega)) (by omega) (by omega)) cw_X6_85 (As := [.int xs, .int xb]) (st := []) ws_yX6_has rfl ⟨Nat.le_of_ble_eq_true rfl, Nat.le_of_ble_eq_true rfl, Nat.le_of_ble_eq_true rfl, Nat.le_of_ble_eq_true rfl⟩ (Nat.le_of_ble_eq_true rfl) dX6_listAll_72 (fun _ _ h => h) rfl (kE ?_)
                          refine B_eq 82 dX6_listAll_75 (by decide) (fun c_75 => ?_) (fun c_75 => ?_)
                          · skip
                            refine E_iconst 0 (by decide) dX6_listAll_82 ?_
                            refine E_istore [(6, .int 0), (0, .ref 61), (1, .int xs), (2, .int (mi 62 5)), (3, .int xk), (4, .int xa), (5, .int xb)] dX6_listAll_83 (by decide) rfl ?_
                            refine E_iconst 0 (by decide) dX6_listAll_85 ?_
                            refine E_istore [(7, .int 0), (6, .int 0), (0, .ref 61), (1, .int xs), (2, .int (mi 62 5)), (3, .int xk), (4, .int xa), (5, .int xb)] dX6_listAll_86 (by decide) rfl ?_
                            have J88 : ∀ (N : Nat) (xc xv : Int32) (c : Nat) (md : MI), n + 1 - c < N → xc.toInt = (c : Int) → c ≤ nCs n kd → ((xv = 1 ∧ vB s kd a b) ∨ (xv = 0 ∧ ¬ vB s kd a b ∧ c = 0)) → LsP (DV (mi 62)) mi_1 md (stK (DV (mi 62)) s n kd ++ stA (DV (mi 62)) s n kd a ++ stB (DV (mi 62)) s n kd a b ++ stC (DV (mi 62)) s kd a b c) → E l RX6 cX6_listAll 8 none false [] (rmE 4 0 0) (wl mi ml) (TgM (wl mi ml) 0 0 (QV (fun mi9 ml9 => ml = ml9 ∧ Fr [61, 65, 66, 67] mi mi9 ∧ (∀ k, k ≠ 9 → mi9 61 k = mi 61 k) ∧ (mi9 61 9).toInt = ((stK (DV (mi 62)) s n 3).length : Int) ∧ encd (DV (mi 62)) (mi9 67) (stK (DV (mi 62)) s n 3))) noX) 0 0 88 [(0, .ref 61), (1, .int xs), (2, .int (mi 62 5)), (3, .int xk), (4, .int xa), (5, .int xb), (6, .int xv), (7, .int xc)] [] (wl md ml) := by
                              intro N
                              induction N with
                              | zero => intros; omega
                              | succ N ih88 =>
                                intro xc xv c md hN88 hxc hc hxs6 hLd
                                have hbnd : (kd = 1 ∧ nCs n kd = n) ∨ (kd ≠ 1 ∧ nCs n kd = 1) := by unfold nCs; split <;> omega
                                have hset9 : SetM md (DV (mi 62)) := (SetM_of hwf).c ((hLd.1 62 (by decide)).trans (hFr_1 62 (by decide)))
                                have hrow9 := hrow1.c (hLd.1 65 (by decide)) (hLd.1 66 (by decide))
                                refine E_iload 7 dX6_listAll_88 rfl ?_
                                refine E_iload_n 3 dX6_listAll_90 rfl rfl ?_
                                refine E_iconst 1 (by decide) dX6_listAll_91 ?_
                                refine Z_ne (kd : Int) 1 hxk (show (1 : Int32).toInt = 1 from rfl) 99 dX6_listAll_92 (by decide) (fun c_92 => ?_) (fun c_92 => ?_)
                                · skip
                                  refine E_iconst 1 (by decide) dX6_listAll_99 ?_
                                  refine Z_ge (c : Int) 1 hxc (show (1 : Int32).toInt = 1 from rfl) 153 dX6_listAll_100 (by decide) (fun c_100 => ?_) (fun c_100 => ?_)
                                  · skip
                                    refine E_iinc 5 (xb + 1) [(5, .int (xb + 1)), (0, .ref 61), (1, .int xs), (2, .int (mi 62 5)), (3, .int xk), (4, .int xa), (6, .int xv), (7, .int xc)] dX6_listAll_153 rfl rfl (by decide) rfl ?_
                                    refine E_goto 47 dX6_listAll_156 (by decide) ?_
                                    refine E_sub [1, 2, 3, 4, 5, 0] rfl ?_
                                    exact ih47 (xb + 1) (b + 1) md (by omega) ((tI_add hxb (show (1 : Int32).toInt = 1 from rfl) (by omega)).trans (by omega)) (by omega) (by omega) (la_b hxs6 hLd (by first | exact Or.inl c_105 | exact Or.inr (by omega)))
                                  · skip
                                    refine E_iload 6 dX6_listAll_103 rfl ?_
                                    refine Y_eq xv.toInt rfl 153 dX6_listAll_105 (by decide) (fun c_105 => ?_) (fun c_105 => ?_)
                                    · skip
                                      refine E_iinc 5 (xb + 1) [(5, .int (xb + 1)), (0, .ref 61), (1, .int xs), (2, .int (mi 62 5)), (3, .int xk), (4, .int xa), (6, .int xv), (7, .int xc)] dX6_listAll_153 rfl rfl (by decide) rfl ?_
                                      refine E_goto 47 dX6_listAll_156 (by decide) ?_
                                      refine E_sub [1, 2, 3, 4, 5, 0] rfl ?_
                                      exact ih47 (xb + 1) (b + 1) md (by omega) ((tI_add hxb (show (1 : Int32).toInt = 1 from rfl) (by omega)).trans (by omega)) (by omega) (by omega) (la_b hxs6 hLd (by first | exact Or.inl c_105 | exact Or.inr (by omega)))
                                    · skip
                                      refine E_iload_n 3 dX6_listAll_108 rfl rfl ?_
                                      refine E_iconst 1 (by decide) dX6_listAll_109 ?_
                                      refine Z_ne (kd : Int) 1 hxk (show (1 : Int32).toInt = 1 from rfl) 136 dX6_listAll_110 (by decide) (fun c_110 => ?_) (fun c_110 => ?_)
                                      · skip
                                        refine E_aload_n 0 dX6_listAll_136 rfl rfl ?_
                                        refine E_iload_n 3 dX6_listAll_137 rfl rfl ?_
                                        refine E_iload 4 dX6_listAll_138 rfl ?_
                                        refine E_iload 5 dX6_listAll_140 rfl ?_
                                        refine E_iload 7 dX6_listAll_142 rfl ?_
                                        have hvB9 : vB s kd a b := hxs6.elim (fun q => q.2) (fun q => absurd (by rw [q.1]; rfl) c_105)
                                        have b1 := hvB9.1
                                        have b2 := hvB9.2.1
                                        refine E_callV (c_X6_lists l hfl md ml (mi 62 0).toInt.toNat (mi 62 1).toInt (mi 62 2).toInt (fun k => (mi 62 (6 + 2 * k)).toInt) (fun k => (mi 62 (7 + 2 * k)).toInt) n hset9 hrow9 (by omega) xk xa xb xc kd a b c (hxk.trans (by omega)) (hxa.trans (by omega)) (hxb.trans (by omega)) (hxc.trans (by omega)) (by omega) (by omega) (by omega) (by omega) (((stK (DV (mi 62)) s n kd ++ stA (DV (mi 62)) s n kd a ++ stB (DV (mi 62)) s n kd a b ++ stC (DV (mi 62)) s kd a b c)).length) hLd.2.2.1 (by simp only [List.length_append]; exact st_room h10 (by omega) (by omega) (by omega) (by omega) (by omega) (by omega))) cw_X6_101 (As := [.int xk, .int xa, .int xb, .int xc]) (st := []) wi_yX6_lists we_yX6_lists (ci := 6) (q := (RX6, TX6, 23)) rfl rfl (wl_atO tw_61) rfl ⟨Nat.le_of_ble_eq_true rfl, Nat.le_of_ble_eq_true rfl, Nat.le_of_ble_eq_true rfl, Nat.le_of_ble_eq_true rfl⟩ (Nat.le_of_ble_eq_true rfl) dX6_listAll_144 (fun _ _ h => h) rfl (kV (fun mi_144 ml_144 h_144 => ?_))
                                        obtain ⟨rfl, hl_144⟩ := h_144
                                        refine E_iinc 7 (xc + 1) [(7, .int (xc + 1)), (0, .ref 61), (1, .int xs), (2, .int (mi 62 5)), (3, .int xk), (4, .int xa), (5, .int xb), (6, .int xv)] dX6_listAll_147 rfl rfl (by decide) rfl ?_
                                        refine E_goto 88 dX6_listAll_150 (by decide) ?_
                                        refine E_sub [1, 2, 3, 4, 5, 6, 7, 0] rfl ?_
                                        exact ih88 (xc + 1) xv (c + 1) mi_144 (by omega) ((tI_add hxc (show (1 : Int32).toInt = 1 from rfl) (by omega)).trans (by omega)) (by omega) (Or.inl ⟨hxs6.elim (fun q => q.1) (fun q => absurd (by rw [q.1]; rfl) c_105), hxs6.elim (fun q => q.2) (fun q => absurd (by rw [q.1]; rfl) c_105)⟩) (by first | exact hl_144.elim (fun q => by rw [← q.2]; exact la_c0 hLd (fun z => q.1 z.2)) (fun q => la_c1 hLd (by first | exact Or.inl (by omega) | exact Or.inr ⟨by omega, by omega, c_133⟩) q.1 q.2.1 q.2.2.1 q.2.2.2.1 q.2.2.2.2.1 q.2.2.2.2.2) | exact la_c0 hLd (fun z => by exact z.1.elim (fun z => by omega) (fun z => by first | omega | exact c_133 z.2.2)))
                                      · skip
                                        refine E_iload 7 dX6_listAll_113 rfl ?_
                                        refine E_iload 4 dX6_listAll_115 rfl ?_
                                        refine Z_eq (c : Int) (a : Int) hxc hxa 147 dX6_listAll_117 (by decide) (fun c_117 => ?_) (fun c_117 => ?_)
                                        · skip
                                          refine E_iinc 7 (xc + 1) [(7, .int (xc + 1)), (0, .ref 61), (1, .int xs), (2, .int (mi 62 5)), (3, .int xk), (4, .int xa), (5, .int xb), (6, .int xv)] dX6_listAll_147 rfl rfl (by decide) rfl ?_
                                          refine E_goto 88 dX6_listAll_150 (by decide) ?_
                                          refine E_sub [1, 2, 3, 4, 5, 6, 7, 0] rfl ?_
                                          exact ih88 (xc + 1) xv (c + 1) md (by omega) ((tI_add hxc (show (1 : Int32).toInt = 1 from rfl) (by omega)).trans (by omega)) (by omega) (Or.inl ⟨hxs6.elim (fun q => q.1) (fun q => absurd (by rw [q.1]; rfl) c_105), hxs6.elim (fun q => q.2) (fun q => absurd (by rw [q.1]; rfl) c_105)⟩) (by first | exact hl_144.elim (fun q => by rw [← q.2]; exact la_c0 hLd (fun z => q.1 z.2)) (fun q => la_c1 hLd (by first | exact Or.inl (by omega) | exact Or.inr ⟨by omega, by omega, c_133⟩) q.1 q.2.1 q.2.2.1 q.2.2.2.1 q.2.2.2.2.1 q.2.2.2.2.2) | exact la_c0 hLd (fun z => by exact z.1.elim (fun z => by omega) (fun z => by first | omega | exact c_133 z.2.2)))
                                        · skip
                                          refine E_iload 7 dX6_listAll_120 rfl ?_
                                          refine E_iload 5 dX6_listAll_122 rfl ?_
                                          refine Z_eq (c : Int) (b : Int) hxc hxb 147 dX6_listAll_124 (by decide) (fun c_124 => ?_) (fun c_124 => ?_)
                                          · skip
                                            refine E_iinc 7 (xc + 1) [(7, .int (xc + 1)), (0, .ref 61), (1, .int xs), (2, .int (mi 62 5)), (3, .int xk), (4, .int xa), (5, .int xb), (6, .int xv)] dX6_listAll_147 rfl rfl (by decide) rfl ?_
                                            refine E_goto 88 dX6_listAll_150 (by decide) ?_
                                            refine E_sub [1, 2, 3, 4, 5, 6, 7, 0] rfl ?_
                                            exact ih88 (xc + 1) xv (c + 1) md (by omega) ((tI_add hxc (show (1 : Int32).toInt = 1 from rfl) (by omega)).trans (by omega)) (by omega) (Or.inl ⟨hxs6.elim (fun q => q.1) (fun q => absurd (by rw [q.1]; rfl) c_105), hxs6.elim (fun q => q.2) (fun q => absurd (by rw [q.1]; rfl) c_105)⟩) (by first | exact hl_144.elim (fun q => by rw [← q.2]; exact la_c0 hLd (fun z => q.1 z.2)) (fun q => la_c1 hLd (by first | exact Or.inl (by omega) | exact Or.inr ⟨by omega, by omega, c_133⟩) q.1 q.2.1 q.2.2.1 q.2.2.2.1 q.2.2.2.2.1 q.2.2.2.2.2) | exact la_c0 hLd (fun z => by exact z.1.elim (fun z => by omega) (fun z => by first | omega | exact c_133 z.2.2)))
                                          · skip
                                            refine E_iload_n 1 dX6_listAll_127 rfl rfl ?_
                                            refine E_iload 7 dX6_listAll_128 rfl ?_
                                            refine E_callS (c_X6_has l hfl md ml xs xc s c (hxs.trans (by omega)) (hxc.trans (by omega)) (by omega) (by omega)) cw_X6_85 (As := [.int xs, .int xc]) (st := []) ws_yX6_has rfl ⟨Nat.le_of_ble_eq_true rfl, Nat.le_of_ble_eq_true rfl, Nat.le_of_ble_eq_true rfl, Nat.le_of_ble_eq_true rfl⟩ (Nat.le_of_ble_eq_true rfl) dX6_listAll_130 (fun _ _ h => h) rfl (kE ?_)
                                            refine B_eq 147 dX6_listAll_133 (by decide) (fun c_133 => ?_) (fun c_133 => ?_)
                                            · skip
                                              refine E_iinc 7 (xc + 1) [(7, .int (xc + 1)), (0, .ref 61), (1, .int xs), (2, .int (mi 62 5)), (3, .int xk), (4, .int xa), (5, .int xb), (6, .int xv)] dX6_listAll_147 rfl rfl (by decide) rfl ?_
                                              refine E_goto 88 dX6_listAll_150 (by decide) ?_
                                              refine E_sub [1, 2, 3, 4, 5, 6, 7, 0] rfl ?_
                                              exact ih88 (xc + 1) xv (c + 1) md (by omega) ((tI_add hxc (show (1 : Int32).toInt = 1 from rfl) (by omega)).trans (by omega)) (by omega) (Or.inl ⟨hxs6.elim (fun q => q.1) (fun q => absurd (by rw [q.1]; rfl) c_105), hxs6.elim (fun q => q.2) (fun q => absurd (by rw [q.1]; rfl) c_105)⟩) (by first | exact hl_144.elim (fun q => by rw [← q.2]; exact la_c0 hLd (fun z => q.1 z.2)) (fun q => la_c1 hLd (by first | exact Or.inl (by omega) | exact Or.inr ⟨by omega, by omega, c_133⟩) q.1 q.2.1 q.2.2.1 q.2.2.2.1 q.2.2.2.2.1 q.2.2.2.2.2) | exact la_c0 hLd (fun z => by exact z.1.elim (fun z => by omega) (fun z => by first | omega | exact c_133 z.2.2)))
                                            · skip
                                              refine E_aload_n 0 dX6_listAll_136 rfl rfl ?_
                                              refine E_iload_n 3 dX6_listAll_137 rfl rfl ?_
                                              refine E_iload 4 dX6_listAll_138 rfl ?_
                                              refine E_iload 5 dX6_listAll_140 rfl ?_
                                              refine E_iload 7 dX6_listAll_142 rfl ?_
                                              have hvB9 : vB s kd a b := hxs6.elim (fun q => q.2) (fun q => absurd (by rw [q.1]; rfl) c_105)
                                              have b1 := hvB9.1
                                              have b2 := hvB9.2.1
                                              refine E_callV (c_X6_lists l hfl md ml (mi 62 0).toInt.toNat (mi 62 1).toInt (mi 62 2).toInt (fun k => (mi 62 (6 + 2 * k)).toInt) (fun k => (mi 62 (7 + 2 * k)).toInt) n hset9 hrow9 (by omega) xk xa xb xc kd a b c (hxk.trans (by omega)) (hxa.trans (by omega)) (hxb.trans (by omega)) (hxc.trans (by omega)) (by omega) (by omega) (by omega) (by omega) (((stK (DV (mi 62)) s n kd ++ stA (DV (mi 62)) s n kd a ++ stB (DV (mi 62)) s n kd a b ++ stC (DV (mi 62)) s kd a b c)).length) hLd.2.2.1 (by simp only [List.length_append]; exact st_room h10 (by omega) (by omega) (by omega) (by omega) (by omega) (by omega))) cw_X6_101 (As := [.int xk, .int xa, .int xb, .int xc]) (st := []) wi_yX6_lists we_yX6_lists (ci := 6) (q := (RX6, TX6, 23)) rfl rfl (wl_atO tw_61) rfl ⟨Nat.le_of_ble_eq_true rfl, Nat.le_of_ble_eq_true rfl, Nat.le_of_ble_eq_true rfl, Nat.le_of_ble_eq_true rfl⟩ (Nat.le_of_ble_eq_true rfl) dX6_listAll_144 (fun _ _ h => h) rfl (kV (fun mi_144 ml_144 h_144 => ?_))
                                              obtain ⟨rfl, hl_144⟩ := h_144
                                              refine E_iinc 7 (xc + 1) [(7, .int (xc + 1)), (0, .ref 61), (1, .int xs), (2, .int (mi 62 5)), (3, .int xk), (4, .int xa), (5, .int xb), (6, .int xv)] dX6_listAll_147 rfl rfl (by decide) rfl ?_
                                              refine E_goto 88 dX6_listAll_150 (by decide) ?_
                                              refine E_sub [1, 2, 3, 4, 5, 6, 7, 0] rfl ?_
                                              exact ih88 (xc + 1) xv (c + 1) mi_144 (by omega) ((tI_add hxc (show (1 : Int32).toInt = 1 from rfl) (by omega)).trans (by omega)) (by omega) (Or.inl ⟨hxs6.elim (fun q => q.1) (fun q => absurd (by rw [q.1]; rfl) c_105), hxs6.elim (fun q => q.2) (fun q => absurd (by rw [q.1]; rfl) c_105)⟩) (by first | exact hl_144.elim (fun q => by rw [← q.2]; exact la_c0 hLd (fun z => q.1 z.2)) (fun q => la_c1 hLd (by first | exact Or.inl (by omega) | exact Or.inr ⟨by omega, by omega, c_133⟩) q.1 q.2.1 q.2.2.1 q.2.2.2.1 q.2.2.2.2.1 q.2.2.2.2.2) | exact la_c0 hLd (fun z => by exact z.1.elim (fun z => by omega) (fun z => by first | omega | exact c_133 z.2.2)))
                                · skip
                                  refine E_iload_n 2 dX6_listAll_95 rfl rfl ?_
                                  refine E_goto 100 dX6_listAll_96 (by decide) ?_
                                  refine Z_ge (c : Int) (n : Int) hxc hn 153 dX6_listAll_100 (by decide) (fun c_100 => ?_) (fun c_100 => ?_)
                                  · skip
                                    refine E_iinc 5 (xb + 1) [(5, .int (xb + 1)), (0, .ref 61), (1, .int xs), (2, .int (mi 62 5)), (3, .int xk), (4, .int xa), (6, .int xv), (7, .int xc)] dX6_listAll_153 rfl rfl (by decide) rfl ?_
                                    refine E_goto 47 dX6_listAll_156 (by decide) ?_
                                    refine E_sub [1, 2, 3, 4, 5, 0] rfl ?_
                                    exact ih47 (xb + 1) (b + 1) md (by omega) ((tI_add hxb (show (1 : Int32).toInt = 1 from rfl) (by omega)).trans (by omega)) (by omega) (by omega) (la_b hxs6 hLd (by first | exact Or.inl c_105 | exact Or.inr (by omega)))
                                  · skip
                                    refine E_iload 6 dX6_listAll_103 rfl ?_
                                    refine Y_eq xv.toInt rfl 153 dX6_listAll_105 (by decide) (fun c_105 => ?_) (fun c_105 => ?_)
                                    · skip
                                      refine E_iinc 5 (xb + 1) [(5, .int (xb + 1)), (0, .ref 61), (1, .int xs), (2, .int (mi 62 5)), (3, .int xk), (4, .int xa), (6, .int xv), (7, .int xc)] dX6_listAll_153 rfl rfl (by decide) rfl ?_
                                      refine E_goto 47 dX6_listAll_156 (by decide) ?_
                                      refine E_sub [1, 2, 3, 4, 5, 0] rfl ?_
                                      exact ih47 (xb + 1) (b + 1) md (by omega) ((tI_add hxb (show (1 : Int32).toInt = 1 from rfl) (by omega)).trans (by omega)) (by omega) (by omega) (la_b hxs6 hLd (by first | exact Or.inl c_105 | exact Or.inr (by omega)))
                                    · skip
                                      refine E_iload_n 3 dX6_listAll_108 rfl rfl ?_
                                      refine E_iconst 1 (by decide) dX6_listAll_109 ?_
                                      refine Z_ne (kd : Int) 1 hxk (show (1 : Int32).toInt = 1 from rfl) 136 dX6_listAll_110 (by decide) (fun c_110 => ?_) (fun c_110 => ?_)
                                      · skip
                                        refine E_aload_n 0 dX6_listAll_136 rfl rfl ?_
                                        refine E_iload_n 3 dX6_listAll_137 rfl rfl ?_
                                        refine E_iload 4 dX6_listAll_138 rfl ?_
                                        refine E_iload 5 dX6_listAll_140 rfl ?_
                                        refine E_iload 7 dX6_listAll_142 rfl ?_
                                        have hvB9 : vB s kd a b := hxs6.elim (fun q => q.2) (fun q => absurd (by rw [q.1]; rfl) c_105)
                                        have b1 := hvB9.1
                                        have b2 := hvB9.2.1
                                        refine E_callV (c_X6_lists l hfl md ml (mi 62 0).toInt.toNat (mi 62 1).toInt (mi 62 2).toInt (fun k => (mi 62 (6 + 2 * k)).toInt) (fun k => (mi 62 (7 + 2 * k)).toInt) n hset9 hrow9 (by omega) xk xa xb xc kd a b c (hxk.trans (by omega)) (hxa.trans (by omega)) (hxb.trans (by omega)) (hxc.trans (by omega)) (by omega) (by omega) (by omega) (by omega) (((stK (DV (mi 62)) s n kd ++ stA (DV (mi 62)) s n kd a ++ stB (DV (mi 62)) s n kd a b ++ stC (DV (mi 62)) s kd a b c)).length) hLd.2.2.1 (by simp only [List.length_append]; exact st_room h10 (by omega) (by omega) (by omega) (by omega) (by omega) (by omega))) cw_X6_101 (As := [.int xk, .int xa, .int xb, .int xc]) (st := []) wi_yX6_lists we_yX6_lists (ci := 6) (q := (RX6, TX6, 23)) rfl rfl (wl_atO tw_61) rfl ⟨Nat.le_of_ble_eq_true rfl, Nat.le_of_ble_eq_true rfl, Nat.le_of_ble_eq_true rfl, Nat.le_of_ble_eq_true rfl⟩ (Nat.le_of_ble_eq_true rfl) dX6_listAll_144 (fun _ _ h => h) rfl (kV (fun mi_144 ml_144 h_144 => ?_))
                                        obtain ⟨rfl, hl_144⟩ := h_144
                                        refine E_iinc 7 (xc + 1) [(7, .int (xc + 1)), (0, .ref 61), (1, .int xs), (2, .int (mi 62 5)), (3, .int xk), (4, .int xa), (5, .int xb), (6, .int xv)] dX6_listAll_147 rfl rfl (by decide) rfl ?_
                                        refine E_goto 88 dX6_listAll_150 (by decide) ?_
                                        refine E_sub [1, 2, 3, 4, 5, 6, 7, 0] rfl ?_
                                        exact ih88 (xc + 1) xv (c + 1) mi_144 (by omega) ((tI_add hxc (show (1 : Int32).toInt = 1 from rfl) (by omega)).trans (by omega)) (by omega) (Or.inl ⟨hxs6.elim (fun q => q.1) (fun q => absurd (by rw [q.1]; rfl) c_105), hxs6.elim (fun q => q.2) (fun q => absurd (by rw [q.1]; rfl) c_105)⟩) (by first | exact hl_144.elim (fun q => by rw [← q.2]; exact la_c0 hLd (fun z => q.1 z.2)) (fun q => la_c1 hLd (by first | exact Or.inl (by omega) | exact Or.inr ⟨by omega, by omega, c_133⟩) q.1 q.2.1 q.2.2.1 q.2.2.2.1 q.2.2.2.2.1 q.2.2.2.2.2) | exact la_c0 hLd (fun z => by exact z.1.elim (fun z => by omega) (fun z => by first | omega | exact c_133 z.2.2)))
                                      · skip
                                        refine E_iload 7 dX6_listAll_113 rfl ?_
                                        refine E_iload 4 dX6_listAll_115 rfl ?_
                                        refine Z_eq (c : Int) (a : Int) hxc hxa 147 dX6_listAll_117 (by decide) (fun c_117 => ?_) (fun c_117 => ?_)
                                        · skip
                                          refine E_iinc 7 (xc + 1) [(7, .int (xc + 1)), (0, .ref 61), (1, .int xs), (2, .int (mi 62 5)), (3, .int xk), (4, .int xa), (5, .int xb), (6, .int xv)] dX6_listAll_147 rfl rfl (by decide) rfl ?_
                                          refine E_goto 88 dX6_listAll_150 (by decide) ?_
                                          refine E_sub [1, 2, 3, 4, 5, 6, 7, 0] rfl ?_
                                          exact ih88 (xc + 1) xv (c + 1) md (by omega) ((tI_add hxc (show (1 : Int32).toInt = 1 from rfl) (by omega)).trans (by omega)) (by omega) (Or.inl ⟨hxs6.elim (fun q => q.1) (fun q => absurd (by rw [q.1]; rfl) c_105), hxs6.elim (fun q => q.2) (fun q => absurd (by rw [q.1]; rfl) c_105)⟩) (by first | exact hl_144.elim (fun q => by rw [← q.2]; exact la_c0 hLd (fun z => q.1 z.2)) (fun q => la_c1 hLd (by first | exact Or.inl (by omega) | exact Or.inr ⟨by omega, by omega, c_133⟩) q.1 q.2.1 q.2.2.1 q.2.2.2.1 q.2.2.2.2.1 q.2.2.2.2.2) | exact la_c0 hLd (fun z => by exact z.1.elim (fun z => by omega) (fun z => by first | omega | exact c_133 z.2.2)))
                                        · skip
                                          refine E_iload 7 dX6_listAll_120 rfl ?_
                                          refine E_iload 5 dX6_listAll_122 rfl ?_
                                          refine Z_eq (c : Int) (b : Int) hxc hxb 147 dX6_listAll_124 (by decide) (fun c_124 => ?_) (fun c_124 => ?_)
                                          · skip
                                            refine E_iinc 7 (xc + 1) [(7, .int (xc + 1)), (0, .ref 61), (1, .int xs), (2, .int (mi 62 5)), (3, .int xk), (4, .int xa), (5, .int xb), (6, .int xv)] dX6_listAll_147 rfl rfl (by decide) rfl ?_
                                            refine E_goto 88 dX6_listAll_150 (by decide) ?_
                                            refine E_sub [1, 2, 3, 4, 5, 6, 7, 0] rfl ?_
                                            exact ih88 (xc + 1) xv (c + 1) md (by omega) ((tI_add hxc (show (1 : Int32).toInt = 1 from rfl) (by omega)).trans (by omega)) (by omega) (Or.inl ⟨hxs6.elim (fun q => q.1) (fun q => absurd (by rw [q.1]; rfl) c_105), hxs6.elim (fun q => q.2) (fun q => absurd (by rw [q.1]; rfl) c_105)⟩) (by first | exact hl_144.elim (fun q => by rw [← q.2]; exact la_c0 hLd (fun z => q.1 z.2)) (fun q => la_c1 hLd (by first | exact Or.inl (by omega) | exact Or.inr ⟨by omega, by omega, c_133⟩) q.1 q.2.1 q.2.2.1 q.2.2.2.1 q.2.2.2.2.1 q.2.2.2.2.2) | exact la_c0 hLd (fun z => by exact z.1.elim (fun z => by omega) (fun z => by first | omega | exact c_133 z.2.2)))
                                          · skip
                                            refine E_iload_n 1 dX6_listAll_127 rfl rfl ?_
                                            refine E_iload 7 dX6_listAll_128 rfl ?_
                                            refine E_callS (c_X6_has l hfl md ml xs xc s c (hxs.trans (by omega)) (hxc.trans (by omega)) (by omega) (by omega)) cw_X6_85 (As := [.int xs, .int xc]) (st := []) ws_yX6_has rfl ⟨Nat.le_of_ble_eq_true rfl, Nat.le_of_ble_eq_true rfl, Nat.le_of_ble_eq_true rfl, Nat.le_of_ble_eq_true rfl⟩ (Nat.le_of_ble_eq_true rfl) dX6_listAll_130 (fun _ _ h => h) rfl (kE ?_)
                                            refine B_eq 147 dX6_listAll_133 (by decide) (fun c_133 => ?_) (fun c_133 => ?_)
                                            · skip
                                              refine E_iinc 7 (xc + 1) [(7, .int (xc + 1)), (0, .ref 61), (1, .int xs), (2, .int (mi 62 5)), (3, .int xk), (4, .int xa), (5, .int xb), (6, .int xv)] dX6_listAll_147 rfl rfl (by decide) rfl ?_
                                              refine E_goto 88 dX6_listAll_150 (by decide) ?_
                                              refine E_sub [1, 2, 3, 4, 5, 6, 7, 0] rfl ?_
                                              exact ih88 (xc + 1) xv (c + 1) md (by omega) ((tI_add hxc (show (1 : Int32).toInt = 1 from rfl) (by omega)).trans (by omega)) (by omega) (Or.inl ⟨hxs6.elim (fun q => q.1) (fun q => absurd (by rw [q.1]; rfl) c_105), hxs6.elim (fun q => q.2) (fun q => absurd (by rw [q.1]; rfl) c_105)⟩) (by first | exact hl_144.elim (fun q => by rw [← q.2]; exact la_c0 hLd (fun z => q.1 z.2)) (fun q => la_c1 hLd (by first | exact Or.inl (by omega) | exact Or.inr ⟨by omega, by omega, c_133⟩) q.1 q.2.1 q.2.2.1 q.2.2.2.1 q.2.2.2.2.1 q.2.2.2.2.2) | exact la_c0 hLd (fun z => by exact z.1.elim (fun z => by omega) (fun z => by first | omega | exact c_133 z.2.2)))
                                            · skip
                                              refine E_aload_n 0 dX6_listAll_136 rfl rfl ?_
                                              refine E_iload_n 3 dX6_listAll_137 rfl rfl ?_
                                              refine E_iload 4 dX6_listAll_138 rfl ?_
                                              refine E_iload 5 dX6_listAll_140 rfl ?_
                                              refine E_iload 7 dX6_listAll_142 rfl ?_
                                              have hvB9 : vB s kd a b := hxs6.elim (fun q => q.2) (fun q => absurd (by rw [q.1]; rfl) c_105)
                                              have b1 := hvB9.1
                                              have b2 := hvB9.2.1
                                              refine E_callV (c_X6_lists l hfl md ml (mi 62 0).toInt.toNat (mi 62 1).toInt (mi 62 2).toInt (fun k => (mi 62 (6 + 2 * k)).toInt) (fun k => (mi 62 (7 + 2 * k)).toInt) n hset9 hrow9 (by omega) xk xa xb xc kd a b c (hxk.trans (by omega)) (hxa.trans (by omega)) (hxb.trans (by omega)) (hxc.trans (by omega)) (by omega) (by omega) (by omega) (by omega) (((stK (DV (mi 62)) s n kd ++ stA (DV (mi 62)) s n kd a ++ stB (DV (mi 62)) s n kd a b ++ stC (DV (mi 62)) s kd a b c)).length) hLd.2.2.1 (by simp only [List.length_append]; exact st_room h10 (by omega) (by omega) (by omega) (by omega) (by omega) (by omega))) cw_X6_101 (As := [.int xk, .int xa, .int xb, .int xc]) (st := []) wi_yX6_lists we_yX6_lists (ci := 6) (q := (RX6, TX6, 23)) rfl rfl (wl_atO tw_61) rfl ⟨Nat.le_of_ble_eq_true rfl, Nat.le_of_ble_eq_true rfl, Nat.le_of_ble_eq_true rfl, Nat.le_of_ble_eq_true rfl⟩ (Nat.le_of_ble_eq_true rfl) dX6_listAll_144 (fun _ _ h => h) rfl (kV (fun mi_144 ml_144 h_144 => ?_))
                                              obtain ⟨rfl, hl_144⟩ := h_144
                                              refine E_iinc 7 (xc + 1) [(7, .int (xc + 1)), (0, .ref 61), (1, .int xs), (2, .int (mi 62 5)), (3, .int xk), (4, .int xa), (5, .int xb), (6, .int xv)] dX6_listAll_147 rfl rfl (by decide) rfl ?_
                                              refine E_goto 88 dX6_listAll_150 (by decide) ?_
                                              refine E_sub [1, 2, 3, 4, 5, 6, 7, 0] rfl ?_
                                              exact ih88 (xc + 1) xv (c + 1) mi_144 (by omega) ((tI_add hxc (show (1 : Int32).toInt = 1 from rfl) (by omega)).trans (by omega)) (by omega) (Or.inl ⟨hxs6.elim (fun q => q.1) (fun q => absurd (by rw [q.1]; rfl) c_105), hxs6.elim (fun q => q.2) (fun q => absurd (by rw [q.1]; rfl) c_105)⟩) (by first | exact hl_144.elim (fun q => by rw [← q.2]; exact la_c0 hLd (fun z => q.1 z.2)) (fun q => la_c1 hLd (by first | exact Or.inl (by omega) | exact Or.inr ⟨by omega, by omega, c_133⟩) q.1 q.2.1 q.2.2.1 q.2.2.2.1 q.2.2.2.2.1 q.2.2.2.2.2) | exact la_c0 hLd (fun z => by exact z.1.elim (fun z => by omega) (fun z => by first | omega | exact c_133 z.2.2)))
                            refine E_sub [2, 3, 4, 5, 6, 7, 1, 0] rfl ?_
                            exact J88 _ 0 0 0 mc (Nat.lt_succ_self _) (show (0 : Int32).toInt = 0 from rfl) (by omega) (by first | exact Or.inl ⟨rfl, vB_t hkab c_57 c_66 c_75⟩ | exact Or.inr ⟨rfl, fun q => c_66 q.2.2.1, rfl⟩ | exact Or.inr ⟨rfl, fun q => c_75 q.2.2.2, rfl⟩ | exact Or.inr ⟨rfl, fun q => q.2.1 (by omega), rfl⟩) (by rw [show stC (DV (mi 62)) s kd a b 0 = [] from rfl, List.append_nil]; exact hLc)
                          · skip
                            refine E_iconst 1 (by decide) dX6_listAll_78 ?_
                            refine E_goto 83 dX6_listAll_79 (by decide) ?_
                            refine E_istore [(6, .int 1), (0, .ref 61), (1, .int xs), (2, .int (mi 62 5)), (3, .int xk), (4, .int xa), (5, .int xb)] dX6_listAll_83 (by decide) rfl ?_
                            refine E_iconst 0 (by decide) dX6_listAll_85 ?_
                            refine E_istore [(7, .int 0), (6, .int 1), (0, .ref 61), (1, .int xs), (2, .int (mi 62 5)), (3, .int xk), (4, .int xa), (5, .int xb)] dX6_listAll_86 (by decide) rfl ?_
                            have J88 : ∀ (N : Nat) (xc xv : Int32) (c : Nat) (md : MI), n + 1 - c < N → xc.toInt = (c : Int) → c ≤ nCs n kd → ((xv = 1 ∧ vB s kd a b) ∨ (xv = 0 ∧ ¬ vB s kd a b ∧ c = 0)) → LsP (DV (mi 62)) mi_1 md (stK (DV (mi 62)) s n kd ++ stA (DV (mi 62)) s n kd a ++ stB (DV (mi 62)) s n kd a b ++ stC (DV (mi 62)) s kd a b c) → E l RX6 cX6_listAll 8 none false [] (rmE 4 0 0) (wl mi ml) (TgM (wl mi ml) 0 0 (QV (fun mi9 ml9 => ml = ml9 ∧ Fr [61, 65, 66, 67] mi mi9 ∧ (∀ k, k ≠ 9 → mi9 61 k = mi 61 k) ∧ (mi9 61 9).toInt = ((stK (DV (mi 62)) s n 3).length : Int) ∧ encd (DV (mi 62)) (mi9 67) (stK (DV (mi 62)) s n 3))) noX) 0 0 88 [(0, .ref 61), (1, .int xs), (2, .int (mi 62 5)), (3, .int xk), (4, .int xa), (5, .int xb), (6, .int xv), (7, .int xc)] [] (wl md ml) := by
                              intro N
                              induction N with
                              | zero => intros; omega
                              | succ N ih88 =>
                                intro xc xv c md hN88 hxc hc hxs6 hLd
                                have hbnd : (kd = 1 ∧ nCs n kd = n) ∨ (kd ≠ 1 ∧ nCs n kd = 1) := by unfold nCs; split <;> omega
                                have hset9 : SetM md (DV (mi 62)) := (SetM_of hwf).c ((hLd.1 62 (by decide)).trans (hFr_1 62 (by decide)))
                                have hrow9 := hrow1.c (hLd.1 65 (by decide)) (hLd.1 66 (by decide))
                                refine E_iload 7 dX6_listAll_88 rfl ?_
                                refine E_iload_n 3 dX6_listAll_90 rfl rfl ?_
                                refine E_iconst 1 (by decide) dX6_listAll_91 ?_
                                refine Z_ne (kd : Int) 1 hxk (show (1 : Int32).toInt = 1 from rfl) 99 dX6_listAll_92 (by decide) (fun c_92 => ?_) (fun c_92 => ?_)
                                · skip
                                  refine E_iconst 1 (by decide) dX6_listAll_99 ?_
                                  refine Z_ge (c : Int) 1 hxc (show (1 : Int32).toInt = 1 from rfl) 153 dX6_listAll_100 (by decide) (fun c_100 => ?_) (fun c_100 => ?_)
                                  · skip
                                    refine E_iinc 5 (xb + 1) [(5, .int (xb + 1)), (0, .ref 61), (1, .int xs), (2, .int (mi 62 5)), (3, .int xk), (4, .int xa), (6, .int xv), (7, .int xc)] dX6_listAll_153 rfl rfl (by decide) rfl ?_
                                    refine E_goto 47 dX6_listAll_156 (by decide) ?_
                                    refine E_sub [1, 2, 3, 4, 5, 0] rfl ?_
                                    exact ih47 (xb + 1) (b + 1) md (by omega) ((tI_add hxb (show (1 : Int32).toInt = 1 from rfl) (by omega)).trans (by omega)) (by omega) (by omega) (la_b hxs6 hLd (by first | exact Or.inl c_105 | exact Or.inr (by omega)))
                                  · skip
                                    refine E_iload 6 dX6_listAll_103 rfl ?_
                                    refine Y_eq xv.toInt rfl 153 dX6_listAll_105 (by decide) (fun c_105 => ?_) (fun c_105 => ?_)
                                    · skip
                                      refine E_iinc 5 (xb + 1) [(5, .int (xb + 1)), (0, .ref 61), (1, .int xs), (2, .int (mi 62 5)), (3, .int xk), (4, .int xa), (6, .int xv), (7, .int xc)] dX6_listAll_153 rfl rfl (by decide) rfl ?_
                                      refine E_goto 47 dX6_listAll_156 (by decide) ?_
                                      refine E_sub [1, 2, 3, 4, 5, 0] rfl ?_
                                      exact ih47 (xb + 1) (b + 1) md (by omega) ((tI_add hxb (show (1 : Int32).toInt = 1 from rfl) (by omega)).trans (by omega)) (by omega) (by omega) (la_b hxs6 hLd (by first | exact Or.inl c_105 | exact Or.inr (by omega)))
                                    · skip
                                      refine E_iload_n 3 dX6_listAll_108 rfl rfl ?_
                                      refine E_iconst 1 (by decide) dX6_listAll_109 ?_
                                      refine Z_ne (kd : Int) 1 hxk (show (1 : Int32).toInt = 1 from rfl) 136 dX6_listAll_110 (by decide) (fun c_110 => ?_) (fun c_110 => ?_)
                                      · skip
                                        refine E_aload_n 0 dX6_listAll_136 rfl rfl ?_
                                        refine E_iload_n 3 dX6_listAll_137 rfl rfl ?_
                                        refine E_iload 4 dX6_listAll_138 rfl ?_
                                        refine E_iload 5 dX6_listAll_140 rfl ?_
                                        refine E_iload 7 dX6_listAll_142 rfl ?_
                                        have hvB9 : vB s kd a b := hxs6.elim (fun q => q.2) (fun q => absurd (by rw [q.1]; rfl) c_105)
                                        have b1 := hvB9.1
                                        have b2 := hvB9.2.1
                                        refine E_callV (c_X6_lists l hfl md ml (mi 62 0).toInt.toNat (mi 62 1).toInt (mi 62 2).toInt (fun k => (mi 62 (6 + 2 * k)).toInt) (fun k => (mi 62 (7 + 2 * k)).toInt) n hset9 hrow9 (by omega) xk xa xb xc kd a b c (hxk.trans (by omega)) (hxa.trans (by omega)) (hxb.trans (by omega)) (hxc.trans (by omega)) (by omega) (by omega) (by omega) (by omega) (((stK (DV (mi 62)) s n kd ++ stA (DV (mi 62)) s n kd a ++ stB (DV (mi 62)) s n kd a b ++ stC (DV (mi 62)) s kd a b c)).length) hLd.2.2.1 (by simp only [List.length_append]; exact st_room h10 (by omega) (by omega) (by omega) (by omega) (by omega) (by omega))) cw_X6_101 (As := [.int xk, .int xa, .int xb, .int xc]) (st := []) wi_yX6_lists we_yX6_lists (ci := 6) (q := (RX6, TX6, 23)) rfl rfl (wl_atO tw_61) rfl ⟨Nat.le_of_ble_eq_true rfl, Nat.le_of_ble_eq_true rfl, Nat.le_of_ble_eq_true rfl, Nat.le_of_ble_eq_true rfl⟩ (Nat.le_of_ble_eq_true rfl) dX6_listAll_144 (fun _ _ h => h) rfl (kV (fun mi_144 ml_144 h_144 => ?_))
                                        obtain ⟨rfl, hl_144⟩ := h_144
                                        refine E_iinc 7 (xc + 1) [(7, .int (xc + 1)), (0, .ref 61), (1, .int xs), (2, .int (mi 62 5)), (3, .int xk), (4, .int xa), (5, .int xb), (6, .int xv)] dX6_listAll_147 rfl rfl (by decide) rfl ?_
                                        refine E_goto 88 dX6_listAll_150 (by decide) ?_
                                        refine E_sub [1, 2, 3, 4, 5, 6, 7, 0] rfl ?_
                                        exact ih88 (xc + 1) xv (c + 1) mi_144 (by omega) ((tI_add hxc (show (1 : Int32).toInt = 1 from rfl) (by omega)).trans (by omega)) (by omega) (Or.inl ⟨hxs6.elim (fun q => q.1) (fun q => absurd (by rw [q.1]; rfl) c_105), hxs6.elim (fun q => q.2) (fun q => absurd (by rw [q.1]; rfl) c_105)⟩) (by first | exact hl_144.elim (fun q => by rw [← q.2]; exact la_c0 hLd (fun z => q.1 z.2)) (fun q => la_c1 hLd (by first | exact Or.inl (by omega) | exact Or.inr ⟨by omega, by omega, c_133⟩) q.1 q.2.1 q.2.2.1 q.2.2.2.1 q.2.2.2.2.1 q.2.2.2.2.2) | exact la_c0 hLd (fun z => by exact z.1.elim (fun z => by omega) (fun z => by first | omega | exact c_133 z.2.2)))
                                      · skip
                                        refine E_iload 7 dX6_listAll_113 rfl ?_
                                        refine E_iload 4 dX6_listAll_115 rfl ?_
                                        refine Z_eq (c : Int) (a : Int) hxc hxa 147 dX6_listAll_117 (by decide) (fun c_117 => ?_) (fun c_117 => ?_)
                                        · skip
                                          refine E_iinc 7 (xc + 1) [(7, .int (xc + 1)), (0, .ref 61), (1, .int xs), (2, .int (mi 62 5)), (3, .int xk), (4, .int xa), (5, .int xb), (6, .int xv)] dX6_listAll_147 rfl rfl (by decide) rfl ?_
                                          refine E_goto 88 dX6_listAll_150 (by decide) ?_
                                          refine E_sub [1, 2, 3, 4, 5, 6, 7, 0] rfl ?_
                                          exact ih88 (xc + 1) xv (c + 1) md (by omega) ((tI_add hxc (show (1 : Int32).toInt = 1 from rfl) (by omega)).trans (by omega)) (by omega) (Or.inl ⟨hxs6.elim (fun q => q.1) (fun q => absurd (by rw [q.1]; rfl) c_105), hxs6.elim (fun q => q.2) (fun q => absurd (by rw [q.1]; rfl) c_105)⟩) (by first | exact hl_144.elim (fun q => by rw [← q.2]; exact la_c0 hLd (fun z => q.1 z.2)) (fun q => la_c1 hLd (by first | exact Or.inl (by omega) | exact Or.inr ⟨by omega, by omega, c_133⟩) q.1 q.2.1 q.2.2.1 q.2.2.2.1 q.2.2.2.2.1 q.2.2.2.2.2) | exact la_c0 hLd (fun z => by exact z.1.elim (fun z => by omega) (fun z => by first | omega | exact c_133 z.2.2)))
                                        · skip
                                          refine E_iload 7 dX6_listAll_120 rfl ?_
                                          refine E_iload 5 dX6_listAll_122 rfl ?_
                                          refine Z_eq (c : Int) (b : Int) hxc hxb 147 dX6_listAll_124 (by decide) (fun c_124 => ?_) (fun c_124 => ?_)
                                          · skip
                                            refine E_iinc 7 (xc + 1) [(7, .int (xc + 1)), (0, .ref 61), (1, .int xs), (2, .int (mi 62 5)), (3, .int xk), (4, .int xa), (5, .int xb), (6, .int xv)] dX6_listAll_147 rfl rfl (by decide) rfl ?_
                                            refine E_goto 88 dX6_listAll_150 (by decide) ?_
                                            refine E_sub [1, 2, 3, 4, 5, 6, 7, 0] rfl ?_
                                            exact ih88 (xc + 1) xv (c + 1) md (by omega) ((tI_add hxc (show (1 : Int32).toInt = 1 from rfl) (by omega)).trans (by omega)) (by omega) (Or.inl ⟨hxs6.elim (fun q => q.1) (fun q => absurd (by rw [q.1]; rfl) c_105), hxs6.elim (fun q => q.2) (fun q => absurd (by rw [q.1]; rfl) c_105)⟩) (by first | exact hl_144.elim (fun q => by rw [← q.2]; exact la_c0 hLd (fun z => q.1 z.2)) (fun q => la_c1 hLd (by first | exact Or.inl (by omega) | exact Or.inr ⟨by omega, by omega, c_133⟩) q.1 q.2.1 q.2.2.1 q.2.2.2.1 q.2.2.2.2.1 q.2.2.2.2.2) | exact la_c0 hLd (fun z => by exact z.1.elim (fun z => by omega) (fun z => by first | omega | exact c_133 z.2.2)))
                                          · skip
                                            refine E_iload_n 1 dX6_listAll_127 rfl rfl ?_
                                            refine E_iload 7 dX6_listAll_128 rfl ?_
                                            refine E_callS (c_X6_has l hfl md ml xs xc s c (hxs.trans (by omega)) (hxc.trans (by omega)) (by omega) (by omega)) cw_X6_85 (As := [.int xs, .int xc]) (st := []) ws_yX6_has rfl ⟨Nat.le_of_ble_eq_true rfl, Nat.le_of_ble_eq_true rfl, Nat.le_of_ble_eq_true rfl, Nat.le_of_ble_eq_true rfl⟩ (Nat.le_of_ble_eq_true rfl) dX6_listAll_130 (fun _ _ h => h) rfl (kE ?_)
                                            refine B_eq 147 dX6_listAll_133 (by decide) (fun c_133 => ?_) (fun c_133 => ?_)
                                            · skip
                                              refine E_iinc 7 (xc + 1) [(7, .int (xc + 1)), (0, .ref 61), (1, .int xs), (2, .int (mi 62 5)), (3, .int xk), (4, .int xa), (5, .int xb), (6, .int xv)] dX6_listAll_147 rfl rfl (by decide) rfl ?_
                                              refine E_goto 88 dX6_listAll_150 (by decide) ?_
                                              refine E_sub [1, 2, 3, 4, 5, 6, 7, 0] rfl ?_
                                              exact ih88 (xc + 1) xv (c + 1) md (by omega) ((tI_add hxc (show (1 : Int32).toInt = 1 from rfl) (by omega)).trans (by omega)) (by omega) (Or.inl ⟨hxs6.elim (fun q => q.1) (fun q => absurd (by rw [q.1]; rfl) c_105), hxs6.elim (fun q => q.2) (fun q => absurd (by rw [q.1]; rfl) c_105)⟩) (by first | exact hl_144.elim (fun q => by rw [← q.2]; exact la_c0 hLd (fun z => q.1 z.2)) (fun q => la_c1 hLd (by first | exact Or.inl (by omega) | exact Or.inr ⟨by omega, by omega, c_133⟩) q.1 q.2.1 q.2.2.1 q.2.2.2.1 q.2.2.2.2.1 q.2.2.2.2.2) | exact la_c0 hLd (fun z => by exact z.1.elim (fun z => by omega) (fun z => by first | omega | exact c_133 z.2.2)))
                                            · skip
                                              refine E_aload_n 0 dX6_listAll_136 rfl rfl ?_
                                              refine E_iload_n 3 dX6_listAll_137 rfl rfl ?_
                                              refine E_iload 4 dX6_listAll_138 rfl ?_
                                              refine E_iload 5 dX6_listAll_140 rfl ?_
                                              refine E_iload 7 dX6_listAll_142 rfl ?_
                                              have hvB9 : vB s kd a b := hxs6.elim (fun q => q.2) (fun q => absurd (by rw [q.1]; rfl) c_105)
                                              have b1 := hvB9.1
                                              have b2 := hvB9.2.1
                                              refine E_callV (c_X6_lists l hfl md ml (mi 62 0).toInt.toNat (mi 62 1).toInt (mi 62 2).toInt (fun k => (mi 62 (6 + 2 * k)).toInt) (fun k => (mi 62 (7 + 2 * k)).toInt) n hset9 hrow9 (by omega) xk xa xb xc kd a b c (hxk.trans (by omega)) (hxa.trans (by omega)) (hxb.trans (by omega)) (hxc.trans (by omega)) (by omega) (by omega) (by omega) (by omega) (((stK (DV (mi 62)) s n kd ++ stA (DV (mi 62)) s n kd a ++ stB (DV (mi 62)) s n kd a b ++ stC (DV (mi 62)) s kd a b c)).length) hLd.2.2.1 (by simp only [List.length_append]; exact st_room h10 (by omega) (by omega) (by omega) (by omega) (by omega) (by omega))) cw_X6_101 (As := [.int xk, .int xa, .int xb, .int xc]) (st := []) wi_yX6_lists we_yX6_lists (ci := 6) (q := (RX6, TX6, 23)) rfl rfl (wl_atO tw_61) rfl ⟨Nat.le_of_ble_eq_true rfl, Nat.le_of_ble_eq_true rfl, Nat.le_of_ble_eq_true rfl, Nat.le_of_ble_eq_true rfl⟩ (Nat.le_of_ble_eq_true rfl) dX6_listAll_144 (fun _ _ h => h) rfl (kV (fun mi_144 ml_144 h_144 => ?_))
                                              obtain ⟨rfl, hl_144⟩ := h_144
                                              refine E_iinc 7 (xc + 1) [(7, .int (xc + 1)), (0, .ref 61), (1, .int xs), (2, .int (mi 62 5)), (3, .int xk), (4, .int xa), (5, .int xb), (6, .int xv)] dX6_listAll_147 rfl rfl (by decide) rfl ?_
                                              refine E_goto 88 dX6_listAll_150 (by decide) ?_
                                              refine E_sub [1, 2, 3, 4, 5, 6, 7, 0] rfl ?_
                                              exact ih88 (xc + 1) xv (c + 1) mi_144 (by omega) ((tI_add hxc (show (1 : Int32).toInt = 1 from rfl) (by omega)).trans (by omega)) (by omega) (Or.inl ⟨hxs6.elim (fun q => q.1) (fun q => absurd (by rw [q.1]; rfl) c_105), hxs6.elim (fun q => q.2) (fun q => absurd (by rw [q.1]; rfl) c_105)⟩) (by first | exact hl_144.elim (fun q => by rw [← q.2]; exact la_c0 hLd (fun z => q.1 z.2)) (fun q => la_c1 hLd (by first | exact Or.inl (by omega) | exact Or.inr ⟨by omega, by omega, c_133⟩) q.1 q.2.1 q.2.2.1 q.2.2.2.1 q.2.2.2.2.1 q.2.2.2.2.2) | exact la_c0 hLd (fun z => by exact z.1.elim (fun z => by omega) (fun z => by first | omega | exact c_133 z.2.2)))
                                · skip
                                  refine E_iload_n 2 dX6_listAll_95 rfl rfl ?_
                                  refine E_goto 100 dX6_listAll_96 (by decide) ?_
                                  refine Z_ge (c : Int) (n : Int) hxc hn 153 dX6_listAll_100 (by decide) (fun c_100 => ?_) (fun c_100 => ?_)
                                  · skip
                                    refine E_iinc 5 (xb + 1) [(5, .int (xb + 1)), (0, .ref 61), (1, .int xs), (2, .int (mi 62 5)), (3, .int xk), (4, .int xa), (6, .int xv), (7, .int xc)] dX6_listAll_153 rfl rfl (by decide) rfl ?_
                                    refine E_goto 47 dX6_listAll_156 (by decide) ?_
                                    refine E_sub [1, 2, 3, 4, 5, 0] rfl ?_
                                    exact ih47 (xb + 1) (b + 1) md (by omega) ((tI_add hxb (show (1 : Int32).toInt = 1 from rfl) (by omega)).trans (by omega)) (by omega) (by omega) (la_b hxs6 hLd (by first | exact Or.inl c_105 | exact Or.inr (by omega)))
                                  · skip
                                    refine E_iload 6 dX6_listAll_103 rfl ?_
                                    refine Y_eq xv.toInt rfl 153 dX6_listAll_105 (by decide) (fun c_105 => ?_) (fun c_105 => ?_)
                                    · skip
                                      refine E_iinc 5 (xb + 1) [(5, .int (xb + 1)), (0, .ref 61), (1, .int xs), (2, .int (mi 62 5)), (3, .int xk), (4, .int xa), (6, .int xv), (7, .int xc)] dX6_listAll_153 rfl rfl (by decide) rfl ?_
                                      refine E_goto 47 dX6_listAll_156 (by decide) ?_
                                      refine E_sub [1, 2, 3, 4, 5, 0] rfl ?_
                                      exact ih47 (xb + 1) (b + 1) md (by omega) ((tI_add hxb (show (1 : Int32).toInt = 1 from rfl) (by omega)).trans (by omega)) (by omega) (by omega) (la_b hxs6 hLd (by first | exact Or.inl c_105 | exact Or.inr (by omega)))
                                    · skip
                                      refine E_iload_n 3 dX6_listAll_108 rfl rfl ?_
                                      refine E_iconst 1 (by decide) dX6_listAll_109 ?_
                                      refine Z_ne (kd : Int) 1 hxk (show (1 : Int32).toInt = 1 from rfl) 136 dX6_listAll_110 (by decide) (fun c_110 => ?_) (fun c_110 => ?_)
                                      · skip
                                        refine E_aload_n 0 dX6_listAll_136 rfl rfl ?_
                                        refine E_iload_n 3 dX6_listAll_137 rfl rfl ?_
                                        refine E_iload 4 dX6_listAll_138 rfl ?_
                                        refine E_iload 5 dX6_listAll_140 rfl ?_
                                        refine E_iload 7 dX6_listAll_142 rfl ?_
                                        have hvB9 : vB s kd a b := hxs6.elim (fun q => q.2) (fun q => absurd (by rw [q.1]; rfl) c_105)
                                        have b1 := hvB9.1
                                        have b2 := hvB9.2.1
                                        refine E_callV (c_X6_lists l hfl md ml (mi 62 0).toInt.toNat (mi 62 1).toInt (mi 62 2).toInt (fun k => (mi 62 (6 + 2 * k)).toInt) (fun k => (mi 62 (7 + 2 * k)).toInt) n hset9 hrow9 (by omega) xk xa xb xc kd a b c (hxk.trans (by omega)) (hxa.trans (by omega)) (hxb.trans (by omega)) (hxc.trans (by omega)) (by omega) (by omega) (by omega) (by omega) (((stK (DV (mi 62)) s n kd ++ stA (DV (mi 62)) s n kd a ++ stB (DV (mi 62)) s n kd a b ++ stC (DV (mi 62)) s kd a b c)).length) hLd.2.2.1 (by simp only [List.length_append]; exact st_room h10 (by omega) (by omega) (by omega) (by omega) (by omega) (by omega))) cw_X6_101 (As := [.int xk, .int xa, .int xb, .int xc]) (st := []) wi_yX6_lists we_yX6_lists (ci := 6) (q := (RX6, TX6, 23)) rfl rfl (wl_atO tw_61) rfl ⟨Nat.le_of_ble_eq_true rfl, Nat.le_of_ble_eq_true rfl, Nat.le_of_ble_eq_true rfl, Nat.le_of_ble_eq_true rfl⟩ (Nat.le_of_ble_eq_true rfl) dX6_listAll_144 (fun _ _ h => h) rfl (kV (fun mi_144 ml_144 h_144 => ?_))
                                        obtain ⟨rfl, hl_144⟩ := h_144
                                        refine E_iinc 7 (xc + 1) [(7, .int (xc + 1)), (0, .ref 61), (1, .int xs), (2, .int (mi 62 5)), (3, .int xk), (4, .int xa), (5, .int xb), (6, .int xv)] dX6_listAll_147 rfl rfl (by decide) rfl ?_
                                        refine E_goto 88 dX6_listAll_150 (by decide) ?_
                                        refine E_sub [1, 2, 3, 4, 5, 6, 7, 0] rfl ?_
                                        exact ih88 (xc + 1) xv (c + 1) mi_144 (by omega) ((tI_add hxc (show (1 : Int32).toInt = 1 from rfl) (by omega)).trans (by omega)) (by omega) (Or.inl ⟨hxs6.elim (fun q => q.1) (fun q => absurd (by rw [q.1]; rfl) c_105), hxs6.elim (fun q => q.2) (fun q => absurd (by rw [q.1]; rfl) c_105)⟩) (by first | exact hl_144.elim (fun q => by rw [← q.2]; exact la_c0 hLd (fun z => q.1 z.2)) (fun q => la_c1 hLd (by first | exact Or.inl (by omega) | exact Or.inr ⟨by omega, by omega, c_133⟩) q.1 q.2.1 q.2.2.1 q.2.2.2.1 q.2.2.2.2.1 q.2.2.2.2.2) | exact la_c0 hLd (fun z => by exact z.1.elim (fun z => by omega) (fun z => by first | omega | exact c_133 z.2.2)))
                                      · skip
                                        refine E_iload 7 dX6_listAll_113 rfl ?_
                                        refine E_iload 4 dX6_listAll_115 rfl ?_
                                        refine Z_eq (c : Int) (a : Int) hxc hxa 147 dX6_listAll_117 (by decide) (fun c_117 => ?_) (fun c_117 => ?_)
                                        · skip
                                          refine E_iinc 7 (xc + 1) [(7, .int (xc + 1)), (0, .ref 61), (1, .int xs), (2, .int (mi 62 5)), (3, .int xk), (4, .int xa), (5, .int xb), (6, .int xv)] dX6_listAll_147 rfl rfl (by decide) rfl ?_
                                          refine E_goto 88 dX6_listAll_150 (by decide) ?_
                                          refine E_sub [1, 2, 3, 4, 5, 6, 7, 0] rfl ?_
                                          exact ih88 (xc + 1) xv (c + 1) md (by omega) ((tI_add hxc (show (1 : Int32).toInt = 1 from rfl) (by omega)).trans (by omega)) (by omega) (Or.inl ⟨hxs6.elim (fun q => q.1) (fun q => absurd (by rw [q.1]; rfl) c_105), hxs6.elim (fun q => q.2) (fun q => absurd (by rw [q.1]; rfl) c_105)⟩) (by first | exact hl_144.elim (fun q => by rw [← q.2]; exact la_c0 hLd (fun z => q.1 z.2)) (fun q => la_c1 hLd (by first | exact Or.inl (by omega) | exact Or.inr ⟨by omega, by omega, c_133⟩) q.1 q.2.1 q.2.2.1 q.2.2.2.1 q.2.2.2.2.1 q.2.2.2.2.2) | exact la_c0 hLd (fun z => by exact z.1.elim (fun z => by omega) (fun z => by first | omega | exact c_133 z.2.2)))
                                        · skip
                                          refine E_iload 7 dX6_listAll_120 rfl ?_
                                          refine E_iload 5 dX6_listAll_122 rfl ?_
                                          refine Z_eq (c : Int) (b : Int) hxc hxb 147 dX6_listAll_124 (by decide) (fun c_124 => ?_) (fun c_124 => ?_)
                                          · skip
                                            refine E_iinc 7 (xc + 1) [(7, .int (xc + 1)), (0, .ref 61), (1, .int xs), (2, .int (mi 62 5)), (3, .int xk), (4, .int xa), (5, .int xb), (6, .int xv)] dX6_listAll_147 rfl rfl (by decide) rfl ?_
                                            refine E_goto 88 dX6_listAll_150 (by decide) ?_
                                            refine E_sub [1, 2, 3, 4, 5, 6, 7, 0] rfl ?_
                                            exact ih88 (xc + 1) xv (c + 1) md (by omega) ((tI_add hxc (show (1 : Int32).toInt = 1 from rfl) (by omega)).trans (by omega)) (by omega) (Or.inl ⟨hxs6.elim (fun q => q.1) (fun q => absurd (by rw [q.1]; rfl) c_105), hxs6.elim (fun q => q.2) (fun q => absurd (by rw [q.1]; rfl) c_105)⟩) (by first | exact hl_144.elim (fun q => by rw [← q.2]; exact la_c0 hLd (fun z => q.1 z.2)) (fun q => la_c1 hLd (by first | exact Or.inl (by omega) | exact Or.inr ⟨by omega, by omega, c_133⟩) q.1 q.2.1 q.2.2.1 q.2.2.2.1 q.2.2.2.2.1 q.2.2.2.2.2) | exact la_c0 hLd (fun z => by exact z.1.elim (fun z => by omega) (fun z => by first | omega | exact c_133 z.2.2)))
                                          · skip
                                            refine E_iload_n 1 dX6_listAll_127 rfl rfl ?_
                                            refine E_iload 7 dX6_listAll_128 rfl ?_
                                            refine E_callS (c_X6_has l hfl md ml xs xc s c (hxs.trans (by omega)) (hxc.trans (by omega)) (by omega) (by omega)) cw_X6_85 (As := [.int xs, .int xc]) (st := []) ws_yX6_has rfl ⟨Nat.le_of_ble_eq_true rfl, Nat.le_of_ble_eq_true rfl, Nat.le_of_ble_eq_true rfl, Nat.le_of_ble_eq_true rfl⟩ (Nat.le_of_ble_eq_true rfl) dX6_listAll_130 (fun _ _ h => h) rfl (kE ?_)
                                            refine B_eq 147 dX6_listAll_133 (by decide) (fun c_133 => ?_) (fun c_133 => ?_)
                                            · skip
                                              refine E_iinc 7 (xc + 1) [(7, .int (xc + 1)), (0, .ref 61), (1, .int xs), (2, .int (mi 62 5)), (3, .int xk), (4, .int xa), (5, .int xb), (6, .int xv)] dX6_listAll_147 rfl rfl (by decide) rfl ?_
                                              refine E_goto 88 dX6_listAll_150 (by decide) ?_
                                              refine E_sub [1, 2, 3, 4, 5, 6, 7, 0] rfl ?_
                                              exact ih88 (xc + 1) xv (c + 1) md (by omega) ((tI_add hxc (show (1 : Int32).toInt = 1 from rfl) (by omega)).trans (by omega)) (by omega) (Or.inl ⟨hxs6.elim (fun q => q.1) (fun q => absurd (by rw [q.1]; rfl) c_105), hxs6.elim (fun q => q.2) (fun q => absurd (by rw [q.1]; rfl) c_105)⟩) (by first | exact hl_144.elim (fun q => by rw [← q.2]; exact la_c0 hLd (fun z => q.1 z.2)) (fun q => la_c1 hLd (by first | exact Or.inl (by omega) | exact Or.inr ⟨by omega, by omega, c_133⟩) q.1 q.2.1 q.2.2.1 q.2.2.2.1 q.2.2.2.2.1 q.2.2.2.2.2) | exact la_c0 hLd (fun z => by exact z.1.elim (fun z => by omega) (fun z => by first | omega | exact c_133 z.2.2)))
                                            · skip
                                              refine E_aload_n 0 dX6_listAll_136 rfl rfl ?_
                                              refine E_iload_n 3 dX6_listAll_137 rfl rfl ?_
                                              refine E_iload 4 dX6_listAll_138 rfl ?_
                                              refine E_iload 5 dX6_listAll_140 rfl ?_
                                              refine E_iload 7 dX6_listAll_142 rfl ?_
                                              have hvB9 : vB s kd a b := hxs6.elim (fun q => q.2) (fun q => absurd (by rw [q.1]; rfl) c_105)
                                              have b1 := hvB9.1
                                              have b2 := hvB9.2.1
                                              refine E_callV (c_X6_lists l hfl md ml (mi 62 0).toInt.toNat (mi 62 1).toInt (mi 62 2).toInt (fun k => (mi 62 (6 + 2 * k)).toInt) (fun k => (mi 62 (7 + 2 * k)).toInt) n hset9 hrow9 (by omega) xk xa xb xc kd a b c (hxk.trans (by omega)) (hxa.trans (by omega)) (hxb.trans (by omega)) (hxc.trans (by omega)) (by omega) (by omega) (by omega) (by omega) (((stK (DV (mi 62)) s n kd ++ stA (DV (mi 62)) s n kd a ++ stB (DV (mi 62)) s n kd a b ++ stC (DV (mi 62)) s kd a b c)).length) hLd.2.2.1 (by simp only [List.length_append]; exact st_room h10 (by omega) (by omega) (by omega) (by omega) (by omega) (by omega))) cw_X6_101 (As := [.int xk, .int xa, .int xb, .int xc]) (st := []) wi_yX6_lists we_yX6_lists (ci := 6) (q := (RX6, TX6, 23)) rfl rfl (wl_atO tw_61) rfl ⟨Nat.le_of_ble_eq_true rfl, Nat.le_of_ble_eq_true rfl, Nat.le_of_ble_eq_true rfl, Nat.le_of_ble_eq_true rfl⟩ (Nat.le_of_ble_eq_true rfl) dX6_listAll_144 (fun _ _ h => h) rfl (kV (fun mi_144 ml_144 h_144 => ?_))
                                              obtain ⟨rfl, hl_144⟩ := h_144
                                              refine E_iinc 7 (xc + 1) [(7, .int (xc + 1)), (0, .ref 61), (1, .int xs), (2, .int (mi 62 5)), (3, .int xk), (4, .int xa), (5, .int xb), (6, .int xv)] dX6_listAll_147 rfl rfl (by decide) rfl ?_
                                              refine E_goto 88 dX6_listAll_150 (by decide) ?_
                                              refine E_sub [1, 2, 3, 4, 5, 6, 7, 0] rfl ?_
                                              exact ih88 (xc + 1) xv (c + 1) mi_144 (by omega) ((tI_add hxc (show (1 : Int32).toInt = 1 from rfl) (by omega)).trans (by omega)) (by omega) (Or.inl ⟨hxs6.elim (fun q => q.1) (fun q => absurd (by rw [q.1]; rfl) c_105), hxs6.elim (fun q => q.2) (fun q => absurd (by rw [q.1]; rfl) c_105)⟩) (by first | exact hl_144.elim (fun q => by rw [← q.2]; exact la_c0 hLd (fun z => q.1 z.2)) (fun q => la_c1 hLd (by first | exact Or.inl (by omega) | exact Or.inr ⟨by omega, by omega, c_133⟩) q.1 q.2.1 q.2.2.1 q.2.2.2.1 q.2.2.2.2.1 q.2.2.2.2.2) | exact la_c0 hLd (fun z => by exact z.1.elim (fun z => by omega) (fun z => by first | omega | exact c_133 z.2.2)))
                            refine E_sub [2, 3, 4, 5, 6, 7, 1, 0] rfl ?_
                            exact J88 _ 0 1 0 mc (Nat.lt_succ_self _) (show (0 : Int32).toInt = 0 from rfl) (by omega) (by first | exact Or.inl ⟨rfl, vB_t hkab c_57 c_66 c_75⟩ | exact Or.inr ⟨rfl, fun q => c_66 q.2.2.1, rfl⟩ | exact Or.inr ⟨rfl, fun q => c_75 q.2.2.2, rfl⟩ | exact Or.inr ⟨rfl, fun q => q.2.1 (by omega), rfl⟩) (by rw [show stC (DV (mi 62)) s kd a b 0 = [] from rfl, List.append_nil]; exact hLc)
                refine E_sub [1, 2, 3, 4, 5, 0] rfl ?_
                exact J47 _ (xa + 1) (a + 1) mb (Nat.lt_succ_self _) ((tI_add hxa (show (1 : Int32).toInt = 1 from rfl) (by omega)).trans (by omega)) (by omega) (by omega) (la_b1 (by omega) hLb)
        refine E_sub [1, 2, 3, 4, 0] rfl ?_
        exact J26 _ 0 0 ma (Nat.lt_succ_self _) (show (0 : Int32).toInt = 0 from rfl) (by omega) (by rw [show stA (DV (mi 62)) s n kd 0 = [] from rfl, List.append_nil]; exact hLa)
  refine E_sub [2, 3, 1, 0] rfl ?_
  exact J18 _ 0 0 (u2 mi_1 61 9 0) (Nat.lt_succ_self _) (show (0 : Int32).toInt = 0 from rfl) (by omega) (LsP_0 rfl)
end MO7
