section MO11
/-- the carriers, and one more -/
def DVO (V : Nat → Int32) (n : Nat) (c l : Int) : RD := ((V 0).toInt.toNat, (V 1).toInt, (V 2).toInt, (fun k => if k < n then (V (6 + 2 * k)).toInt else c), (fun k => if k < n then (V (7 + 2 * k)).toInt else l))
def opP (V : Nat → Int32) (n : Nat) (l : Int) (c : Nat) : Prop := (∀ j, j < n → (V (6 + 2 * j)).toInt ≠ (c : Int)) ∧ ClR (DVO V n c l) (V 3).toInt (V 4).toInt (n + 1)
noncomputable def opS (V : Nat → Int32) (n : Nat) (l : Int) : Nat → Int64
  | 0 => 0
  | c + 1 => opS V n l c ||| ifp (opP V n l c) ((1 : Int64) <<< ((nI c).toInt64 &&& 63)) 0
theorem opS_y {V : Nat → Int32} {n c : Nat} {l : Int} {x : Int32} (hx : x.toInt = (c : Int)) (h : opP V n l c) : opS V n l (c + 1) = opS V n l c ||| ((1 : Int64) <<< (x.toInt64 &&& 63)) := by rw [opS, ifp_t h, tI_nIx hx]
theorem opS_n {V : Nat → Int32} {n c : Nat} {l : Int} (h : ¬ opP V n l c) : opS V n l (c + 1) = opS V n l c ||| 0 := by rw [opS, ifp_f h]
theorem RowM_O {mj : MI} {V : Nat → Int32} {n c : Nat} {l : Int} (hw : WFV V) (hn : (V 5).toInt = (n : Int)) (hc : c < 64) (hl : 0 ≤ l ∧ l ≤ 60) (h : ∀ k, k < n → mj 65 k = V (6 + 2 * k) ∧ mj 66 k = V (7 + 2 * k)) (h5 : (mj 65 n).toInt = (c : Int)) (h6 : (mj 66 n).toInt = l) : RowM mj (DVO V n c l) (n + 1) := by
  intro k hk
  show ((mj 65 k).toInt = (if k < n then (V (6 + 2 * k)).toInt else (c : Int)) ∧ 0 ≤ (if k < n then (V (6 + 2 * k)).toInt else (c : Int)) ∧ (if k < n then (V (6 + 2 * k)).toInt else (c : Int)) ≤ 63) ∧ ((mj 66 k).toInt = (if k < n then (V (7 + 2 * k)).toInt else l) ∧ 0 ≤ (if k < n then (V (7 + 2 * k)).toInt else l) ∧ (if k < n then (V (7 + 2 * k)).toInt else l) ≤ 60)
  rcases Nat.lt_or_ge k n with q | q
  · have h1 := hw.2.2.1 k (by omega)
    rw [if_pos q, if_pos q, (h k q).1, (h k q).2]
    exact ⟨⟨rfl, h1.1.1, h1.1.2⟩, ⟨rfl, h1.2.1, h1.2.2⟩⟩
  · have e : k = n := by omega
    subst e
    rw [if_neg (by omega), if_neg (by omega)]
    exact ⟨⟨h5, by omega, by omega⟩, ⟨h6, hl.1, hl.2⟩⟩
theorem SetM_O {mj : MI} {V : Nat → Int32} {n : Nat} {c l : Int} (h : SetM mj (DV V)) : SetM mj (DVO V n c l) := SetM_e (by simp only [DV, DVO]) (by simp only [DV, DVO]) (by simp only [DV, DVO]) h
set_option maxHeartbeats 1600000 in
set_option maxRecDepth 100000 in
theorem c_X6_openingsFor (l : Launch) (hfl : l.stackTraces = false) (mi : MI) (ml : MJ) (n : Nat) (hn : (mi 62 5).toInt = (n : Int)) (h10 : n ≤ 10) (hwf : WFV (mi 62)) (a : Int32) (A : Int) (hA : a.toInt = A) (bA : 0 ≤ A ∧ A ≤ 60) : Ct l yX6_openingsFor (.code yX6_openingsFor cX6_openingsFor 5 (some .long)) 4 0 0 [.ref 61, .int a] (wl mi ml) (QJ (fun r mi9 ml9 => ml = ml9 ∧ Fr [65, 66] mi mi9 ∧ r = opS (mi 62) n A 64)) noX := by
  refine Ct_of (ini := false) pn_X6 hfl (fun h => nomatch h) (Nat.le_of_ble_eq_true rfl) ?_
  show E l RX6 cX6_openingsFor 5 (some .long) false [] (rmE 4 0 0) (wl mi ml) (TgM (wl mi ml) 0 0 (QJ (fun r mi9 ml9 => ml = ml9 ∧ Fr [65, 66] mi mi9 ∧ r = opS (mi 62) n A 64)) noX) 0 0 0 [(0, .ref 61), (1, .int a)] [] (wl mi ml)
  refine E_lconst 0 rfl dX6_openingsFor_0 ?_
  refine E_lstore_n [(2, .long 0), (0, .ref 61), (1, .int a)] dX6_openingsFor_1 rfl (by decide) rfl ?_
  refine E_iconst 0 (by decide) dX6_openingsFor_2 ?_
  refine E_istore [(4, .int 0), (2, .long 0), (0, .ref 61), (1, .int a)] dX6_openingsFor_3 (by decide) rfl ?_
  have J5 : ∀ (Nm : Nat) (xi : Int32) (w : Int64) (i : Nat) (mj : MI), 64 - i < Nm → xi.toInt = (i : Int) → i ≤ 64 → Fr [65, 66] mi mj → w = opS (mi 62) n A i → E l RX6 cX6_openingsFor 5 (some .long) false [] (rmE 4 0 0) (wl mi ml) (TgM (wl mi ml) 0 0 (QJ (fun r mi9 ml9 => ml = ml9 ∧ Fr [65, 66] mi mi9 ∧ r = opS (mi 62) n A 64)) noX) 0 0 5 [(0, .ref 61), (1, .int a), (2, .long w), (4, .int xi)] [] (wl mj ml) := by
    intro Nm
    induction Nm with
    | zero => intros; omega
    | succ Nm ih5 =>
      intro xi w i mj hN5 hxi hi hF hw9
      refine E_iload 3 dX6_openingsFor_5 rfl ?_
      refine E_bipush 64 (by decide) dX6_openingsFor_7 ?_
      refine Z_ge (i : Int) 64 hxi (show (64 : Int32).toInt = 64 from rfl) 83 dX6_openingsFor_9 (by decide) (fun c_9 => ?_) (fun c_9 => ?_)
      · skip
        refine E_lload_n 2 dX6_openingsFor_83 rfl rfl ?_
        refine E_lret rfl (Nat.le_of_ble_eq_true rfl) (Nat.le_of_ble_eq_true rfl) dX6_openingsFor_84 ?_
        exact okQJ ⟨rfl, hF, by rw [hw9, show i = 64 by omega]⟩
      · skip
        refine E_aload_n 0 dX6_openingsFor_12 rfl rfl ?_
        refine E_callV (c_X6_rowsOfAll l hfl mj ml n ((congrArg Int32.toInt (congrFun (hF 62 (by decide)) 5)).trans hn) (by omega)) cw_X6_98 (As := []) (st := []) wi_yX6_rowsOfAll we_yX6_rowsOfAll (ci := 6) (q := (RX6, TX6, 23)) rfl rfl (wl_atO tw_61) rfl ⟨Nat.le_of_ble_eq_true rfl, Nat.le_of_ble_eq_true rfl, Nat.le_of_ble_eq_true rfl, Nat.le_of_ble_eq_true rfl⟩ (Nat.le_of_ble_eq_true rfl) dX6_openingsFor_13 (fun _ _ h => h) rfl (kV (fun mi_13 ml_13 h_13 => ?_))
        obtain ⟨rfl, hFr_13, hrw_13⟩ := h_13
        have h_13 := And.intro True.intro (And.intro hFr_13 hrw_13)
        have hmj : mj 62 = mi 62 := hF 62 (by decide)
        refine E_aload_n 0 dX6_openingsFor_16 rfl rfl ?_
        refine gf_X6_19 tw_61 rfl dX6_openingsFor_17 ?_
        refine E_aload_n 0 dX6_openingsFor_20 rfl rfl ?_
        refine gf_X6_7 tw_61 rfl dX6_openingsFor_21 ?_
        refine E_iconst 5 (by decide) dX6_openingsFor_24 ?_
        refine S_iald 5 (mi 62 5) tw_62 rfl (by decide) (congrFun ((h_13.2.1 62 (by decide)).trans (hF 62 (by decide))) 5) dX6_openingsFor_25 ?_
        refine E_iload 3 dX6_openingsFor_26 rfl ?_
        refine S_iast n tw_65 hn (by omega) dX6_openingsFor_28 ?_
        refine E_aload_n 0 dX6_openingsFor_29 rfl rfl ?_
        refine gf_X6_22 tw_61 rfl dX6_openingsFor_30 ?_
        refine E_aload_n 0 dX6_openingsFor_33 rfl rfl ?_
        refine gf_X6_7 tw_61 rfl dX6_openingsFor_34 ?_
        refine E_iconst 5 (by decide) dX6_openingsFor_37 ?_
        refine S_iald 5 (mi 62 5) tw_62 rfl (by decide) ((u2_n (by omega)).trans (congrFun ((h_13.2.1 62 (by decide)).trans (hF 62 (by decide))) 5)) dX6_openingsFor_38 ?_
        refine E_iload_n 1 dX6_openingsFor_39 rfl rfl ?_
        refine S_iast n tw_66 hn (by omega) dX6_openingsFor_40 ?_
        have h62 : (u2 (u2 mi_13 65 n xi) 66 n a) 62 = mi 62 := ((u2_p (by decide)).trans ((u2_p (by decide)).trans ((h_13.2.1 62 (by decide)).trans (hF 62 (by decide)))))
        have hrow9 : RowM (u2 (u2 mi_13 65 n xi) 66 n a) (DVO (mi 62) n (i : Int) A) (n + 1) := RowM_O hwf hn (by omega) bA (fun k hk => ⟨by rw [u2_n (by omega), u2_n (by omega), (hrw_13 k hk).1, hmj], by rw [u2_n (by omega), u2_n (by omega), (hrw_13 k hk).2, hmj]⟩) (by rw [u2_n (by omega), u2_s]; exact hxi) (by rw [u2_s]; exact hA)
        have hset9 : SetM (u2 (u2 mi_13 65 n xi) 66 n a) (DVO (mi 62) n (i : Int) A) := SetM_O ((SetM_of hwf).c h62)
        refine E_lload_n 2 dX6_openingsFor_41 rfl rfl ?_
        refine E_aload_n 0 dX6_openingsFor_42 rfl rfl ?_
        refine E_iload 3 dX6_openingsFor_43 rfl ?_
        refine E_iconst (-1) (by decide) dX6_openingsFor_45 ?_
        refine E_callV (c_X6_isTaken l hfl (u2 (u2 mi_13 65 n xi) 66 n a) ml n ((congrArg Int32.toInt ((u2_n (by omega)).trans ((u2_n (by omega)).trans (congrFun ((h_13.2.1 62 (by decide)).trans (hF 62 (by decide))) 5)))).trans hn) (by omega) xi (-1) (-1) (show ((-1) : Int32).toInt = (-1) from rfl)) cw_X6_65 (As := [.int xi, .int (-1)]) (st := [.long w]) wi_yX6_isTaken we_yX6_isTaken (ci := 6) (q := (RX6, TX6, 23)) rfl rfl (wl_atO tw_61) rfl ⟨Nat.le_of_ble_eq_true rfl, Nat.le_of_ble_eq_true rfl, Nat.le_of_ble_eq_true rfl, Nat.le_of_ble_eq_true rfl⟩ (Nat.le_of_ble_eq_true rfl) dX6_openingsFor_46 (fun _ _ h => h) rfl (kE ?_)
        refine B_ne 74 dX6_openingsFor_49 (by decide) (fun c_49 => ?_) (fun c_49 => ?_)
        · skip
          refine E_lconst 0 rfl dX6_openingsFor_74 ?_
          refine E_lor dX6_openingsFor_75 ?_
          refine E_lstore_n [(2, .long (w ||| 0)), (0, .ref 61), (1, .int a), (4, .int xi)] dX6_openingsFor_76 rfl (by decide) rfl ?_
          refine E_iinc 3 (xi + 1) [(4, .int (xi + 1)), (2, .long (w ||| 0)), (0, .ref 61), (1, .int a)] dX6_openingsFor_77 rfl rfl (by decide) rfl ?_
          refine E_goto 5 dX6_openingsFor_80 (by decide) ?_
          refine E_sub [2, 3, 1, 0] rfl ?_
          exact ih5 (xi + 1) (w ||| 0) (i + 1) (u2 (u2 mi_13 65 n xi) 66 n a) (by omega) ((tI_add hxi (show (1 : Int32).toInt = 1 from rfl) (by omega)).trans (by omega)) (by omega) (((hF.trans hFr_13 (by decide) (by decide)).u (by decide)).u (by decide)) (by rw [hw9]; first | exact (opS_y hxi ⟨fun j hj q => c_49 ⟨j, hj, by omega, tI_eq (by rw [h62]; exact q) hxi rfl⟩, c_64⟩).symm | exact (opS_n (fun q => c_64 q.2)).symm | exact (opS_n (fun q => c_49.elim (fun j z => q.1 j z.1 (by rw [← h62, z.2.2]; exact hxi)))).symm)
        · skip
          refine E_aload_n 0 dX6_openingsFor_52 rfl rfl ?_
          refine E_aload_n 0 dX6_openingsFor_53 rfl rfl ?_
          refine gf_X6_7 tw_61 rfl dX6_openingsFor_54 ?_
          refine E_iconst 5 (by decide) dX6_openingsFor_57 ?_
          refine S_iald 5 (mi 62 5) tw_62 rfl (by decide) ((u2_n (by omega)).trans ((u2_n (by omega)).trans (congrFun ((h_13.2.1 62 (by decide)).trans (hF 62 (by decide))) 5))) dX6_openingsFor_58 ?_
          refine E_iconst 1 (by decide) dX6_openingsFor_59 ?_
          refine E_iadd dX6_openingsFor_60 ?_
          have hn1 : ((mi 62 5) + 1).toInt = ((n + 1 : Nat) : Int) := (tI_add hn (show (1 : Int32).toInt = 1 from rfl) (by omega)).trans (by omega)
          refine E_callV (c_X6_isRowClean l hfl (u2 (u2 mi_13 65 n xi) 66 n a) ml (mi 62 0).toInt.toNat (mi 62 1).toInt (mi 62 2).toInt (fun k => if k < n then (mi 62 (6 + 2 * k)).toInt else (i : Int)) (fun k => if k < n then (mi 62 (7 + 2 * k)).toInt else A) (n + 1) hset9 hrow9 (by omega) (mi 62 3).toInt (mi 62 4).toInt (by rw [h62]) hwf.1.2.2.2.1 (by rw [h62]) hwf.1.2.2.2.2 ((mi 62 5) + 1) hn1) cw_X6_132 (As := [.int ((mi 62 5) + 1)]) (st := [.long w]) wi_yX6_isRowClean we_yX6_isRowClean (ci := 6) (q := (RX6, TX6, 23)) rfl rfl (wl_atO tw_61) rfl ⟨Nat.le_of_ble_eq_true rfl, Nat.le_of_ble_eq_true rfl, Nat.le_of_ble_eq_true rfl, Nat.le_of_ble_eq_true rfl⟩ (Nat.le_of_ble_eq_true rfl) dX6_openingsFor_61 (fun _ _ h => h) rfl (kE ?_)
          refine B_eq 74 dX6_openingsFor_64 (by decide) (fun c_64 => ?_) (fun c_64 => ?_)
          · skip
            refine E_lconst 0 rfl dX6_openingsFor_74 ?_
            refine E_lor dX6_openingsFor_75 ?_
            refine E_lstore_n [(2, .long (w ||| 0)), (0, .ref 61), (1, .int a), (4, .int xi)] dX6_openingsFor_76 rfl (by decide) rfl ?_
            refine E_iinc 3 (xi + 1) [(4, .int (xi + 1)), (2, .long (w ||| 0)), (0, .ref 61), (1, .int a)] dX6_openingsFor_77 rfl rfl (by decide) rfl ?_
            refine E_goto 5 dX6_openingsFor_80 (by decide) ?_
            refine E_sub [2, 3, 1, 0] rfl ?_
            exact ih5 (xi + 1) (w ||| 0) (i + 1) (u2 (u2 mi_13 65 n xi) 66 n a) (by omega) ((tI_add hxi (show (1 : Int32).toInt = 1 from rfl) (by omega)).trans (by omega)) (by omega) (((hF.trans hFr_13 (by decide) (by decide)).u (by decide)).u (by decide)) (by rw [hw9]; first | exact (opS_y hxi ⟨fun j hj q => c_49 ⟨j, hj, by omega, tI_eq (by rw [h62]; exact q) hxi rfl⟩, c_64⟩).symm | exact (opS_n (fun q => c_64 q.2)).symm | exact (opS_n (fun q => c_49.elim (fun j z => q.1 j z.1 (by rw [← h62, z.2.2]; exact hxi)))).symm)
          · skip
            refine E_lconst 1 rfl dX6_openingsFor_67 ?_
            refine E_iload 3 dX6_openingsFor_68 rfl ?_
            refine E_lshl dX6_openingsFor_70 ?_
            refine E_goto 75 dX6_openingsFor_71 (by decide) ?_
            refine E_lor dX6_openingsFor_75 ?_
            refine E_lstore_n [(2, .long (w ||| (1 <<< (xi.toInt64 &&& 63)))), (0, .ref 61), (1, .int a), (4, .int xi)] dX6_openingsFor_76 rfl (by decide) rfl ?_
            refine E_iinc 3 (xi + 1) [(4, .int (xi + 1)), (2, .long (w ||| (1 <<< (xi.toInt64 &&& 63)))), (0, .ref 61), (1, .int a)] dX6_openingsFor_77 rfl rfl (by decide) rfl ?_
            refine E_goto 5 dX6_openingsFor_80 (by decide) ?_
            refine E_sub [2, 3, 1, 0] rfl ?_
            exact ih5 (xi + 1) (w ||| (1 <<< (xi.toInt64 &&& 63))) (i + 1) (u2 (u2 mi_13 65 n xi) 66 n a) (by omega) ((tI_add hxi (show (1 : Int32).toInt = 1 from rfl) (by omega)).trans (by omega)) (by omega) (((hF.trans hFr_13 (by decide) (by decide)).u (by decide)).u (by decide)) (by rw [hw9]; first | exact (opS_y hxi ⟨fun j hj q => c_49 ⟨j, hj, by omega, tI_eq (by rw [h62]; exact q) hxi rfl⟩, c_64⟩).symm | exact (opS_n (fun q => c_64 q.2)).symm | exact (opS_n (fun q => c_49.elim (fun j z => q.1 j z.1 (by rw [← h62, z.2.2]; exact hxi)))).symm)
  refine E_sub [2, 3, 1, 0] rfl ?_
  exact J5 _ 0 0 0 mi (Nat.lt_succ_self _) (show (0 : Int32).toInt = 0 from rfl) (by omega) Fr.rfl' rfl
end MO11
