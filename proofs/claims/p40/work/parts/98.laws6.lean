section LWS6
theorem v4_add (V : Nat → Int32) (n : Nat) (c v : Int32) : addV V n c v 4 = V 4 := by unfold addV; rw [if_neg (by omega), if_neg (by omega), if_neg (by omega), if_neg (by omega)]
theorem v4_mov (V : Nat → Int32) (n : Nat) (c v : Int32) : movV V n c v 4 = V 4 := by unfold movV; rw [if_neg (by omega), if_neg (by omega), if_neg (by omega)]
theorem v4_rem (V : Nat → Int32) (n : Nat) (c : Int32) : remV V n c 4 = V 4 := by unfold remV; rw [if_neg (by omega), if_neg (by omega), if_neg (by omega), if_neg (by omega)]
theorem v4_shf (V : Nat → Int32) (n : Nat) (c : Int32) : shfV V n c 4 = V 4 := by unfold shfV; rw [if_neg (by omega), if_neg (by omega)]
theorem v4_mix (V : Nat → Int32) (n : Nat) (c : Int32) : mixV V n c 4 = V 4 := by unfold mixV; rw [if_neg (by omega), if_neg (by omega), if_neg (by omega)]
theorem v4_mem (V : Nat → Int32) (n : Nat) (c : Int32) : memV V n c 4 = V 4 := by unfold memV; rw [if_neg (by omega), if_neg (by omega)]
theorem v4_atv (V : Nat → Int32) (n : Nat) (a c v : Int32) : ATV V n a c v 4 = V 4 := ATV_n (by omega) (by omega)
theorem nV_shf (V : Nat → Int32) (n : Nat) (a : Int32) : nV (shfV V n a) = nV V := by
  unfold nV shfV
  rw [if_neg (by omega), if_neg (by omega)]
theorem shf_c {V : Nat → Int32} {n j : Nat} {a : Int32} (h10 : n ≤ 10) (hj : j < n) : shfV V n a (6 + 2 * j) = V (6 + 2 * j) + a ∧ shfV V n a (7 + 2 * j) = V (7 + 2 * j) := by
  unfold shfV
  rw [if_neg (by omega), if_pos (by omega), if_neg (by omega), if_neg (by omega)]
  exact ⟨rfl, rfl⟩
theorem shf_mv {V : Nat → Int32} {n : Nat} {a : Int32} {B : Int} (h10 : n ≤ 10) (hB : a.toInt = B) (hall : ∀ j, j < n → (0 ≤ (V (6 + 2 * j)).toInt + B ∧ (V (6 + 2 * j)).toInt + B < 64)) : mvV V (shfV V n a) n B := by
  have e : ∀ k, k < 5 → shfV V n a k = V k := fun k hk => by unfold shfV; rw [if_neg (by omega), if_neg (by omega)]
  refine ⟨by rw [e 0 (by decide)], by rw [e 1 (by decide)], by rw [e 2 (by decide)], by rw [e 3 (by decide)], by rw [e 4 (by decide)], fun j hj => ?_⟩
  obtain ⟨h1, h2⟩ := shf_c (a := a) h10 hj (V := V)
  have h3 := hall j hj
  rw [h1, h2]
  exact ⟨tI_add rfl hB (by omega), rfl⟩
theorem mid_bk {V : Nat → Int32} {n : Nat} {a : Int32} (h10 : n ≤ 10) (h : midV (shfV (shfV V n a) n (0 - a)) n) : midV V n := by
  intro j hj
  have h1 := h j hj
  rw [(shf_c h10 hj).1, (shf_c h10 hj).1] at h1
  have e : V (6 + 2 * j) + a + (0 - a) = V (6 + 2 * j) := by
    rw [Int32.add_assoc, Int32.zero_sub, Int32.add_right_neg, Int32.add_zero]
  rw [e] at h1
  exact h1
set_option maxHeartbeats 6400000 in
set_option maxRecDepth 100000 in
theorem lw_main (l : Launch) (hfl : l.stackTraces = false) {hh : List ExceptionTableEntry} {b L : Nat} {xs : Nat → Int32} (hL : L ≤ 260) {V : Nat → Int32} {mi : MI} {ml : MJ} (S : ST V [] mi ml) (hV4 : (V 4).toInt = 1) (kk0 nn0 : Nat) (hk0 : kk0 ≤ 1000) (hn0 : nn0 ≤ 20000) : LW hh l b L xs kk0 nn0 8 [(1, .ref 0), (0, .ref 99)] [] (wl mi ml) := by
  refine EZ_iconst 1 (by decide) dL_law_8 ?_
  refine EZ_istore_n [(2, .int 1), (1, .ref 0), (0, .ref 99)] dL_law_9 rfl (by decide) rfl ?_
  refine EZ_aload_n 1 dL_law_10 rfl rfl ?_
  refine EZ_iconst 1 (by decide) dL_law_11 ?_
  refine EZ_callZ znL (z_sound l hfl S 1 (show (1 : Int32).toInt = (V 4).toInt by rw [hV4]; rfl)) cw_L_206 (As := [.ref 0, .int 1]) (st := []) ws_yL_sound rfl (rokL (Nat.le_of_ble_eq_true rfl) (Nat.le_of_ble_eq_true rfl) (by omega) (by omega)) (Nat.le_of_ble_eq_true rfl) dL_law_12 rfl (zkI (fun r_12 mi_12 ml_12 h_12 => ?_))
  obtain ⟨S_12, h_12⟩ := h_12
  refine YZ_eq 1 (by rw [h_12]; rfl) 53 dL_law_15 (by decide) (fun c_15 => ?_) (fun c_15 => ?_)
  · exact absurd c_15 (by omega)
  · skip
    refine EZ_aload_n 1 dL_law_18 rfl rfl ?_
    refine EZ_callH znL (k_undo l hfl S_12) cwH_147 (As := [.ref 0]) (st := []) rfl (rokL (Nat.le_of_ble_eq_true rfl) (Nat.le_of_ble_eq_true rfl) (by omega) (by omega)) (Nat.le_of_ble_eq_true rfl) dL_law_19 rfl (zkI (fun r_19 mi_19 ml_19 h_19 => ?_))
    obtain ⟨V_19, H_19, S_19, h_19⟩ := h_19
    obtain ⟨_, n_19, e1_19, e2_19⟩ := h_19.resolve_right (fun q => by obtain ⟨U, T, e, _⟩ := q; cases e)
    subst e1_19; subst e2_19
    clear h_19
    refine EZ_sipush (-902) (by decide) dL_law_22 ?_
    refine ZZ_ne (-902) (-902) n_19 (show ((-902) : Int32).toInt = (-902) from rfl) 53 dL_law_25 (by decide) (fun c_25 => ?_) (fun c_25 => ?_)
    · exact absurd c_25 (by omega)
    · skip
      refine EZ_aload_n 1 dL_law_28 rfl rfl ?_
      refine EZ_callZ znL (z_refuses l hfl S_19) cw_L_210 (As := [.ref 0]) (st := []) ws_yL_refuses rfl (rokL (Nat.le_of_ble_eq_true rfl) (Nat.le_of_ble_eq_true rfl) (by omega) (by omega)) (Nat.le_of_ble_eq_true rfl) dL_law_29 rfl (zkI (fun r_29 mi_29 ml_29 h_29 => ?_))
      obtain ⟨S_29, h_29⟩ := h_29
      refine YZ_eq 1 (by rw [h_29]; rfl) 53 dL_law_32 (by decide) (fun c_32 => ?_) (fun c_32 => ?_)
      · exact absurd c_32 (by omega)
      · skip
        refine EZ_aload_n 1 dL_law_35 rfl rfl ?_
        refine EZ_aload_n 2 dL_law_36 rfl rfl ?_
        refine EZ_iconst 0 (by decide) dL_law_37 ?_
        refine L_callX (z_cell l hfl (b := b) (L := L) (xs := xs) hL mi_29 ml_29 0 0 (Eq.trans (show (0 : Int32).toInt = 0 from rfl) (by omega))) cw_L_214 (As := [.ref 99, .int 0]) (st := [.ref 0]) ws_yL_cell rfl (rokL (Nat.le_of_ble_eq_true rfl) (Nat.le_of_ble_eq_true rfl) (by omega) (by omega)) (Nat.le_of_ble_eq_true rfl) dL_law_38 rfl (zkI (fun r_38 mi_38 ml_38 h_38 => ?_))
        obtain ⟨e1_38, e2_38, _⟩ := h_38
        subst e1_38; subst e2_38
        refine EZ_sipush 181 (by decide) dL_law_41 ?_
        refine EZ_callZ znL (z_low l hfl mi_29 ml_29 r_38 181 181 (show (181 : Int32).toInt = 181 from rfl) (by decide)) cw_L_164 (As := [.int r_38, .int 181]) (st := [.ref 0]) ws_yL_low rfl (rokL (Nat.le_of_ble_eq_true rfl) (Nat.le_of_ble_eq_true rfl) (by omega) (by omega)) (Nat.le_of_ble_eq_true rfl) dL_law_44 rfl (zkI (fun r_44 mi_44 ml_44 h_44 => ?_))
        obtain ⟨e1_44, e2_44, h_44⟩ := h_44
        subst e1_44; subst e2_44
        refine EZ_callZ znL (z_known l hfl S_29 r_44 ⟨by omega, by omega⟩) cw_L_218 (As := [.ref 0, .int r_44]) (st := []) ws_yL_known rfl (rokL (Nat.le_of_ble_eq_true rfl) (Nat.le_of_ble_eq_true rfl) (by omega) (by omega)) (Nat.le_of_ble_eq_true rfl) dL_law_47 rfl (zkI (fun r_47 mi_47 ml_47 h_47 => ?_))
        obtain ⟨S_47, h_47⟩ := h_47
        refine YZ_ne 1 (by rw [h_47]; rfl) 55 dL_law_50 (by decide) (fun c_50 => ?_) (fun c_50 => ?_)
        · skip
          refine EZ_iconst 0 (by decide) dL_law_55 ?_
          refine EZ_istore_n [(3, .int 0), (2, .int 1), (1, .ref 0), (0, .ref 99)] dL_law_56 rfl (by decide) rfl ?_
          have J57 : ∀ (Nm : Nat) (mj : MI) (mlj : MJ) (V9 : Nat → Int32) (H9 : List (Nat → Int32)) (xsp xk : Int32) (i kk nn : Nat), 17 - i < Nm → ST V9 H9 mj mlj → xk.toInt = (i : Int) → i ≤ 16 → xsp.toInt = (V9 4).toInt → kk ≤ 20000 + 9600 * i → nn ≤ 100000 + 58000 * i → LW hh l b L xs kk nn 57 [(0, .ref 99), (1, .ref 0), (2, .int xsp), (3, .int xk)] [] (wl mj mlj) := by
            intro Nm
            induction Nm with
            | zero => intros; omega
            | succ Nm ih57 =>
              intro mj mlj V9 H9 xsp xk i kk nn hN57 S57 hk hi hsp hkk hnn
              have wn := wf_n S57.1
              have wm := wf_m S57.1
              have wt := wf_t S57.1
              refine EZ_iload_n 3 dL_law_57 rfl rfl ?_
              refine EZ_bipush 16 (by decide) dL_law_58 ?_
              refine ZZ_ge (i : Int) 16 hk (show (16 : Int32).toInt = 16 from rfl) 720 dL_law_60 (by decide) (fun c_60 => ?_) (fun c_60 => ?_)
              · skip
                refine EZ_aload_n 1 dL_law_720 rfl rfl ?_
                refine EZ_callZ znL (z_spans l hfl S57) cw_L_230 (As := [.ref 0]) (st := []) ws_yL_spans rfl (rokL (Nat.le_of_ble_eq_true rfl) (Nat.le_of_ble_eq_true rfl) (by omega) (by omega)) (Nat.le_of_ble_eq_true rfl) dL_law_721 rfl (zkI (fun r_721 mi_721 ml_721 h_721 => ?_))
                obtain ⟨S_721, h_721⟩ := h_721
                refine YZ_eq 1 (by rw [h_721]; rfl) 738 dL_law_724 (by decide) (fun c_724 => ?_) (fun c_724 => ?_)
                · exact absurd c_724 (by omega)
                · skip
                  refine EZ_aload_n 1 dL_law_727 rfl rfl ?_
                  refine EZ_callZ znL (z_refuses l hfl S_721) cw_L_210 (As := [.ref 0]) (st := []) ws_yL_refuses rfl (rokL (Nat.le_of_ble_eq_true rfl) (Nat.le_of_ble_eq_true rfl) (by omega) (by omega)) (Nat.le_of_ble_eq_true rfl) dL_law_728 rfl (zkI (fun r_728 mi_728 ml_728 h_728 => ?_))
                  obtain ⟨S_728, h_728⟩ := h_728
                  refine YZ_eq 1 (by rw [h_728]; rfl) 738 dL_law_731 (by decide) (fun c_731 => ?_) (fun c_731 => ?_)
                  · exact absurd c_731 (by omega)
                  · skip
                    refine EZ_iconst 1 (by decide) dL_law_734 ?_
                    refine EZ_goto 739 dL_law_735 (by decide) ?_
                    exact L_ret (by omega) (by omega) dL_law_739
              · skip
                have J671 : ∀ (m8 : MI) (l8 : MJ) (V8 : Nat → Int32) (H8 : List (Nat → Int32)) (xsp8 xt yy : Int32) (kk8 nn8 : Nat), ST V8 H8 m8 l8 → xsp8.toInt = (V8 4).toInt → 0 ≤ xt.toInt → kk8 ≤ 20200 + 9600 * i → nn8 ≤ 101000 + 58000 * i → LW hh l b L xs kk8 nn8 671 [(0, .ref 99), (1, .ref 0), (2, .int xsp8), (3, .int xk), (5, .int yy), (10, .int xt)] [] (wl m8 l8) := by
                  intro m8 l8 V8 H8 xsp8 xt yy kk8 nn8 S671 hsp8 ht8 hkk8 hnn8
                  refine EZ_iload 5 dL_law_671 rfl ?_
                  refine YZ_lt xt.toInt rfl 712 dL_law_673 (by decide) (fun c_673 => ?_) (fun c_673 => ?_)
                  · exact absurd c_673 (by omega)
                  · skip
                    refine EZ_aload_n 1 dL_law_676 rfl rfl ?_
                    refine EZ_iload_n 2 dL_law_677 rfl rfl ?_
                    refine EZ_callZ znL (z_sound l hfl S671 xsp8 hsp8) cw_L_206 (As := [.ref 0, .int xsp8]) (st := []) ws_yL_sound rfl (rokL (Nat.le_of_ble_eq_true rfl) (Nat.le_of_ble_eq_true rfl) (by omega) (by omega)) (Nat.le_of_ble_eq_true rfl) dL_law_678 rfl (zkI (fun r_678 mi_678 ml_678 h_678 => ?_))
                    obtain ⟨S_678, h_678⟩ := h_678
                    refine YZ_eq 1 (by rw [h_678]; rfl) 712 dL_law_681 (by decide) (fun c_681 => ?_) (fun c_681 => ?_)
                    · exact absurd c_681 (by omega)
                    · skip
                      refine EZ_aload_n 1 dL_law_684 rfl rfl ?_
                      refine EZ_iload 4 dL_law_685 rfl ?_
                      refine EZ_bipush 18 (by decide) dL_law_687 ?_
                      refine EZ_ishr dL_law_689 ?_
                      refine EZ_bipush 61 (by decide) dL_law_690 ?_
                      refine EZ_callZ znL (z_low l hfl mi_678 ml_678 (yy >>> ((18 : Int32) &&& 31)) 61 61 (show (61 : Int32).toInt = 61 from rfl) (by decide)) cw_L_164 (As := [.int (yy >>> ((18 : Int32) &&& 31)), .int 61]) (st := [.ref 0]) ws_yL_low rfl (rokL (Nat.le_of_ble_eq_true rfl) (Nat.le_of_ble_eq_true rfl) (by omega) (by omega)) (Nat.le_of_ble_eq_true rfl) dL_law_692 rfl (zkI (fun r_692 mi_692 ml_692 h_692 => ?_))
                      obtain ⟨e1_692, e2_692, h_692⟩ := h_692
                      subst e1_692; subst e2_692
                      refine EZ_callZ znL (z_opens l hfl S_678 r_692 ⟨by omega, by omega⟩) cw_L_224 (As := [.ref 0, .int r_692]) (st := []) ws_yL_opens rfl (rokL (Nat.le_of_ble_eq_true rfl) (Nat.le_of_ble_eq_true rfl) (by omega) (by omega)) (Nat.le_of_ble_eq_true rfl) dL_law_695 rfl (zkI (fun r_695 mi_695 ml_695 h_695 => ?_))
                      obtain ⟨H_695, S_695, h_695⟩ := h_695
                      refine YZ_eq 1 (by rw [h_695]; rfl) 712 dL_law_698 (by decide) (fun c_698 => ?_) (fun c_698 => ?_)
                      · exact absurd c_698 (by omega)
                      · skip
                        refine EZ_aload_n 1 dL_law_701 rfl rfl ?_
                        refine EZ_iload 4 dL_law_702 rfl ?_
                        refine EZ_iconst 5 (by decide) dL_law_704 ?_
                        refine EZ_ishr dL_law_705 ?_
                        refine EZ_callZ znL (z_listens l hfl S_695 (yy >>> ((5 : Int32) &&& 31))) cw_L_227 (As := [.ref 0, .int (yy >>> ((5 : Int32) &&& 31))]) (st := []) ws_yL_listens rfl (rokL (Nat.le_of_ble_eq_true rfl) (Nat.le_of_ble_eq_true rfl) (by omega) (by omega)) (Nat.le_of_ble_eq_true rfl) dL_law_706 rfl (zkI (fun r_706 mi_706 ml_706 h_706 => ?_))
                        obtain ⟨H_706, S_706, h_706⟩ := h_706
                        refine YZ_ne 1 (by rw [h_706]; rfl) 714 dL_law_709 (by decide) (fun c_709 => ?_) (fun c_709 => ?_)
                        · skip
                          refine EZ_iinc 3 (xk + 1) [(3, .int (xk + 1)), (0, .ref 99), (1, .ref 0), (2, .int xsp8), (5, .int yy), (10, .int xt)] dL_law_714 rfl rfl (by decide) rfl ?_
                          refine EZ_goto 57 dL_law_717 (by decide) ?_
                          refine EZ_sub [1, 2, 3, 0] rfl ?_
                          exact ih57 mi_706 ml_706 _ _ xsp8 (xk + 1) (i + 1) _ _ (by omega) S_706 ((tI_add hk (show (1 : Int32).toInt = 1 from rfl) (by omega)).trans (by omega)) (by omega) hsp8 (by omega) (by omega)
                        · exact absurd c_709 (by omega)
                refine EZ_aload_n 0 dL_law_63 rfl rfl ?_
                refine EZ_iconst 1 (by decide) dL_law_64 ?_
                refine EZ_iconst 2 (by decide) dL_law_65 ?_
                refine EZ_iload_n 3 dL_law_66 rfl rfl ?_
                refine EZ_imul dL_law_67 ?_
                refine EZ_iadd dL_law_68 ?_
                refine L_callX (z_cell l hfl (b := b) (L := L) (xs := xs) hL mj mlj (1 + (2 * xk)) (1 + 2 * i) (Eq.trans (tI_add (show (1 : Int32).toInt = 1 from rfl) (tI_mul (show (2 : Int32).toInt = 2 from rfl) hk (by omega)) (by omega)) (by omega))) cw_L_214 (As := [.ref 99, .int (1 + (2 * xk))]) (st := []) ws_yL_cell rfl (rokL (Nat.le_of_ble_eq_true rfl) (Nat.le_of_ble_eq_true rfl) (by omega) (by omega)) (Nat.le_of_ble_eq_true rfl) dL_law_69 rfl (zkI (fun r_69 mi_69 ml_69 h_69 => ?_))
                obtain ⟨e1_69, e2_69, _⟩ := h_69
                subst e1_69; subst e2_69
                refine EZ_istore [(4, .int r_69), (0, .ref 99), (1, .ref 0), (2, .int xsp), (3, .int xk)] dL_law_72 (by decide) rfl ?_
                refine EZ_aload_n 1 dL_law_74 rfl rfl ?_
                refine EZ_iconst 2 (by decide) dL_law_75 ?_
                refine EZ_iconst 2 (by decide) dL_law_76 ?_
                refine EZ_iload_n 4 dL_law_77 rfl rfl ?_
                refine EZ_imul dL_law_78 ?_
                refine EZ_iadd dL_law_79 ?_
                refine L_callX (z_cell l hfl (b := b) (L := L) (xs := xs) hL mj mlj (2 + (2 * xk)) (2 + 2 * i) (Eq.trans (tI_add (show (2 : Int32).toInt = 2 from rfl) (tI_mul (show (2 : Int32).toInt = 2 from rfl) hk (by omega)) (by omega)) (by omega))) cw_L_214 (As := [.ref 99, .int (2 + (2 * xk))]) (st := []) ws_yL_cell rfl (rokL (Nat.le_of_ble_eq_true rfl) (Nat.le_of_ble_eq_true rfl) (by omega) (by omega)) (Nat.le_of_ble_eq_true rfl) dL_law_80 rfl (zkI (fun r_80 mi_80 ml_80 h_80 => ?_))
                obtain ⟨e1_80, e2_80, _⟩ := h_80
                subst e1_80; subst e2_80
                refine EZ_istore [(5, .int r_80), (4, .int r_69), (0, .ref 99), (1, .ref 0), (2, .int xsp), (3, .int xk)] dL_law_83 (by decide) rfl ?_
                refine EZ_aload_n 3 dL_law_85 rfl rfl ?_
                refine EZ_iconst 0 (by decide) dL_law_86 ?_
                refine EZ_callH znL (k_size l hfl S57 0) cwH_101 (As := [.ref 0, .int 0]) (st := []) rfl (rokL (Nat.le_of_ble_eq_true rfl) (Nat.le_of_ble_eq_true rfl) (by omega) (by omega)) (Nat.le_of_ble_eq_true rfl) dL_law_87 rfl (zkI (fun r_87 mi_87 ml_87 h_87 => ?_))
                obtain ⟨S_87, h_87⟩ := h_87
                (try rw [show (0 : Int32).toInt = 0 from (show (0 : Int32).toInt = 0 from rfl)] at h_87)
                have n_87 : r_87.toInt = (nV V9 : Int) := by omega
                clear h_87
                refine EZ_istore [(6, .int r_87), (5, .int r_80), (4, .int r_69), (0, .ref 99), (1, .ref 0), (2, .int xsp), (3, .int xk)] dL_law_90 (by decide) rfl ?_
                refine EZ_aload_n 4 dL_law_92 rfl rfl ?_
                refine EZ_iconst 1 (by decide) dL_law_93 ?_
                refine EZ_callH znL (k_size l hfl S_87 1) cwH_101 (As := [.ref 0, .int 1]) (st := []) rfl (rokL (Nat.le_of_ble_eq_true rfl) (Nat.le_of_ble_eq_true rfl) (by omega) (by omega)) (Nat.le_of_ble_eq_true rfl) dL_law_94 rfl (zkI (fun r_94 mi_94 ml_94 h_94 => ?_))
                obtain ⟨S_94, h_94⟩ := h_94
                (try rw [show (1 : Int32).toInt = 1 from (show (1 : Int32).toInt = 1 from rfl)] at h_94)
                have n_94 : r_94.toInt = (mV V9 : Int) := by omega
                clear h_94
                refine EZ_istore [(7, .int r_94), (6, .int r_87), (5, .int r_80), (4, .int r_69), (0, .ref 99), (1, .ref 0), (2, .int xsp), (3, .int xk)] dL_law_97 (by decide) rfl ?_
                refine EZ_aload_n 5 dL_law_99 rfl rfl ?_
                refine EZ_iconst 2 (by decide) dL_law_100 ?_
                refine EZ_callH znL (k_size l hfl S_94 2) cwH_101 (As := [.ref 0, .int 2]) (st := []) rfl (rokL (Nat.le_of_ble_eq_true rfl) (Nat.le_of_ble_eq_true rfl) (by omega) (by omega)) (Nat.le_of_ble_eq_true rfl) dL_law_101 rfl (zkI (fun r_101 mi_101 ml_101 h_101 => ?_))
                obtain ⟨S_101, h_101⟩ := h_101
                (try rw [show (2 : Int32).toInt = 2 from (show (2 : Int32).toInt = 2 from rfl)] at h_101)
                have n_101 : r_101.toInt = (tV V9 : Int) := by omega
                clear h_101
                refine EZ_istore [(8, .int r_101), (7, .int r_94), (6, .int r_87), (5, .int r_80), (4, .int r_69), (0, .ref 99), (1, .ref 0), (2, .int xsp), (3, .int xk)] dL_law_104 (by decide) rfl ?_
                refine EZ_iload 4 dL_law_106 rfl ?_
                refine EZ_bipush 12 (by decide) dL_law_108 ?_
                refine EZ_callZ znL (z_low l hfl mi_101 ml_101 r_69 12 12 (show (12 : Int32).toInt = 12 from rfl) (by decide)) cw_L_164 (As := [.int r_69, .int 12]) (st := []) ws_yL_low rfl (rokL (Nat.le_of_ble_eq_true rfl) (Nat.le_of_ble_eq_true rfl) (by omega) (by omega)) (Nat.le_of_ble_eq_true rfl) dL_law_110 rfl (zkI (fun r_110 mi_110 ml_110 h_110 => ?_))
                obtain ⟨e1_110, e2_110, h_110⟩ := h_110
                subst e1_110; subst e2_110
                refine EZ_istore [(9, .int r_110), (8, .int r_101), (7, .int r_94), (6, .int r_87), (5, .int r_80), (4, .int r_69), (0, .ref 99), (1, .ref 0), (2, .int xsp), (3, .int xk)] dL_law_113 (by decide) rfl ?_
                refine EZ_iconst 0 (by decide) dL_law_115 ?_
                refine EZ_istore [(10, .int 0), (9, .int r_110), (8, .int r_101), (7, .int r_94), (6, .int r_87), (5, .int r_80), (4, .int r_69), (0, .ref 99), (1, .ref 0), (2, .int xsp), (3, .int xk)] dL_law_116 (by decide) rfl ?_
                refine EZ_iload 1 dL_law_118 rfl ?_
                refine EZ_iconst 4 (by decide) dL_law_120 ?_
                refine ZZ_lt r_110.toInt 4 rfl (show (4 : Int32).toInt = 4 from rfl) 130 dL_law_121 (by decide) (fun c_121 => ?_) (fun c_121 => ?_)
                · skip
                  refine EZ_aload_n 8 dL_law_130 rfl rfl ?_
                  refine EZ_iload 5 dL_law_131 rfl ?_
                  refine EZ_bipush 40 (by decide) dL_law_133 ?_
                  refine EZ_callZ znL (z_low l hfl mi_101 ml_101 r_80 40 40 (show (40 : Int32).toInt = 40 from rfl) (by decide)) cw_L_164 (As := [.int r_80, .int 40]) (st := [.ref 0]) ws_yL_low rfl (rokL (Nat.le_of_ble_eq_true rfl) (Nat.le_of_ble_eq_true rfl) (by omega) (by omega)) (Nat.le_of_ble_eq_true rfl) dL_law_135 rfl (zkI (fun r_135 mi_135 ml_135 h_135 => ?_))
                  obtain ⟨e1_135, e2_135, h_135⟩ := h_135
                  subst e1_135; subst e2_135
                  refine EZ_iload 5 dL_law_138 rfl ?_
                  refine EZ_bipush 6 (by decide) dL_law_140 ?_
                  refine EZ_ishr dL_law_142 ?_
                  refine EZ_bipush 61 (by decide) dL_law_143 ?_
                  refine EZ_callZ znL (z_low l hfl mi_101 ml_101 (r_80 >>> ((6 : Int32) &&& 31)) 61 61 (show (61 : Int32).toInt = 61 from rfl) (by decide)) cw_L_164 (As := [.int (r_80 >>> ((6 : Int32) &&& 31)), .int 61]) (st := [.int r_135, .ref 0]) ws_yL_low rfl (rokL (Nat.le_of_ble_eq_true rfl) (Nat.le_of_ble_eq_true rfl) (by omega) (by omega)) (Nat.le_of_ble_eq_true rfl) dL_law_145 rfl (zkI (fun r_145 mi_145 ml_145 h_145 => ?_))
                  obtain ⟨e1_145, e2_145, h_145⟩ := h_145
                  subst e1_145; subst e2_145
                  refine EZ_callH znL (k_addCarrier l hfl S_101 r_135 r_145) cwH_187 (As := [.ref 0, .int r_135, .int r_145]) (st := []) rfl (rokL (Nat.le_of_ble_eq_true rfl) (Nat.le_of_ble_eq_true rfl) (by omega) (by omega)) (Nat.le_of_ble_eq_true rfl) dL_law_148 rfl (zkI (fun r_148 mi_148 ml_148 h_148 => ?_))
                  obtain ⟨V_148, H_148, S_148, h_148⟩ := h_148
                  rcases h_148 with ⟨_, n_148, e1_148, e2_148⟩ | ⟨_, n_148, hn10, e1_148, e2_148⟩ | ⟨_, n_148, hn10, e1_148, e2_148⟩
                  · skip
                    subst e1_148; subst e2_148
                    refine EZ_istore [(10, .int r_148), (9, .int r_110), (8, .int r_101), (7, .int r_94), (6, .int r_87), (5, .int r_80), (4, .int r_69), (0, .ref 99), (1, .ref 0), (2, .int xsp), (3, .int xk)] dL_law_151 (by decide) rfl ?_
                    refine EZ_iload 0 dL_law_153 rfl ?_
                    refine EZ_sipush (-901) (by decide) dL_law_155 ?_
                    refine ZZ_eq r_148.toInt (-901) rfl (show ((-901) : Int32).toInt = (-901) from rfl) 176 dL_law_158 (by decide) (fun c_158 => ?_) (fun c_158 => ?_)
                    · skip
                      refine EZ_iconst 0 (by decide) dL_law_176 ?_
                      refine EZ_goto 182 dL_law_177 (by decide) ?_
                      refine EZ_istore [(10, .int 0), (9, .int r_110), (8, .int r_101), (7, .int r_94), (6, .int r_87), (5, .int r_80), (4, .int r_69), (0, .ref 99), (1, .ref 0), (2, .int xsp), (3, .int xk)] dL_law_182 (by decide) rfl ?_
                      refine EZ_goto 671 dL_law_184 (by decide) ?_
                      refine EZ_sub [7, 8, 9, 10, 5, 0] rfl ?_
                      exact J671 mi_148 ml_148 _ _ xsp 0 r_80 _ _ S_148 hsp (by decide) (by omega) (by omega)
                    · exact absurd c_158 (by omega)
                  · skip
                    subst e1_148; subst e2_148
                    refine EZ_istore [(10, .int r_148), (9, .int r_110), (8, .int r_101), (7, .int r_94), (6, .int r_87), (5, .int r_80), (4, .int r_69), (0, .ref 99), (1, .ref 0), (2, .int xsp), (3, .int xk)] dL_law_151 (by decide) rfl ?_
                    refine EZ_iload 0 dL_law_153 rfl ?_
                    refine EZ_sipush (-901) (by decide) dL_law_155 ?_
                    refine ZZ_eq r_148.toInt (-901) rfl (show ((-901) : Int32).toInt = (-901) from rfl) 176 dL_law_158 (by decide) (fun c_158 => ?_) (fun c_158 => ?_)
                    · exact absurd c_158 (by omega)
                    · skip
                      refine EZ_iload 0 dL_law_161 rfl ?_
                      refine EZ_sipush (-902) (by decide) dL_law_163 ?_
                      refine ZZ_ne r_148.toInt (-902) rfl (show ((-902) : Int32).toInt = (-902) from rfl) 180 dL_law_166 (by decide) (fun c_166 => ?_) (fun c_166 => ?_)
                      · exact absurd c_166 (by omega)
                      · skip
                        refine EZ_iload 4 dL_law_169 rfl ?_
                        refine EZ_bipush 10 (by decide) dL_law_171 ?_
                        refine ZZ_ne (nV V9 : Int) 10 n_87 (show (10 : Int32).toInt = 10 from rfl) 180 dL_law_173 (by decide) (fun c_173 => ?_) (fun c_173 => ?_)
                        · exact absurd c_173 (by omega)
                        · skip
                          refine EZ_iconst 0 (by decide) dL_law_176 ?_
                          refine EZ_goto 182 dL_law_177 (by decide) ?_
                          refine EZ_istore [(10, .int 0), (9, .int r_110), (8, .int r_101), (7, .int r_94), (6, .int r_87), (5, .int r_80), (4, .int r_69), (0, .ref 99), (1, .ref 0), (2, .int xsp), (3, .int xk)] dL_law_182 (by decide) rfl ?_
                          refine EZ_goto 671 dL_law_184 (by decide) ?_
                          refine EZ_sub [7, 8, 9, 10, 5, 0] rfl ?_
                          exact J671 mi_148 ml_148 _ _ xsp 0 r_80 _ _ S_148 hsp (by decide) (by omega) (by omega)
                  · skip
                    subst e1_148; subst e2_148
                    refine EZ_istore [(10, .int r_148), (9, .int r_110), (8, .int r_101), (7, .int r_94), (6, .int r_87), (5, .int r_80), (4, .int r_69), (0, .ref 99), (1, .ref 0), (2, .int xsp), (3, .int xk)] dL_law_151 (by decide) rfl ?_
                    refine EZ_iload 0 dL_law_153 rfl ?_
                    refine EZ_sipush (-901) (by decide) dL_law_155 ?_
                    refine ZZ_eq r_148.toInt (-901) rfl (show ((-901) : Int32).toInt = (-901) from rfl) 176 dL_law_158 (by decide) (fun c_158 => ?_) (fun c_158 => ?_)
                    · exact absurd c_158 (by omega)
                    · skip
                      refine EZ_iload 0 dL_law_161 rfl ?_
                      refine EZ_sipush (-902) (by decide) dL_law_163 ?_
                      refine ZZ_ne r_148.toInt (-902) rfl (show ((-902) : Int32).toInt = (-902) from rfl) 180 dL_law_166 (by decide) (fun c_166 => ?_) (fun c_166 => ?_)
                      · skip
                        refine EZ_iload 0 dL_law_180 rfl ?_
                        refine EZ_istore [(10, .int r_148), (9, .int r_110), (8, .int r_101), (7, .int r_94), (6, .int r_87), (5, .int r_80), (4, .int r_69), (0, .ref 99), (1, .ref 0), (2, .int xsp), (3, .int xk)] dL_law_182 (by decide) rfl ?_
                        refine EZ_goto 671 dL_law_184 (by decide) ?_
                        refine EZ_sub [7, 8, 9, 10, 5, 0] rfl ?_
                        exact J671 mi_148 ml_148 _ _ xsp r_148 r_80 _ _ S_148 (by rw [v4_add]; exact hsp) (by omega) (by omega) (by omega)
                      · exact absurd c_166 (by omega)
                · skip
                  refine EZ_iload 4 dL_law_124 rfl ?_
                  refine EZ_iconst 3 (by decide) dL_law_126 ?_
                  refine ZZ_ge (nV V9 : Int) 3 n_87 (show (3 : Int32).toInt = 3 from rfl) 187 dL_law_127 (by decide) (fun c_127 => ?_) (fun c_127 => ?_)
                  · skip
                    refine EZ_iload 1 dL_law_187 rfl ?_
                    refine EZ_iconst 4 (by decide) dL_law_189 ?_
                    refine ZZ_ne r_110.toInt 4 rfl (show (4 : Int32).toInt = 4 from rfl) 245 dL_law_190 (by decide) (fun c_190 => ?_) (fun c_190 => ?_)
                    · skip
                      refine EZ_iload 1 dL_law_245 rfl ?_
                      refine EZ_iconst 5 (by decide) dL_law_247 ?_
                      refine ZZ_ne r_110.toInt 5 rfl (show (5 : Int32).toInt = 5 from rfl) 267 dL_law_248 (by decide) (fun c_248 => ?_) (fun c_248 => ?_)
                      · skip
                        refine EZ_iload 1 dL_law_267 rfl ?_
                        refine EZ_bipush 6 (by decide) dL_law_269 ?_
                        refine ZZ_ne r_110.toInt 6 rfl (show (6 : Int32).toInt = 6 from rfl) 413 dL_law_271 (by decide) (fun c_271 => ?_) (fun c_271 => ?_)
                        · skip
                          refine EZ_iload 1 dL_law_413 rfl ?_
                          refine EZ_bipush 7 (by decide) dL_law_415 ?_
                          refine ZZ_ne r_110.toInt 7 rfl (show (7 : Int32).toInt = 7 from rfl) 457 dL_law_417 (by decide) (fun c_417 => ?_) (fun c_417 => ?_)
                          · skip
                            refine EZ_iload 1 dL_law_457 rfl ?_
                            refine EZ_bipush 8 (by decide) dL_law_459 ?_
                            refine ZZ_ne r_110.toInt 8 rfl (show (8 : Int32).toInt = 8 from rfl) 507 dL_law_461 (by decide) (fun c_461 => ?_) (fun c_461 => ?_)
                            · skip
                              refine EZ_iload 1 dL_law_507 rfl ?_
                              refine EZ_bipush 9 (by decide) dL_law_509 ?_
                              refine ZZ_ne r_110.toInt 9 rfl (show (9 : Int32).toInt = 9 from rfl) 560 dL_law_511 (by decide) (fun c_511 => ?_) (fun c_511 => ?_)
                              · skip
                                refine EZ_iload 1 dL_law_560 rfl ?_
                                refine EZ_bipush 11 (by decide) dL_law_562 ?_
                                refine ZZ_ge r_110.toInt 11 rfl (show (11 : Int32).toInt = 11 from rfl) 607 dL_law_564 (by decide) (fun c_564 => ?_) (fun c_564 => ?_)
                                · skip
                                  refine EZ_aload_n 8 dL_law_607 rfl rfl ?_
                                  refine EZ_iload 5 dL_law_608 rfl ?_
                                  refine EZ_iconst 1 (by decide) dL_law_610 ?_
                                  refine EZ_iload 4 dL_law_611 rfl ?_
                                  refine EZ_ishl dL_law_613 ?_
                                  refine EZ_callZ znL (z_low l hfl mi_101 ml_101 r_80 ((1 : Int32) <<< (r_87 &&& 31)) ((2 ^ nV V9 : Nat) : Int) (pw_s n_87 wn.2) (by have h9 := Nat.two_pow_pos (nV V9); omega)) cw_L_164 (As := [.int r_80, .int ((1 : Int32) <<< (r_87 &&& 31))]) (st := [.ref 0]) ws_yL_low rfl (rokL (Nat.le_of_ble_eq_true rfl) (Nat.le_of_ble_eq_true rfl) (by omega) (by omega)) (Nat.le_of_ble_eq_true rfl) dL_law_614 rfl (zkI (fun r_614 mi_614 ml_614 h_614 => ?_))
                                  obtain ⟨e1_614, e2_614, h_614⟩ := h_614
                                  subst e1_614; subst e2_614
                                  refine EZ_iload 5 dL_law_617 rfl ?_
                                  refine EZ_bipush 10 (by decide) dL_law_619 ?_
                                  refine EZ_ishr dL_law_621 ?_
                                  refine EZ_bipush 40 (by decide) dL_law_622 ?_
                                  refine EZ_callZ znL (z_low l hfl mi_101 ml_101 (r_80 >>> ((10 : Int32) &&& 31)) 40 40 (show (40 : Int32).toInt = 40 from rfl) (by decide)) cw_L_164 (As := [.int (r_80 >>> ((10 : Int32) &&& 31)), .int 40]) (st := [.int r_614, .ref 0]) ws_yL_low rfl (rokL (Nat.le_of_ble_eq_true rfl) (Nat.le_of_ble_eq_true rfl) (by omega) (by omega)) (Nat.le_of_ble_eq_true rfl) dL_law_624 rfl (zkI (fun r_624 mi_624 ml_624 h_624 => ?_))
                                  obtain ⟨e1_624, e2_624, h_624⟩ := h_624
                                  subst e1_624; subst e2_624
                                  refine EZ_iload 5 dL_law_627 rfl ?_
                                  refine EZ_bipush 16 (by decide) dL_law_629 ?_
                                  refine EZ_ishr dL_law_631 ?_
                                  refine EZ_iconst 1 (by decide) dL_law_632 ?_
                                  refine EZ_iand dL_law_633 ?_
                                  refine EZ_iconst 1 (by decide) dL_law_634 ?_
                                  refine ZZ_ne (((r_80 >>> ((16 : Int32) &&& 31)) &&& (1 : Int32)).toInt) 1 rfl (show (1 : Int32).toInt = 1 from rfl) 642 dL_law_635 (by decide) (fun c_635 => ?_) (fun c_635 => ?_)
                                  · skip
                                    refine EZ_iconst 0 (by decide) dL_law_642 ?_
                                    refine EZ_callH znL (k_addTest l hfl S_101 r_614 r_624 0 False (b0 not_false)) cwH_179 (As := [.ref 0, .int r_614, .int r_624, .int 0]) (st := []) rfl (rokL (Nat.le_of_ble_eq_true rfl) (Nat.le_of_ble_eq_true rfl) (by omega) (by omega)) (Nat.le_of_ble_eq_true rfl) dL_law_643 rfl (zkI (fun r_643 mi_643 ml_643 h_643 => ?_))
                                    obtain ⟨V_643, H_643, S_643, h_643⟩ := h_643
                                    have okm : okS V9 r_614 ∧ (0 ≤ r_624.toInt ∧ r_624.toInt < 64) := ⟨⟨by omega, by omega⟩, by omega, by omega⟩
                                    replace h_643 := h_643.resolve_left (fun q => q.1 okm)
                                    rcases h_643 with ⟨_, ht16, n_643, e1_643, e2_643⟩ | ⟨_, ht16, n_643, e1_643, e2_643⟩
                                    · skip
                                      subst e1_643; subst e2_643
                                      refine EZ_istore [(10, .int r_643), (9, .int r_110), (8, .int r_101), (7, .int r_94), (6, .int r_87), (5, .int r_80), (4, .int r_69), (0, .ref 99), (1, .ref 0), (2, .int xsp), (3, .int xk)] dL_law_646 (by decide) rfl ?_
                                      refine EZ_iload 0 dL_law_648 rfl ?_
                                      refine EZ_sipush (-902) (by decide) dL_law_650 ?_
                                      refine ZZ_ne r_643.toInt (-902) rfl (show ((-902) : Int32).toInt = (-902) from rfl) 667 dL_law_653 (by decide) (fun c_653 => ?_) (fun c_653 => ?_)
                                      · exact absurd c_653 (by omega)
                                      · skip
                                        refine EZ_iload 2 dL_law_656 rfl ?_
                                        refine EZ_bipush 16 (by decide) dL_law_658 ?_
                                        refine ZZ_ne (tV V9 : Int) 16 n_101 (show (16 : Int32).toInt = 16 from rfl) 667 dL_law_660 (by decide) (fun c_660 => ?_) (fun c_660 => ?_)
                                        · exact absurd c_660 (by omega)
                                        · skip
                                          refine EZ_iconst 0 (by decide) dL_law_663 ?_
                                          refine EZ_goto 669 dL_law_664 (by decide) ?_
                                          refine EZ_istore [(10, .int 0), (9, .int r_110), (8, .int r_101), (7, .int r_94), (6, .int r_87), (5, .int r_80), (4, .int r_69), (0, .ref 99), (1, .ref 0), (2, .int xsp), (3, .int xk)] dL_law_669 (by decide) rfl ?_
                                          refine EZ_sub [7, 8, 9, 10, 5, 0] rfl ?_
                                          exact J671 mi_643 ml_643 _ _ xsp 0 r_80 _ _ S_643 hsp (by decide) (by omega) (by omega)
                                    · skip
                                      subst e1_643; subst e2_643
                                      refine EZ_istore [(10, .int r_643), (9, .int r_110), (8, .int r_101), (7, .int r_94), (6, .int r_87), (5, .int r_80), (4, .int r_69), (0, .ref 99), (1, .ref 0), (2, .int xsp), (3, .int xk)] dL_law_646 (by decide) rfl ?_
                                      refine EZ_iload 0 dL_law_648 rfl ?_
                                      refine EZ_sipush (-902) (by decide) dL_law_650 ?_
                                      refine ZZ_ne r_643.toInt (-902) rfl (show ((-902) : Int32).toInt = (-902) from rfl) 667 dL_law_653 (by decide) (fun c_653 => ?_) (fun c_653 => ?_)
                                      · skip
                                        refine EZ_iload 0 dL_law_667 rfl ?_
                                        refine EZ_istore [(10, .int r_643), (9, .int r_110), (8, .int r_101), (7, .int r_94), (6, .int r_87), (5, .int r_80), (4, .int r_69), (0, .ref 99), (1, .ref 0), (2, .int xsp), (3, .int xk)] dL_law_669 (by decide) rfl ?_
                                        refine EZ_sub [7, 8, 9, 10, 5, 0] rfl ?_
                                        exact J671 mi_643 ml_643 _ _ xsp r_643 r_80 _ _ S_643 (by rw [v4_atv]; exact hsp) (by omega) (by omega) (by omega)
                                      · exact absurd c_653 (by omega)
                                  · skip
                                    refine EZ_iconst 1 (by decide) dL_law_638 ?_
                                    refine EZ_goto 643 dL_law_639 (by decide) ?_
                                    refine EZ_callH znL (k_addTest l hfl S_101 r_614 r_624 1 True (b1 trivial)) cwH_179 (As := [.ref 0, .int r_614, .int r_624, .int 1]) (st := []) rfl (rokL (Nat.le_of_ble_eq_true rfl) (Nat.le_of_ble_eq_true rfl) (by omega) (by omega)) (Nat.le_of_ble_eq_true rfl) dL_law_643 rfl (zkI (fun r_643 mi_643 ml_643 h_643 => ?_))
                                    obtain ⟨V_643, H_643, S_643, h_643⟩ := h_643
                                    have okm : okS V9 r_614 ∧ (0 ≤ r_624.toInt ∧ r_624.toInt < 64) := ⟨⟨by omega, by omega⟩, by omega, by omega⟩
                                    replace h_643 := h_643.resolve_left (fun q => q.1 okm)
                                    rcases h_643 with ⟨_, ht16, n_643, e1_643, e2_643⟩ | ⟨_, ht16, n_643, e1_643, e2_643⟩
                                    · skip
                                      subst e1_643; subst e2_643
                                      refine EZ_istore [(10, .int r_643), (9, .int r_110), (8, .int r_101), (7, .int r_94), (6, .int r_87), (5, .int r_80), (4, .int r_69), (0, .ref 99), (1, .ref 0), (2, .int xsp), (3, .int xk)] dL_law_646 (by decide) rfl ?_
                                      refine EZ_iload 0 dL_law_648 rfl ?_
                                      refine EZ_sipush (-902) (by decide) dL_law_650 ?_
                                      refine ZZ_ne r_643.toInt (-902) rfl (show ((-902) : Int32).toInt = (-902) from rfl) 667 dL_law_653 (by decide) (fun c_653 => ?_) (fun c_653 => ?_)
                                      · exact absurd c_653 (by omega)
                                      · skip
                                        refine EZ_iload 2 dL_law_656 rfl ?_
                                        refine EZ_bipush 16 (by decide) dL_law_658 ?_
                                        refine ZZ_ne (tV V9 : Int) 16 n_101 (show (16 : Int32).toInt = 16 from rfl) 667 dL_law_660 (by decide) (fun c_660 => ?_) (fun c_660 => ?_)
                                        · exact absurd c_660 (by omega)
                                        · skip
                                          refine EZ_iconst 0 (by decide) dL_law_663 ?_
                                          refine EZ_goto 669 dL_law_664 (by decide) ?_
                                          refine EZ_istore [(10, .int 0), (9, .int r_110), (8, .int r_101), (7, .int r_94), (6, .int r_87), (5, .int r_80), (4, .int r_69), (0, .ref 99), (1, .ref 0), (2, .int xsp), (3, .int xk)] dL_law_669 (by decide) rfl ?_
                                          refine EZ_sub [7, 8, 9, 10, 5, 0] rfl ?_
                                          exact J671 mi_643 ml_643 _ _ xsp 0 r_80 _ _ S_643 hsp (by decide) (by omega) (by omega)
                                    · skip
                                      subst e1_643; subst e2_643
                                      refine EZ_istore [(10, .int r_643), (9, .int r_110), (8, .int r_101), (7, .int r_94), (6, .int r_87), (5, .int r_80), (4, .int r_69), (0, .ref 99), (1, .ref 0), (2, .int xsp), (3, .int xk)] dL_law_646 (by decide) rfl ?_
                                      refine EZ_iload 0 dL_law_648 rfl ?_
                                      refine EZ_sipush (-902) (by decide) dL_law_650 ?_
                                      refine ZZ_ne r_643.toInt (-902) rfl (show ((-902) : Int32).toInt = (-902) from rfl) 667 dL_law_653 (by decide) (fun c_653 => ?_) (fun c_653 => ?_)
                                      · skip
                                        refine EZ_iload 0 dL_law_667 rfl ?_
                                        refine EZ_istore [(10, .int r_643), (9, .int r_110), (8, .int r_101), (7, .int r_94), (6, .int r_87), (5, .int r_80), (4, .int r_69), (0, .ref 99), (1, .ref 0), (2, .int xsp), (3, .int xk)] dL_law_669 (by decide) rfl ?_
                                        refine EZ_sub [7, 8, 9, 10, 5, 0] rfl ?_
                                        exact J671 mi_643 ml_643 _ _ xsp r_643 r_80 _ _ S_643 (by rw [v4_atv]; exact hsp) (by omega) (by omega) (by omega)
                                      · exact absurd c_653 (by omega)
                                · skip
                                  refine EZ_aload_n 8 dL_law_567 rfl rfl ?_
                                  refine EZ_iload 5 dL_law_568 rfl ?_
                                  refine EZ_iconst 1 (by decide) dL_law_570 ?_
                                  refine EZ_iload 4 dL_law_571 rfl ?_
                                  refine EZ_ishl dL_law_573 ?_
                                  refine EZ_callZ znL (z_low l hfl mi_101 ml_101 r_80 ((1 : Int32) <<< (r_87 &&& 31)) ((2 ^ nV V9 : Nat) : Int) (pw_s n_87 wn.2) (by have h9 := Nat.two_pow_pos (nV V9); omega)) cw_L_164 (As := [.int r_80, .int ((1 : Int32) <<< (r_87 &&& 31))]) (st := [.ref 0]) ws_yL_low rfl (rokL (Nat.le_of_ble_eq_true rfl) (Nat.le_of_ble_eq_true rfl) (by omega) (by omega)) (Nat.le_of_ble_eq_true rfl) dL_law_574 rfl (zkI (fun r_574 mi_574 ml_574 h_574 => ?_))
                                  obtain ⟨e1_574, e2_574, h_574⟩ := h_574
                                  subst e1_574; subst e2_574
                                  refine EZ_callH znL (k_addMixer l hfl S_101 r_574) cwH_195 (As := [.ref 0, .int r_574]) (st := []) rfl (rokL (Nat.le_of_ble_eq_true rfl) (Nat.le_of_ble_eq_true rfl) (by omega) (by omega)) (Nat.le_of_ble_eq_true rfl) dL_law_577 rfl (zkI (fun r_577 mi_577 ml_577 h_577 => ?_))
                                  obtain ⟨V_577, H_577, S_577, h_577⟩ := h_577
                                  have okm : okS V9 r_574 := ⟨by omega, by omega⟩
                                  replace h_577 := h_577.resolve_left (fun q => q.1 okm)
                                  rcases h_577 with ⟨_, hm5, n_577, e1_577, e2_577⟩ | ⟨_, hm5, n_577, e1_577, e2_577⟩
                                  · skip
                                    subst e1_577; subst e2_577
                                    refine EZ_istore [(10, .int r_577), (9, .int r_110), (8, .int r_101), (7, .int r_94), (6, .int r_87), (5, .int r_80), (4, .int r_69), (0, .ref 99), (1, .ref 0), (2, .int xsp), (3, .int xk)] dL_law_580 (by decide) rfl ?_
                                    refine EZ_iload 0 dL_law_582 rfl ?_
                                    refine EZ_sipush (-902) (by decide) dL_law_584 ?_
                                    refine ZZ_ne r_577.toInt (-902) rfl (show ((-902) : Int32).toInt = (-902) from rfl) 600 dL_law_587 (by decide) (fun c_587 => ?_) (fun c_587 => ?_)
                                    · exact absurd c_587 (by omega)
                                    · skip
                                      refine EZ_iload 3 dL_law_590 rfl ?_
                                      refine EZ_iconst 5 (by decide) dL_law_592 ?_
                                      refine ZZ_ne (mV V9 : Int) 5 n_94 (show (5 : Int32).toInt = 5 from rfl) 600 dL_law_593 (by decide) (fun c_593 => ?_) (fun c_593 => ?_)
                                      · exact absurd c_593 (by omega)
                                      · skip
                                        refine EZ_iconst 0 (by decide) dL_law_596 ?_
                                        refine EZ_goto 602 dL_law_597 (by decide) ?_
                                        refine EZ_istore [(10, .int 0), (9, .int r_110), (8, .int r_101), (7, .int r_94), (6, .int r_87), (5, .int r_80), (4, .int r_69), (0, .ref 99), (1, .ref 0), (2, .int xsp), (3, .int xk)] dL_law_602 (by decide) rfl ?_
                                        refine EZ_goto 671 dL_law_604 (by decide) ?_
                                        refine EZ_sub [7, 8, 9, 10, 5, 0] rfl ?_
                                        exact J671 mi_577 ml_577 _ _ xsp 0 r_80 _ _ S_577 hsp (by decide) (by omega) (by omega)
                                  · skip
                                    subst e1_577; subst e2_577
                                    refine EZ_istore [(10, .int r_577), (9, .int r_110), (8, .int r_101), (7, .int r_94), (6, .int r_87), (5, .int r_80), (4, .int r_69), (0, .ref 99), (1, .ref 0), (2, .int xsp), (3, .int xk)] dL_law_580 (by decide) rfl ?_
                                    refine EZ_iload 0 dL_law_582 rfl ?_
                                    refine EZ_sipush (-902) (by decide) dL_law_584 ?_
                                    refine ZZ_ne r_577.toInt (-902) rfl (show ((-902) : Int32).toInt = (-902) from rfl) 600 dL_law_587 (by decide) (fun c_587 => ?_) (fun c_587 => ?_)
                                    · skip
                                      refine EZ_iload 0 dL_law_600 rfl ?_
                                      refine EZ_istore [(10, .int r_577), (9, .int r_110), (8, .int r_101), (7, .int r_94), (6, .int r_87), (5, .int r_80), (4, .int r_69), (0, .ref 99), (1, .ref 0), (2, .int xsp), (3, .int xk)] dL_law_602 (by decide) rfl ?_
                                      refine EZ_goto 671 dL_law_604 (by decide) ?_
                                      refine EZ_sub [7, 8, 9, 10, 5, 0] rfl ?_
                                      exact J671 mi_577 ml_577 _ _ xsp r_577 r_80 _ _ S_577 (by rw [v4_mix]; exact hsp) (by omega) (by omega) (by omega)
                                    · exact absurd c_587 (by omega)
                              · skip
                                refine EZ_iload 3 dL_law_514 rfl ?_
                                refine YZ_le (mV V9 : Int) n_94 560 dL_law_516 (by decide) (fun c_516 => ?_) (fun c_516 => ?_)
                                · skip
                                  refine EZ_iload 1 dL_law_560 rfl ?_
                                  refine EZ_bipush 11 (by decide) dL_law_562 ?_
                                  refine ZZ_ge r_110.toInt 11 rfl (show (11 : Int32).toInt = 11 from rfl) 607 dL_law_564 (by decide) (fun c_564 => ?_) (fun c_564 => ?_)
                                  · skip
                                    refine EZ_aload_n 8 dL_law_607 rfl rfl ?_
                                    refine EZ_iload 5 dL_law_608 rfl ?_
                                    refine EZ_iconst 1 (by decide) dL_law_610 ?_
                                    refine EZ_iload 4 dL_law_611 rfl ?_
                                    refine EZ_ishl dL_law_613 ?_
                                    refine EZ_callZ znL (z_low l hfl mi_101 ml_101 r_80 ((1 : Int32) <<< (r_87 &&& 31)) ((2 ^ nV V9 : Nat) : Int) (pw_s n_87 wn.2) (by have h9 := Nat.two_pow_pos (nV V9); omega)) cw_L_164 (As := [.int r_80, .int ((1 : Int32) <<< (r_87 &&& 31))]) (st := [.ref 0]) ws_yL_low rfl (rokL (Nat.le_of_ble_eq_true rfl) (Nat.le_of_ble_eq_true rfl) (by omega) (by omega)) (Nat.le_of_ble_eq_true rfl) dL_law_614 rfl (zkI (fun r_614 mi_614 ml_614 h_614 => ?_))
                                    obtain ⟨e1_614, e2_614, h_614⟩ := h_614
                                    subst e1_614; subst e2_614
                                    refine EZ_iload 5 dL_law_617 rfl ?_
                                    refine EZ_bipush 10 (by decide) dL_law_619 ?_
                                    refine EZ_ishr dL_law_621 ?_
                                    refine EZ_bipush 40 (by decide) dL_law_622 ?_
                                    refine EZ_callZ znL (z_low l hfl mi_101 ml_101 (r_80 >>> ((10 : Int32) &&& 31)) 40 40 (show (40 : Int32).toInt = 40 from rfl) (by decide)) cw_L_164 (As := [.int (r_80 >>> ((10 : Int32) &&& 31)), .int 40]) (st := [.int r_614, .ref 0]) ws_yL_low rfl (rokL (Nat.le_of_ble_eq_true rfl) (Nat.le_of_ble_eq_true rfl) (by omega) (by omega)) (Nat.le_of_ble_eq_true rfl) dL_law_624 rfl (zkI (fun r_624 mi_624 ml_624 h_624 => ?_))
                                    obtain ⟨e1_624, e2_624, h_624⟩ := h_624
                                    subst e1_624; subst e2_624
                                    refine EZ_iload 5 dL_law_627 rfl ?_
                                    refine EZ_bipush 16 (by decide) dL_law_629 ?_
                                    refine EZ_ishr dL_law_631 ?_
                                    refine EZ_iconst 1 (by decide) dL_law_632 ?_
                                    refine EZ_iand dL_law_633 ?_
                                    refine EZ_iconst 1 (by decide) dL_law_634 ?_
                                    refine ZZ_ne (((r_80 >>> ((16 : Int32) &&& 31)) &&& (1 : Int32)).toInt) 1 rfl (show (1 : Int32).toInt = 1 from rfl) 642 dL_law_635 (by decide) (fun c_635 => ?_) (fun c_635 => ?_)
                                    · skip
                                      refine EZ_iconst 0 (by decide) dL_law_642 ?_
                                      refine EZ_callH znL (k_addTest l hfl S_101 r_614 r_624 0 False (b0 not_false)) cwH_179 (As := [.ref 0, .int r_614, .int r_624, .int 0]) (st := []) rfl (rokL (Nat.le_of_ble_eq_true rfl) (Nat.le_of_ble_eq_true rfl) (by omega) (by omega)) (Nat.le_of_ble_eq_true rfl) dL_law_643 rfl (zkI (fun r_643 mi_643 ml_643 h_643 => ?_))
                                      obtain ⟨V_643, H_643, S_643, h_643⟩ := h_643
                                      have okm : okS V9 r_614 ∧ (0 ≤ r_624.toInt ∧ r_624.toInt < 64) := ⟨⟨by omega, by omega⟩, by omega, by omega⟩
                                      replace h_643 := h_643.resolve_left (fun q => q.1 okm)
                                      rcases h_643 with ⟨_, ht16, n_643, e1_643, e2_643⟩ | ⟨_, ht16, n_643, e1_643, e2_643⟩
                                      · skip
                                        subst e1_643; subst e2_643
                                        refine EZ_istore [(10, .int r_643), (9, .int r_110), (8, .int r_101), (7, .int r_94), (6, .int r_87), (5, .int r_80), (4, .int r_69), (0, .ref 99), (1, .ref 0), (2, .int xsp), (3, .int xk)] dL_law_646 (by decide) rfl ?_
                                        refine EZ_iload 0 dL_law_648 rfl ?_
                                        refine EZ_sipush (-902) (by decide) dL_law_650 ?_
                                        refine ZZ_ne r_643.toInt (-902) rfl (show ((-902) : Int32).toInt = (-902) from rfl) 667 dL_law_653 (by decide) (fun c_653 => ?_) (fun c_653 => ?_)
                                        · exact absurd c_653 (by omega)
                                        · skip
                                          refine EZ_iload 2 dL_law_656 rfl ?_
                                          refine EZ_bipush 16 (by decide) dL_law_658 ?_
                                          refine ZZ_ne (tV V9 : Int) 16 n_101 (show (16 : Int32).toInt = 16 from rfl) 667 dL_law_660 (by decide) (fun c_660 => ?_) (fun c_660 => ?_)
                                          · exact absurd c_660 (by omega)
                                          · skip
                                            refine EZ_iconst 0 (by decide) dL_law_663 ?_
                                            refine EZ_goto 669 dL_law_664 (by decide) ?_
                                            refine EZ_istore [(10, .int 0), (9, .int r_110), (8, .int r_101), (7, .int r_94), (6, .int r_87), (5, .int r_80), (4, .int r_69), (0, .ref 99), (1, .ref 0), (2, .int xsp), (3, .int xk)] dL_law_669 (by decide) rfl ?_
                                            refine EZ_sub [7, 8, 9, 10, 5, 0] rfl ?_
                                            exact J671 mi_643 ml_643 _ _ xsp 0 r_80 _ _ S_643 hsp (by decide) (by omega) (by omega)
                                      · skip
                                        subst e1_643; subst e2_643
                                        refine EZ_istore [(10, .int r_643), (9, .int r_110), (8, .int r_101), (7, .int r_94), (6, .int r_87), (5, .int r_80), (4, .int r_69), (0, .ref 99), (1, .ref 0), (2, .int xsp), (3, .int xk)] dL_law_646 (by decide) rfl ?_
                                        refine EZ_iload 0 dL_law_648 rfl ?_
                                        refine EZ_sipush (-902) (by decide) dL_law_650 ?_
                                        refine ZZ_ne r_643.toInt (-902) rfl (show ((-902) : Int32).toInt = (-902) from rfl) 667 dL_law_653 (by decide) (fun c_653 => ?_) (fun c_653 => ?_)
                                        · skip
                                          refine EZ_iload 0 dL_law_667 rfl ?_
                                          refine EZ_istore [(10, .int r_643), (9, .int r_110), (8, .int r_101), (7, .int r_94), (6, .int r_87), (5, .int r_80), (4, .int r_69), (0, .ref 99), (1, .ref 0), (2, .int xsp), (3, .int xk)] dL_law_669 (by decide) rfl ?_
                                          refine EZ_sub [7, 8, 9, 10, 5, 0] rfl ?_
                                          exact J671 mi_643 ml_643 _ _ xsp r_643 r_80 _ _ S_643 (by rw [v4_atv]; exact hsp) (by omega) (by omega) (by omega)
                                        · exact absurd c_653 (by omega)
                                    · skip
                                      refine EZ_iconst 1 (by decide) dL_law_638 ?_
                                      refine EZ_goto 643 dL_law_639 (by decide) ?_
                                      refine EZ_callH znL (k_addTest l hfl S_101 r_614 r_624 1 True (b1 trivial)) cwH_179 (As := [.ref 0, .int r_614, .int r_624, .int 1]) (st := []) rfl (rokL (Nat.le_of_ble_eq_true rfl) (Nat.le_of_ble_eq_true rfl) (by omega) (by omega)) (Nat.le_of_ble_eq_true rfl) dL_law_643 rfl (zkI (fun r_643 mi_643 ml_643 h_643 => ?_))
                                      obtain ⟨V_643, H_643, S_643, h_643⟩ := h_643
                                      have okm : okS V9 r_614 ∧ (0 ≤ r_624.toInt ∧ r_624.toInt < 64) := ⟨⟨by omega, by omega⟩, by omega, by omega⟩
                                      replace h_643 := h_643.resolve_left (fun q => q.1 okm)
                                      rcases h_643 with ⟨_, ht16, n_643, e1_643, e2_643⟩ | ⟨_, ht16, n_643, e1_643, e2_643⟩
                                      · skip
                                        subst e1_643; subst e2_643
                                        refine EZ_istore [(10, .int r_643), (9, .int r_110), (8, .int r_101), (7, .int r_94), (6, .int r_87), (5, .int r_80), (4, .int r_69), (0, .ref 99), (1, .ref 0), (2, .int xsp), (3, .int xk)] dL_law_646 (by decide) rfl ?_
                                        refine EZ_iload 0 dL_law_648 rfl ?_
                                        refine EZ_sipush (-902) (by decide) dL_law_650 ?_
                                        refine ZZ_ne r_643.toInt (-902) rfl (show ((-902) : Int32).toInt = (-902) from rfl) 667 dL_law_653 (by decide) (fun c_653 => ?_) (fun c_653 => ?_)
                                        · exact absurd c_653 (by omega)
                                        · skip
                                          refine EZ_iload 2 dL_law_656 rfl ?_
                                          refine EZ_bipush 16 (by decide) dL_law_658 ?_
                                          refine ZZ_ne (tV V9 : Int) 16 n_101 (show (16 : Int32).toInt = 16 from rfl) 667 dL_law_660 (by decide) (fun c_660 => ?_) (fun c_660 => ?_)
                                          · exact absurd c_660 (by omega)
                                          · skip
                                            refine EZ_iconst 0 (by decide) dL_law_663 ?_
                                            refine EZ_goto 669 dL_law_664 (by decide) ?_
                                            refine EZ_istore [(10, .int 0), (9, .int r_110), (8, .int r_101), (7, .int r_94), (6, .int r_87), (5, .int r_80), (4, .int r_69), (0, .ref 99), (1, .ref 0), (2, .int xsp), (3, .int xk)] dL_law_669 (by decide) rfl ?_
                                            refine EZ_sub [7, 8, 9, 10, 5, 0] rfl ?_
                                            exact J671 mi_643 ml_643 _ _ xsp 0 r_80 _ _ S_643 hsp (by decide) (by omega) (by omega)
                                      · skip
                                        subst e1_643; subst e2_643
                                        refine EZ_istore [(10, .int r_643), (9, .int r_110), (8, .int r_101), (7, .int r_94), (6, .int r_87), (5, .int r_80), (4, .int r_69), (0, .ref 99), (1, .ref 0), (2, .int xsp), (3, .int xk)] dL_law_646 (by decide) rfl ?_
                                        refine EZ_iload 0 dL_law_648 rfl ?_
                                        refine EZ_sipush (-902) (by decide) dL_law_650 ?_
                                        refine ZZ_ne r_643.toInt (-902) rfl (show ((-902) : Int32).toInt = (-902) from rfl) 667 dL_law_653 (by decide) (fun c_653 => ?_) (fun c_653 => ?_)
                                        · skip
                                          refine EZ_iload 0 dL_law_667 rfl ?_
                                          refine EZ_istore [(10, .int r_643), (9, .int r_110), (8, .int r_101), (7, .int r_94), (6, .int r_87), (5, .int r_80), (4, .int r_69), (0, .ref 99), (1, .ref 0), (2, .int xsp), (3, .int xk)] dL_law_669 (by decide) rfl ?_
                                          refine EZ_sub [7, 8, 9, 10, 5, 0] rfl ?_
                                          exact J671 mi_643 ml_643 _ _ xsp r_643 r_80 _ _ S_643 (by rw [v4_atv]; exact hsp) (by omega) (by omega) (by omega)
                                        · exact absurd c_653 (by omega)
                                  · skip
                                    refine EZ_aload_n 8 dL_law_567 rfl rfl ?_
                                    refine EZ_iload 5 dL_law_568 rfl ?_
                                    refine EZ_iconst 1 (by decide) dL_law_570 ?_
                                    refine EZ_iload 4 dL_law_571 rfl ?_
                                    refine EZ_ishl dL_law_573 ?_
                                    refine EZ_callZ znL (z_low l hfl mi_101 ml_101 r_80 ((1 : Int32) <<< (r_87 &&& 31)) ((2 ^ nV V9 : Nat) : Int) (pw_s n_87 wn.2) (by have h9 := Nat.two_pow_pos (nV V9); omega)) cw_L_164 (As := [.int r_80, .int ((1 : Int32) <<< (r_87 &&& 31))]) (st := [.ref 0]) ws_yL_low rfl (rokL (Nat.le_of_ble_eq_true rfl) (Nat.le_of_ble_eq_true rfl) (by omega) (by omega)) (Nat.le_of_ble_eq_true rfl) dL_law_574 rfl (zkI (fun r_574 mi_574 ml_574 h_574 => ?_))
                                    obtain ⟨e1_574, e2_574, h_574⟩ := h_574
                                    subst e1_574; subst e2_574
                                    refine EZ_callH znL (k_addMixer l hfl S_101 r_574) cwH_195 (As := [.ref 0, .int r_574]) (st := []) rfl (rokL (Nat.le_of_ble_eq_true rfl) (Nat.le_of_ble_eq_true rfl) (by omega) (by omega)) (Nat.le_of_ble_eq_true rfl) dL_law_577 rfl (zkI (fun r_577 mi_577 ml_577 h_577 => ?_))
                                    obtain ⟨V_577, H_577, S_577, h_577⟩ := h_577
                                    have okm : okS V9 r_574 := ⟨by omega, by omega⟩
                                    replace h_577 := h_577.resolve_left (fun q => q.1 okm)
                                    rcases h_577 with ⟨_, hm5, n_577, e1_577, e2_577⟩ | ⟨_, hm5, n_577, e1_577, e2_577⟩
                                    · skip
                                      subst e1_577; subst e2_577
                                      refine EZ_istore [(10, .int r_577), (9, .int r_110), (8, .int r_101), (7, .int r_94), (6, .int r_87), (5, .int r_80), (4, .int r_69), (0, .ref 99), (1, .ref 0), (2, .int xsp), (3, .int xk)] dL_law_580 (by decide) rfl ?_
                                      refine EZ_iload 0 dL_law_582 rfl ?_
                                      refine EZ_sipush (-902) (by decide) dL_law_584 ?_
                                      refine ZZ_ne r_577.toInt (-902) rfl (show ((-902) : Int32).toInt = (-902) from rfl) 600 dL_law_587 (by decide) (fun c_587 => ?_) (fun c_587 => ?_)
                                      · exact absurd c_587 (by omega)
                                      · skip
                                        refine EZ_iload 3 dL_law_590 rfl ?_
                                        refine EZ_iconst 5 (by decide) dL_law_592 ?_
                                        refine ZZ_ne (mV V9 : Int) 5 n_94 (show (5 : Int32).toInt = 5 from rfl) 600 dL_law_593 (by decide) (fun c_593 => ?_) (fun c_593 => ?_)
                                        · exact absurd c_593 (by omega)
                                        · skip
                                          refine EZ_iconst 0 (by decide) dL_law_596 ?_
                                          refine EZ_goto 602 dL_law_597 (by decide) ?_
                                          refine EZ_istore [(10, .int 0), (9, .int r_110), (8, .int r_101), (7, .int r_94), (6, .int r_87), (5, .int r_80), (4, .int r_69), (0, .ref 99), (1, .ref 0), (2, .int xsp), (3, .int xk)] dL_law_602 (by decide) rfl ?_
                                          refine EZ_goto 671 dL_law_604 (by decide) ?_
                                          refine EZ_sub [7, 8, 9, 10, 5, 0] rfl ?_
                                          exact J671 mi_577 ml_577 _ _ xsp 0 r_80 _ _ S_577 hsp (by decide) (by omega) (by omega)
                                    · skip
                                      subst e1_577; subst e2_577
                                      refine EZ_istore [(10, .int r_577), (9, .int r_110), (8, .int r_101), (7, .int r_94), (6, .int r_87), (5, .int r_80), (4, .int r_69), (0, .ref 99), (1, .ref 0), (2, .int xsp), (3, .int xk)] dL_law_580 (by decide) rfl ?_
                                      refine EZ_iload 0 dL_law_582 rfl ?_
                                      refine EZ_sipush (-902) (by decide) dL_law_584 ?_
                                      refine ZZ_ne r_577.toInt (-902) rfl (show ((-902) : Int32).toInt = (-902) from rfl) 600 dL_law_587 (by decide) (fun c_587 => ?_) (fun c_587 => ?_)
                                      · skip
                                        refine EZ_iload 0 dL_law_600 rfl ?_
                                        refine EZ_istore [(10, .int r_577), (9, .int r_110), (8, .int r_101), (7, .int r_94), (6, .int r_87), (5, .int r_80), (4, .int r_69), (0, .ref 99), (1, .ref 0), (2, .int xsp), (3, .int xk)] dL_law_602 (by decide) rfl ?_
                                        refine EZ_goto 671 dL_law_604 (by decide) ?_
                                        refine EZ_sub [7, 8, 9, 10, 5, 0] rfl ?_
                                        exact J671 mi_577 ml_577 _ _ xsp r_577 r_80 _ _ S_577 (by rw [v4_mix]; exact hsp) (by omega) (by omega) (by omega)
                                      · exact absurd c_587 (by omega)
                                · skip
                                  refine EZ_aload_n 8 dL_law_519 rfl rfl ?_
                                  refine EZ_iload 5 dL_law_520 rfl ?_
                                  refine EZ_iload 3 dL_law_522 rfl ?_
                                  refine EZ_callZ znL (z_low l hfl mi_101 ml_101 r_80 r_94 (mV V9 : Int) n_94 (by omega)) cw_L_164 (As := [.int r_80, .int r_94]) (st := [.ref 0]) ws_yL_low rfl (rokL (Nat.le_of_ble_eq_true rfl) (Nat.le_of_ble_eq_true rfl) (by omega) (by omega)) (Nat.le_of_ble_eq_true rfl) dL_law_524 rfl (zkI (fun r_524 mi_524 ml_524 h_524 => ?_))
                                  obtain ⟨e1_524, e2_524, h_524⟩ := h_524
                                  subst e1_524; subst e2_524
                                  refine EZ_iload 5 dL_law_527 rfl ?_
                                  refine EZ_iconst 4 (by decide) dL_law_529 ?_
                                  refine EZ_ishr dL_law_530 ?_
                                  refine EZ_iload 4 dL_law_531 rfl ?_
                                  refine EZ_callZ znL (z_low l hfl mi_101 ml_101 (r_80 >>> ((4 : Int32) &&& 31)) r_87 (nV V9 : Int) n_87 (by omega)) cw_L_164 (As := [.int (r_80 >>> ((4 : Int32) &&& 31)), .int r_87]) (st := [.int r_524, .ref 0]) ws_yL_low rfl (rokL (Nat.le_of_ble_eq_true rfl) (Nat.le_of_ble_eq_true rfl) (by omega) (by omega)) (Nat.le_of_ble_eq_true rfl) dL_law_533 rfl (zkI (fun r_533 mi_533 ml_533 h_533 => ?_))
                                  obtain ⟨e1_533, e2_533, h_533⟩ := h_533
                                  subst e1_533; subst e2_533
                                  refine EZ_iload 5 dL_law_536 rfl ?_
                                  refine EZ_bipush 9 (by decide) dL_law_538 ?_
                                  refine EZ_ishr dL_law_540 ?_
                                  refine EZ_iconst 1 (by decide) dL_law_541 ?_
                                  refine EZ_iand dL_law_542 ?_
                                  refine EZ_iconst 1 (by decide) dL_law_543 ?_
                                  refine ZZ_ne (((r_80 >>> ((9 : Int32) &&& 31)) &&& (1 : Int32)).toInt) 1 rfl (show (1 : Int32).toInt = 1 from rfl) 551 dL_law_544 (by decide) (fun c_544 => ?_) (fun c_544 => ?_)
                                  · skip
                                    refine EZ_iconst 0 (by decide) dL_law_551 ?_
                                    refine EZ_callH znL (k_setMember l hfl S_101 r_524 r_533 0 False (b0 not_false)) cwH_197 (As := [.ref 0, .int r_524, .int r_533, .int 0]) (st := []) rfl (rokL (Nat.le_of_ble_eq_true rfl) (Nat.le_of_ble_eq_true rfl) (by omega) (by omega)) (Nat.le_of_ble_eq_true rfl) dL_law_552 rfl (zkI (fun r_552 mi_552 ml_552 h_552 => ?_))
                                    obtain ⟨V_552, H_552, S_552, h_552⟩ := h_552
                                    obtain ⟨bq, hbq, _, n_552, e1_552, e2_552⟩ := h_552.resolve_left (fun q => q.1 (by omega))
                                    subst e1_552; subst e2_552
                                    refine EZ_istore [(10, .int r_552), (9, .int r_110), (8, .int r_101), (7, .int r_94), (6, .int r_87), (5, .int r_80), (4, .int r_69), (0, .ref 99), (1, .ref 0), (2, .int xsp), (3, .int xk)] dL_law_555 (by decide) rfl ?_
                                    refine EZ_goto 671 dL_law_557 (by decide) ?_
                                    refine EZ_sub [7, 8, 9, 10, 5, 0] rfl ?_
                                    exact J671 mi_552 ml_552 _ _ xsp r_552 r_80 _ _ S_552 (by rw [v4_mem]; exact hsp) (by omega) (by omega) (by omega)
                                  · skip
                                    refine EZ_iconst 1 (by decide) dL_law_547 ?_
                                    refine EZ_goto 552 dL_law_548 (by decide) ?_
                                    refine EZ_callH znL (k_setMember l hfl S_101 r_524 r_533 1 True (b1 trivial)) cwH_197 (As := [.ref 0, .int r_524, .int r_533, .int 1]) (st := []) rfl (rokL (Nat.le_of_ble_eq_true rfl) (Nat.le_of_ble_eq_true rfl) (by omega) (by omega)) (Nat.le_of_ble_eq_true rfl) dL_law_552 rfl (zkI (fun r_552 mi_552 ml_552 h_552 => ?_))
                                    obtain ⟨V_552, H_552, S_552, h_552⟩ := h_552
                                    obtain ⟨bq, hbq, _, n_552, e1_552, e2_552⟩ := h_552.resolve_left (fun q => q.1 (by omega))
                                    subst e1_552; subst e2_552
                                    refine EZ_istore [(10, .int r_552), (9, .int r_110), (8, .int r_101), (7, .int r_94), (6, .int r_87), (5, .int r_80), (4, .int r_69), (0, .ref 99), (1, .ref 0), (2, .int xsp), (3, .int xk)] dL_law_555 (by decide) rfl ?_
                                    refine EZ_goto 671 dL_law_557 (by decide) ?_
                                    refine EZ_sub [7, 8, 9, 10, 5, 0] rfl ?_
                                    exact J671 mi_552 ml_552 _ _ xsp r_552 r_80 _ _ S_552 (by rw [v4_mem]; exact hsp) (by omega) (by omega) (by omega)
                            · skip
                              refine EZ_iconst 1 (by decide) dL_law_464 ?_
                              refine EZ_iload 5 dL_law_465 rfl ?_
                              refine EZ_iconst 3 (by decide) dL_law_467 ?_
                              refine EZ_ishr dL_law_468 ?_
                              refine EZ_iconst 4 (by decide) dL_law_469 ?_
                              refine EZ_callZ znL (z_low l hfl mi_101 ml_101 (r_80 >>> ((3 : Int32) &&& 31)) 4 4 (show (4 : Int32).toInt = 4 from rfl) (by decide)) cw_L_164 (As := [.int (r_80 >>> ((3 : Int32) &&& 31)), .int 4]) (st := [.int 1]) ws_yL_low rfl (rokL (Nat.le_of_ble_eq_true rfl) (Nat.le_of_ble_eq_true rfl) (by omega) (by omega)) (Nat.le_of_ble_eq_true rfl) dL_law_470 rfl (zkI (fun r_470 mi_470 ml_470 h_470 => ?_))
                              obtain ⟨e1_470, e2_470, h_470⟩ := h_470
                              subst e1_470; subst e2_470
                              refine EZ_iadd dL_law_473 ?_
                              refine EZ_istore_n [(2, .int (1 + r_470)), (10, .int 0), (9, .int r_110), (8, .int r_101), (7, .int r_94), (6, .int r_87), (5, .int r_80), (4, .int r_69), (0, .ref 99), (1, .ref 0), (3, .int xk)] dL_law_474 rfl (by decide) rfl ?_
                              refine EZ_aload_n 9 dL_law_475 rfl rfl ?_
                              refine EZ_iload 6 dL_law_476 rfl ?_
                              refine EZ_iconst 3 (by decide) dL_law_478 ?_
                              refine EZ_callZ znL (z_low l hfl mi_101 ml_101 r_80 3 3 (show (3 : Int32).toInt = 3 from rfl) (by decide)) cw_L_164 (As := [.int r_80, .int 3]) (st := [.ref 0]) ws_yL_low rfl (rokL (Nat.le_of_ble_eq_true rfl) (Nat.le_of_ble_eq_true rfl) (by omega) (by omega)) (Nat.le_of_ble_eq_true rfl) dL_law_479 rfl (zkI (fun r_479 mi_479 ml_479 h_479 => ?_))
                              obtain ⟨e1_479, e2_479, h_479⟩ := h_479
                              subst e1_479; subst e2_479
                              refine YZ_ne r_479.toInt rfl 497 dL_law_482 (by decide) (fun c_482 => ?_) (fun c_482 => ?_)
                              · skip
                                refine EZ_iconst 0 (by decide) dL_law_497 ?_
                                refine EZ_iload_n 0 dL_law_498 rfl rfl ?_
                                refine EZ_callH znL (k_setSpacing l hfl S_101 0 (1 + r_470)) cwH_162 (As := [.ref 0, .int 0, .int (1 + r_470)]) (st := []) rfl (rokL (Nat.le_of_ble_eq_true rfl) (Nat.le_of_ble_eq_true rfl) (by omega) (by omega)) (Nat.le_of_ble_eq_true rfl) dL_law_499 rfl (zkI (fun r_499 mi_499 ml_499 h_499 => ?_))
                                obtain ⟨V_499, H_499, S_499, h_499⟩ := h_499
                                (try rw [show (0 : Int32).toInt = 0 from (show (0 : Int32).toInt = 0 from rfl)] at h_499)
                                (try rw [show (1 + r_470).toInt = (1 + r_470.toInt) from (tI_add (show (1 : Int32).toInt = 1 from rfl) rfl (by omega))] at h_499)
                                obtain ⟨_, n_499, e1_499, e2_499⟩ := h_499.resolve_left (fun q => q.1 (by omega))
                                subst e1_499; subst e2_499
                                refine EZ_istore [(10, .int r_499), (2, .int (1 + r_470)), (9, .int r_110), (8, .int r_101), (7, .int r_94), (6, .int r_87), (5, .int r_80), (4, .int r_69), (0, .ref 99), (1, .ref 0), (3, .int xk)] dL_law_502 (by decide) rfl ?_
                                refine EZ_goto 671 dL_law_504 (by decide) ?_
                                refine EZ_sub [8, 9, 1, 10, 6, 0] rfl ?_
                                exact J671 mi_499 ml_499 _ _ (1 + r_470) r_499 r_80 _ _ S_499 rfl (by rw [n_499]; have h9 := S57.1.1; omega) (by omega) (by omega)
                              · skip
                                refine EZ_iload 6 dL_law_485 rfl ?_
                                refine EZ_bipush 6 (by decide) dL_law_487 ?_
                                refine EZ_ishr dL_law_489 ?_
                                refine EZ_iconst 4 (by decide) dL_law_490 ?_
                                refine EZ_callZ znL (z_low l hfl mi_101 ml_101 (r_80 >>> ((6 : Int32) &&& 31)) 4 4 (show (4 : Int32).toInt = 4 from rfl) (by decide)) cw_L_164 (As := [.int (r_80 >>> ((6 : Int32) &&& 31)), .int 4]) (st := [.ref 0]) ws_yL_low rfl (rokL (Nat.le_of_ble_eq_true rfl) (Nat.le_of_ble_eq_true rfl) (by omega) (by omega)) (Nat.le_of_ble_eq_true rfl) dL_law_491 rfl (zkI (fun r_491 mi_491 ml_491 h_491 => ?_))
                                obtain ⟨e1_491, e2_491, h_491⟩ := h_491
                                subst e1_491; subst e2_491
                                refine EZ_goto 498 dL_law_494 (by decide) ?_
                                refine EZ_iload_n 0 dL_law_498 rfl rfl ?_
                                refine EZ_callH znL (k_setSpacing l hfl S_101 r_491 (1 + r_470)) cwH_162 (As := [.ref 0, .int r_491, .int (1 + r_470)]) (st := []) rfl (rokL (Nat.le_of_ble_eq_true rfl) (Nat.le_of_ble_eq_true rfl) (by omega) (by omega)) (Nat.le_of_ble_eq_true rfl) dL_law_499 rfl (zkI (fun r_499 mi_499 ml_499 h_499 => ?_))
                                obtain ⟨V_499, H_499, S_499, h_499⟩ := h_499
                                (try rw [show (1 + r_470).toInt = (1 + r_470.toInt) from (tI_add (show (1 : Int32).toInt = 1 from rfl) rfl (by omega))] at h_499)
                                obtain ⟨_, n_499, e1_499, e2_499⟩ := h_499.resolve_left (fun q => q.1 (by omega))
                                subst e1_499; subst e2_499
                                refine EZ_istore [(10, .int r_499), (2, .int (1 + r_470)), (9, .int r_110), (8, .int r_101), (7, .int r_94), (6, .int r_87), (5, .int r_80), (4, .int r_69), (0, .ref 99), (1, .ref 0), (3, .int xk)] dL_law_502 (by decide) rfl ?_
                                refine EZ_goto 671 dL_law_504 (by decide) ?_
                                refine EZ_sub [8, 9, 1, 10, 6, 0] rfl ?_
                                exact J671 mi_499 ml_499 _ _ (1 + r_470) r_499 r_80 _ _ S_499 rfl (by rw [n_499]; have h9 := S57.1.1; omega) (by omega) (by omega)
                          · skip
                            refine EZ_aload_n 8 dL_law_420 rfl rfl ?_
                            refine EZ_iload 5 dL_law_421 rfl ?_
                            refine EZ_bipush 8 (by decide) dL_law_423 ?_
                            refine EZ_callZ znL (z_low l hfl mi_101 ml_101 r_80 8 8 (show (8 : Int32).toInt = 8 from rfl) (by decide)) cw_L_164 (As := [.int r_80, .int 8]) (st := [.ref 0]) ws_yL_low rfl (rokL (Nat.le_of_ble_eq_true rfl) (Nat.le_of_ble_eq_true rfl) (by omega) (by omega)) (Nat.le_of_ble_eq_true rfl) dL_law_425 rfl (zkI (fun r_425 mi_425 ml_425 h_425 => ?_))
                            obtain ⟨e1_425, e2_425, h_425⟩ := h_425
                            subst e1_425; subst e2_425
                            refine EZ_iload 5 dL_law_428 rfl ?_
                            refine EZ_iconst 3 (by decide) dL_law_430 ?_
                            refine EZ_ishr dL_law_431 ?_
                            refine EZ_sipush 150 (by decide) dL_law_432 ?_
                            refine EZ_callZ znL (z_low l hfl mi_101 ml_101 (r_80 >>> ((3 : Int32) &&& 31)) 150 150 (show (150 : Int32).toInt = 150 from rfl) (by decide)) cw_L_164 (As := [.int (r_80 >>> ((3 : Int32) &&& 31)), .int 150]) (st := [.int r_425, .ref 0]) ws_yL_low rfl (rokL (Nat.le_of_ble_eq_true rfl) (Nat.le_of_ble_eq_true rfl) (by omega) (by omega)) (Nat.le_of_ble_eq_true rfl) dL_law_435 rfl (zkI (fun r_435 mi_435 ml_435 h_435 => ?_))
                            obtain ⟨e1_435, e2_435, h_435⟩ := h_435
                            subst e1_435; subst e2_435
                            refine EZ_iload 5 dL_law_438 rfl ?_
                            refine EZ_bipush 11 (by decide) dL_law_440 ?_
                            refine EZ_ishr dL_law_442 ?_
                            refine EZ_sipush 301 (by decide) dL_law_443 ?_
                            refine EZ_callZ znL (z_low l hfl mi_101 ml_101 (r_80 >>> ((11 : Int32) &&& 31)) 301 301 (show (301 : Int32).toInt = 301 from rfl) (by decide)) cw_L_164 (As := [.int (r_80 >>> ((11 : Int32) &&& 31)), .int 301]) (st := [.int r_435, .int r_425, .ref 0]) ws_yL_low rfl (rokL (Nat.le_of_ble_eq_true rfl) (Nat.le_of_ble_eq_true rfl) (by omega) (by omega)) (Nat.le_of_ble_eq_true rfl) dL_law_446 rfl (zkI (fun r_446 mi_446 ml_446 h_446 => ?_))
                            obtain ⟨e1_446, e2_446, h_446⟩ := h_446
                            subst e1_446; subst e2_446
                            refine EZ_callH znL (k_setProducts l hfl S_101 r_425 r_435 r_446) cwH_159 (As := [.ref 0, .int r_425, .int r_435, .int r_446]) (st := []) rfl (rokL (Nat.le_of_ble_eq_true rfl) (Nat.le_of_ble_eq_true rfl) (by omega) (by omega)) (Nat.le_of_ble_eq_true rfl) dL_law_449 rfl (zkI (fun r_449 mi_449 ml_449 h_449 => ?_))
                            obtain ⟨V_449, H_449, S_449, h_449⟩ := h_449
                            obtain ⟨_, n_449, e1_449, e2_449⟩ := h_449.resolve_left (fun q => q.1 (by omega))
                            subst e1_449; subst e2_449
                            refine EZ_istore [(10, .int r_449), (9, .int r_110), (8, .int r_101), (7, .int r_94), (6, .int r_87), (5, .int r_80), (4, .int r_69), (0, .ref 99), (1, .ref 0), (2, .int xsp), (3, .int xk)] dL_law_452 (by decide) rfl ?_
                            refine EZ_goto 671 dL_law_454 (by decide) ?_
                            refine EZ_sub [7, 8, 9, 10, 5, 0] rfl ?_
                            exact J671 mi_449 ml_449 _ _ xsp r_449 r_80 _ _ S_449 hsp (by rw [n_449]; have h9 := S57.1.1; omega) (by omega) (by omega)
                        · skip
                          refine EZ_iload 5 dL_law_274 rfl ?_
                          refine EZ_bipush 9 (by decide) dL_law_276 ?_
                          refine EZ_callZ znL (z_low l hfl mi_101 ml_101 r_80 9 9 (show (9 : Int32).toInt = 9 from rfl) (by decide)) cw_L_164 (As := [.int r_80, .int 9]) (st := []) ws_yL_low rfl (rokL (Nat.le_of_ble_eq_true rfl) (Nat.le_of_ble_eq_true rfl) (by omega) (by omega)) (Nat.le_of_ble_eq_true rfl) dL_law_278 rfl (zkI (fun r_278 mi_278 ml_278 h_278 => ?_))
                          obtain ⟨e1_278, e2_278, h_278⟩ := h_278
                          subst e1_278; subst e2_278
                          refine EZ_iconst 4 (by decide) dL_law_281 ?_
                          refine EZ_isub dL_law_282 ?_
                          refine EZ_istore [(11, .int (r_278 - 4)), (10, .int 0), (9, .int r_110), (8, .int r_101), (7, .int r_94), (6, .int r_87), (5, .int r_80), (4, .int r_69), (0, .ref 99), (1, .ref 0), (2, .int xsp), (3, .int xk)] dL_law_283 (by decide) rfl ?_
                          refine EZ_aload_n 9 dL_law_285 rfl rfl ?_
                          refine EZ_callV (j_hits l hfl S_101) cw_L_132 (As := []) (st := []) wi_yX5_hits we_yX5_hits (ci := 5) (q := (RX5, TX5, 7)) rfl rfl (wl_atO tw_0) rfl (rokL (Nat.le_of_ble_eq_true rfl) (Nat.le_of_ble_eq_true rfl) (by omega) (by omega)) (Nat.le_of_ble_eq_true rfl) dL_law_286 (fun _ _ h => h) rfl (zkI (fun r_286 mi_286 ml_286 h_286 => ?_))
                          obtain ⟨S_286, h_286⟩ := h_286
                          refine EZ_istore [(12, .int r_286), (11, .int (r_278 - 4)), (10, .int 0), (9, .int r_110), (8, .int r_101), (7, .int r_94), (6, .int r_87), (5, .int r_80), (4, .int r_69), (0, .ref 99), (1, .ref 0), (2, .int xsp), (3, .int xk)] dL_law_289 (by decide) rfl ?_
                          refine EZ_aload_n 10 dL_law_291 rfl rfl ?_
                          refine EZ_callV (j_products l hfl S_286) cw_L_120 (As := []) (st := []) wi_yX5_products we_yX5_products (ci := 5) (q := (RX5, TX5, 7)) rfl rfl (wl_atO tw_0) rfl (rokL (Nat.le_of_ble_eq_true rfl) (Nat.le_of_ble_eq_true rfl) (by omega) (by omega)) (Nat.le_of_ble_eq_true rfl) dL_law_292 (fun _ _ h => h) rfl (zkI (fun r_292 mi_292 ml_292 h_292 => ?_))
                          obtain ⟨S_292, h_292⟩ := h_292
                          refine EZ_istore [(13, .int r_292), (12, .int r_286), (11, .int (r_278 - 4)), (10, .int 0), (9, .int r_110), (8, .int r_101), (7, .int r_94), (6, .int r_87), (5, .int r_80), (4, .int r_69), (0, .ref 99), (1, .ref 0), (2, .int xsp), (3, .int xk)] dL_law_295 (by decide) rfl ?_
                          refine EZ_aload_n 11 dL_law_297 rfl rfl ?_
                          refine EZ_callV (j_isClean l hfl S_292) cw_L_135 (As := []) (st := []) wi_yX5_isClean we_yX5_isClean (ci := 5) (q := (RX5, TX5, 7)) rfl rfl (wl_atO tw_0) rfl (rokL (Nat.le_of_ble_eq_true rfl) (Nat.le_of_ble_eq_true rfl) (by omega) (by omega)) (Nat.le_of_ble_eq_true rfl) dL_law_298 (fun _ _ h => h) rfl (zkI (fun r_298 mi_298 ml_298 h_298 => ?_))
                          obtain ⟨S_298, h_298⟩ := h_298
                          refine EZ_istore [(14, .int r_298), (13, .int r_292), (12, .int r_286), (11, .int (r_278 - 4)), (10, .int 0), (9, .int r_110), (8, .int r_101), (7, .int r_94), (6, .int r_87), (5, .int r_80), (4, .int r_69), (0, .ref 99), (1, .ref 0), (2, .int xsp), (3, .int xk)] dL_law_301 (by decide) rfl ?_
                          refine EZ_aload_n 12 dL_law_303 rfl rfl ?_
                          refine EZ_iload 3 dL_law_304 rfl ?_
                          refine EZ_callH znL (k_shift l hfl S_298 (r_278 - 4)) cwH_193 (As := [.ref 0, .int (r_278 - 4)]) (st := []) rfl (rokL (Nat.le_of_ble_eq_true rfl) (Nat.le_of_ble_eq_true rfl) (by omega) (by omega)) (Nat.le_of_ble_eq_true rfl) dL_law_306 rfl (zkI (fun r_306 mi_306 ml_306 h_306 => ?_))
                          obtain ⟨V_306, H_306, S_306, h_306⟩ := h_306
                          (try rw [show (r_278 - 4).toInt = (r_278.toInt - 4) from (tI_sub rfl (show (4 : Int32).toInt = 4 from rfl) (by omega))] at h_306)
                          replace h_306 := h_306.resolve_left (fun q => q.1 (by omega))
                          rcases h_306 with ⟨_, n_306, e1_306, e2_306⟩ | ⟨_, hall, n_306, e1_306, e2_306⟩
                          · skip
                            subst e1_306; subst e2_306
                            refine EZ_istore [(10, .int r_306), (14, .int r_298), (13, .int r_292), (12, .int r_286), (11, .int (r_278 - 4)), (9, .int r_110), (8, .int r_101), (7, .int r_94), (6, .int r_87), (5, .int r_80), (4, .int r_69), (0, .ref 99), (1, .ref 0), (2, .int xsp), (3, .int xk)] dL_law_309 (by decide) rfl ?_
                            refine EZ_iload 0 dL_law_311 rfl ?_
                            refine YZ_lt r_306.toInt rfl 394 dL_law_313 (by decide) (fun c_313 => ?_) (fun c_313 => ?_)
                            · skip
                              refine EZ_iload 0 dL_law_394 rfl ?_
                              refine EZ_sipush (-902) (by decide) dL_law_396 ?_
                              refine ZZ_ne r_306.toInt (-902) rfl (show ((-902) : Int32).toInt = (-902) from rfl) 406 dL_law_399 (by decide) (fun c_399 => ?_) (fun c_399 => ?_)
                              · exact absurd c_399 (by omega)
                              · skip
                                refine EZ_iconst 0 (by decide) dL_law_402 ?_
                                refine EZ_goto 408 dL_law_403 (by decide) ?_
                                refine EZ_istore [(10, .int 0), (14, .int r_298), (13, .int r_292), (12, .int r_286), (11, .int (r_278 - 4)), (9, .int r_110), (8, .int r_101), (7, .int r_94), (6, .int r_87), (5, .int r_80), (4, .int r_69), (0, .ref 99), (1, .ref 0), (2, .int xsp), (3, .int xk)] dL_law_408 (by decide) rfl ?_
                                refine EZ_goto 671 dL_law_410 (by decide) ?_
                                refine EZ_sub [11, 12, 13, 14, 9, 0] rfl ?_
                                exact J671 mi_306 ml_306 _ _ xsp 0 r_80 _ _ S_306 hsp (by decide) (by omega) (by omega)
                            · exact absurd c_313 (by omega)
                          · skip
                            subst e1_306; subst e2_306
                            refine EZ_istore [(10, .int r_306), (14, .int r_298), (13, .int r_292), (12, .int r_286), (11, .int (r_278 - 4)), (9, .int r_110), (8, .int r_101), (7, .int r_94), (6, .int r_87), (5, .int r_80), (4, .int r_69), (0, .ref 99), (1, .ref 0), (2, .int xsp), (3, .int xk)] dL_law_309 (by decide) rfl ?_
                            refine EZ_iload 0 dL_law_311 rfl ?_
                            refine YZ_lt r_306.toInt rfl 394 dL_law_313 (by decide) (fun c_313 => ?_) (fun c_313 => ?_)
                            · exact absurd c_313 (by omega)
                            · skip
                              refine EZ_aload_n 12 dL_law_316 rfl rfl ?_
                              refine EZ_callV (j_products l hfl S_306) cw_L_120 (As := []) (st := []) wi_yX5_products we_yX5_products (ci := 5) (q := (RX5, TX5, 7)) rfl rfl (wl_atO tw_0) rfl (rokL (Nat.le_of_ble_eq_true rfl) (Nat.le_of_ble_eq_true rfl) (by omega) (by omega)) (Nat.le_of_ble_eq_true rfl) dL_law_317 (fun _ _ h => h) rfl (zkI (fun r_317 mi_317 ml_317 h_317 => ?_))
                              obtain ⟨S_317, h_317⟩ := h_317
                              refine EZ_iload 2 dL_law_320 rfl ?_
                              refine ZZ_ne r_317.toInt r_292.toInt rfl rfl 394 dL_law_322 (by decide) (fun c_322 => ?_) (fun c_322 => ?_)
                              · skip
                                refine EZ_iload 0 dL_law_394 rfl ?_
                                refine EZ_sipush (-902) (by decide) dL_law_396 ?_
                                refine ZZ_ne r_306.toInt (-902) rfl (show ((-902) : Int32).toInt = (-902) from rfl) 406 dL_law_399 (by decide) (fun c_399 => ?_) (fun c_399 => ?_)
                                · skip
                                  refine EZ_iload 0 dL_law_406 rfl ?_
                                  refine EZ_istore [(10, .int r_306), (14, .int r_298), (13, .int r_292), (12, .int r_286), (11, .int (r_278 - 4)), (9, .int r_110), (8, .int r_101), (7, .int r_94), (6, .int r_87), (5, .int r_80), (4, .int r_69), (0, .ref 99), (1, .ref 0), (2, .int xsp), (3, .int xk)] dL_law_408 (by decide) rfl ?_
                                  refine EZ_goto 671 dL_law_410 (by decide) ?_
                                  refine EZ_sub [11, 12, 13, 14, 9, 0] rfl ?_
                                  exact J671 mi_317 ml_317 _ _ xsp r_306 r_80 _ _ S_317 (by rw [v4_shf]; exact hsp) (by omega) (by omega) (by omega)
                                · exact absurd c_399 (by omega)
                              · skip
                                refine EZ_aload_n 12 dL_law_325 rfl rfl ?_
                                refine EZ_bipush 7 (by decide) dL_law_326 ?_
                                refine EZ_iconst 0 (by decide) dL_law_328 ?_
                                refine EZ_iconst 0 (by decide) dL_law_329 ?_
                                refine EZ_callH znL (k_setProducts l hfl S_317 7 0 0) cwH_159 (As := [.ref 0, .int 7, .int 0, .int 0]) (st := []) rfl (rokL (Nat.le_of_ble_eq_true rfl) (Nat.le_of_ble_eq_true rfl) (by omega) (by omega)) (Nat.le_of_ble_eq_true rfl) dL_law_330 rfl (zkI (fun r_330 mi_330 ml_330 h_330 => ?_))
                                obtain ⟨V_330, H_330, S_330, h_330⟩ := h_330
                                (try rw [show (7 : Int32).toInt = 7 from (show (7 : Int32).toInt = 7 from rfl)] at h_330)
                                (try rw [show (0 : Int32).toInt = 0 from (show (0 : Int32).toInt = 0 from rfl)] at h_330)
                                (try rw [show (0 : Int32).toInt = 0 from (show (0 : Int32).toInt = 0 from rfl)] at h_330)
                                obtain ⟨_, n_330, e1_330, e2_330⟩ := h_330.resolve_left (fun q => q.1 (by omega))
                                subst e1_330; subst e2_330
                                refine YZ_lt r_330.toInt rfl 394 dL_law_333 (by decide) (fun c_333 => ?_) (fun c_333 => ?_)
                                · exact absurd c_333 (by rw [n_330]; show ¬ (shfV V9 (nV V9) (r_278 - 4) 0).toInt < 0; have h9 := S_306.1.1; omega)
                                · skip
                                  refine EZ_aload_n 12 dL_law_336 rfl rfl ?_
                                  refine EZ_callH znL (k_undo l hfl S_330) cwH_147 (As := [.ref 0]) (st := []) rfl (rokL (Nat.le_of_ble_eq_true rfl) (Nat.le_of_ble_eq_true rfl) (by omega) (by omega)) (Nat.le_of_ble_eq_true rfl) dL_law_337 rfl (zkI (fun r_337 mi_337 ml_337 h_337 => ?_))
                                  obtain ⟨V_337, H_337, S_337, h_337⟩ := h_337
                                  obtain ⟨U1, T1, e1_337, e2_337, e3_337, n_337⟩ := h_337.resolve_left (fun q => by cases q.1)
                                  have e4_337 : shfV V9 (nV V9) (r_278 - 4) :: (((V9 :: H9).take 4).take 3) = U1 :: T1 := e1_337
                                  cases e4_337
                                  subst e2_337; subst e3_337
                                  refine YZ_lt r_337.toInt rfl 394 dL_law_340 (by decide) (fun c_340 => ?_) (fun c_340 => ?_)
                                  · exact absurd c_340 (by omega)
                                  · skip
                                    refine EZ_aload_n 12 dL_law_343 rfl rfl ?_
                                    refine EZ_callZ znL (z_edge l hfl S_337) cw_L_221 (As := [.ref 0]) (st := []) ws_yL_edge rfl (rokL (Nat.le_of_ble_eq_true rfl) (Nat.le_of_ble_eq_true rfl) (by omega) (by omega)) (Nat.le_of_ble_eq_true rfl) dL_law_344 rfl (zkI (fun r_344 mi_344 ml_344 h_344 => ?_))
                                    obtain ⟨S_344, h_344⟩ := h_344
                                    rw [nV_shf] at h_344
                                    refine YZ_eq r_344.toInt rfl 394 dL_law_347 (by decide) (fun c_347 => ?_) (fun c_347 => ?_)
                                    · skip
                                      refine EZ_iload 0 dL_law_394 rfl ?_
                                      refine EZ_sipush (-902) (by decide) dL_law_396 ?_
                                      refine ZZ_ne r_306.toInt (-902) rfl (show ((-902) : Int32).toInt = (-902) from rfl) 406 dL_law_399 (by decide) (fun c_399 => ?_) (fun c_399 => ?_)
                                      · skip
                                        refine EZ_iload 0 dL_law_406 rfl ?_
                                        refine EZ_istore [(10, .int r_306), (14, .int r_298), (13, .int r_292), (12, .int r_286), (11, .int (r_278 - 4)), (9, .int r_110), (8, .int r_101), (7, .int r_94), (6, .int r_87), (5, .int r_80), (4, .int r_69), (0, .ref 99), (1, .ref 0), (2, .int xsp), (3, .int xk)] dL_law_408 (by decide) rfl ?_
                                        refine EZ_goto 671 dL_law_410 (by decide) ?_
                                        refine EZ_sub [11, 12, 13, 14, 9, 0] rfl ?_
                                        exact J671 mi_344 ml_344 _ _ xsp r_306 r_80 _ _ S_344 (by rw [v4_shf]; exact hsp) (by omega) (by omega) (by omega)
                                      · exact absurd c_399 (by omega)
                                    · skip
                                      refine EZ_aload_n 12 dL_law_350 rfl rfl ?_
                                      refine EZ_iload 4 dL_law_351 rfl ?_
                                      refine EZ_ineg dL_law_353 ?_
                                      refine EZ_callH znL (k_shift l hfl S_344 (0 - (r_278 - 4))) cwH_193 (As := [.ref 0, .int (0 - (r_278 - 4))]) (st := []) rfl (rokL (Nat.le_of_ble_eq_true rfl) (Nat.le_of_ble_eq_true rfl) (by omega) (by omega)) (Nat.le_of_ble_eq_true rfl) dL_law_354 rfl (zkI (fun r_354 mi_354 ml_354 h_354 => ?_))
                                      obtain ⟨V_354, H_354, S_354, h_354⟩ := h_354
                                      (try rw [show (0 - (r_278 - 4)).toInt = (0 - (r_278.toInt - 4)) from (tI_sub (show (0 : Int32).toInt = 0 from rfl) (tI_sub rfl (show (4 : Int32).toInt = 4 from rfl) (by omega)) (by omega))] at h_354)
                                      replace h_354 := h_354.resolve_left (fun q => q.1 (by omega))
                                      rcases h_354 with ⟨_, n_354, e1_354, e2_354⟩ | ⟨_, hall2, n_354, e1_354, e2_354⟩
                                      · skip
                                        subst e1_354; subst e2_354
                                        refine YZ_lt r_354.toInt rfl 394 dL_law_357 (by decide) (fun c_357 => ?_) (fun c_357 => ?_)
                                        · skip
                                          refine EZ_iload 0 dL_law_394 rfl ?_
                                          refine EZ_sipush (-902) (by decide) dL_law_396 ?_
                                          refine ZZ_ne r_306.toInt (-902) rfl (show ((-902) : Int32).toInt = (-902) from rfl) 406 dL_law_399 (by decide) (fun c_399 => ?_) (fun c_399 => ?_)
                                          · skip
                                            refine EZ_iload 0 dL_law_406 rfl ?_
                                            refine EZ_istore [(10, .int r_306), (14, .int r_298), (13, .int r_292), (12, .int r_286), (11, .int (r_278 - 4)), (9, .int r_110), (8, .int r_101), (7, .int r_94), (6, .int r_87), (5, .int r_80), (4, .int r_69), (0, .ref 99), (1, .ref 0), (2, .int xsp), (3, .int xk)] dL_law_408 (by decide) rfl ?_
                                            refine EZ_goto 671 dL_law_410 (by decide) ?_
                                            refine EZ_sub [11, 12, 13, 14, 9, 0] rfl ?_
                                            exact J671 mi_354 ml_354 _ _ xsp r_306 r_80 _ _ S_354 (by rw [v4_shf]; exact hsp) (by omega) (by omega) (by omega)
                                          · exact absurd c_399 (by omega)
                                        · exact absurd c_357 (by omega)
                                      · skip
                                        subst e1_354; subst e2_354
                                        refine YZ_lt r_354.toInt rfl 394 dL_law_357 (by decide) (fun c_357 => ?_) (fun c_357 => ?_)
                                        · exact absurd c_357 (by omega)
                                        · skip
                                          refine EZ_aload_n 12 dL_law_360 rfl rfl ?_
                                          refine EZ_callZ znL (z_edge l hfl S_354) cw_L_221 (As := [.ref 0]) (st := []) ws_yL_edge rfl (rokL (Nat.le_of_ble_eq_true rfl) (Nat.le_of_ble_eq_true rfl) (by omega) (by omega)) (Nat.le_of_ble_eq_true rfl) dL_law_361 rfl (zkI (fun r_361 mi_361 ml_361 h_361 => ?_))
                                          obtain ⟨S_361, h_361⟩ := h_361
                                          rw [nV_shf, nV_shf] at h_361
                                          refine YZ_eq r_361.toInt rfl 394 dL_law_364 (by decide) (fun c_364 => ?_) (fun c_364 => ?_)
                                          · skip
                                            refine EZ_iload 0 dL_law_394 rfl ?_
                                            refine EZ_sipush (-902) (by decide) dL_law_396 ?_
                                            refine ZZ_ne r_306.toInt (-902) rfl (show ((-902) : Int32).toInt = (-902) from rfl) 406 dL_law_399 (by decide) (fun c_399 => ?_) (fun c_399 => ?_)
                                            · skip
                                              refine EZ_iload 0 dL_law_406 rfl ?_
                                              refine EZ_istore [(10, .int r_306), (14, .int r_298), (13, .int r_292), (12, .int r_286), (11, .int (r_278 - 4)), (9, .int r_110), (8, .int r_101), (7, .int r_94), (6, .int r_87), (5, .int r_80), (4, .int r_69), (0, .ref 99), (1, .ref 0), (2, .int xsp), (3, .int xk)] dL_law_408 (by decide) rfl ?_
                                              refine EZ_goto 671 dL_law_410 (by decide) ?_
                                              refine EZ_sub [11, 12, 13, 14, 9, 0] rfl ?_
                                              exact J671 mi_361 ml_361 _ _ xsp r_306 r_80 _ _ S_361 (by rw [v4_shf, v4_shf]; exact hsp) (by omega) (by omega) (by omega)
                                            · exact absurd c_399 (by omega)
                                          · skip
                                            refine EZ_aload_n 12 dL_law_367 rfl rfl ?_
                                            refine EZ_callH znL (k_undo l hfl S_361) cwH_147 (As := [.ref 0]) (st := []) rfl (rokL (Nat.le_of_ble_eq_true rfl) (Nat.le_of_ble_eq_true rfl) (by omega) (by omega)) (Nat.le_of_ble_eq_true rfl) dL_law_368 rfl (zkI (fun r_368 mi_368 ml_368 h_368 => ?_))
                                            obtain ⟨V_368, H_368, S_368, h_368⟩ := h_368
                                            obtain ⟨U2, T2, e1_368, e2_368, e3_368, n_368⟩ := h_368.resolve_left (fun q => by cases q.1)
                                            have e4_368 : shfV V9 (nV V9) (r_278 - 4) :: ((((V9 :: H9).take 4).take 3).take 3) = U2 :: T2 := e1_368
                                            cases e4_368
                                            subst e2_368; subst e3_368
                                            have hby : (r_278 - 4 : Int32).toInt = r_278.toInt - 4 := tI_sub rfl (show (4 : Int32).toInt = 4 from rfl) (by omega)
                                            have hmv := shf_mv wn.2 hby hall
                                            have mid1 := xB_t h_344 c_347
                                            have mid0 := mid_bk wn.2 (xB_t h_361 c_364)
                                            refine YZ_lt r_368.toInt rfl 394 dL_law_371 (by decide) (fun c_371 => ?_) (fun c_371 => ?_)
                                            · exact absurd c_371 (by omega)
                                            · skip
                                              refine EZ_aload_n 12 dL_law_374 rfl rfl ?_
                                              refine EZ_callV (j_hits l hfl S_368) cw_L_132 (As := []) (st := []) wi_yX5_hits we_yX5_hits (ci := 5) (q := (RX5, TX5, 7)) rfl rfl (wl_atO tw_0) rfl (rokL (Nat.le_of_ble_eq_true rfl) (Nat.le_of_ble_eq_true rfl) (by omega) (by omega)) (Nat.le_of_ble_eq_true rfl) dL_law_375 (fun _ _ h => h) rfl (zkI (fun r_375 mi_375 ml_375 h_375 => ?_))
                                              obtain ⟨S_375, h_375⟩ := h_375
                                              have n_375 : r_375.toInt = r_286.toInt := by rw [h_375, h_286, nV_shf, mv_pr hmv mid0 mid1, mv_hs hmv _ (Nat.le_refl _)]
                                              refine EZ_iload 3 dL_law_378 rfl ?_
                                              refine ZZ_ne r_375.toInt r_286.toInt rfl rfl 392 dL_law_380 (by decide) (fun c_380 => ?_) (fun c_380 => ?_)
                                              · exact absurd n_375 c_380
                                              · skip
                                                refine EZ_aload_n 12 dL_law_383 rfl rfl ?_
                                                refine EZ_callV (j_isClean l hfl S_375) cw_L_135 (As := []) (st := []) wi_yX5_isClean we_yX5_isClean (ci := 5) (q := (RX5, TX5, 7)) rfl rfl (wl_atO tw_0) rfl (rokL (Nat.le_of_ble_eq_true rfl) (Nat.le_of_ble_eq_true rfl) (by omega) (by omega)) (Nat.le_of_ble_eq_true rfl) dL_law_384 (fun _ _ h => h) rfl (zkI (fun r_384 mi_384 ml_384 h_384 => ?_))
                                                obtain ⟨S_384, h_384⟩ := h_384
                                                have n_384 : r_384 = r_298 := by rw [h_384, h_298, nV_shf]; exact bI_iff (mv_cl hmv mid0 mid1)
                                                refine EZ_iload 1 dL_law_387 rfl ?_
                                                refine ZZ_eq r_384.toInt r_298.toInt rfl rfl 394 dL_law_389 (by decide) (fun c_389 => ?_) (fun c_389 => ?_)
                                                · skip
                                                  refine EZ_iload 0 dL_law_394 rfl ?_
                                                  refine EZ_sipush (-902) (by decide) dL_law_396 ?_
                                                  refine ZZ_ne r_306.toInt (-902) rfl (show ((-902) : Int32).toInt = (-902) from rfl) 406 dL_law_399 (by decide) (fun c_399 => ?_) (fun c_399 => ?_)
                                                  · skip
                                                    refine EZ_iload 0 dL_law_406 rfl ?_
                                                    refine EZ_istore [(10, .int r_306), (14, .int r_298), (13, .int r_292), (12, .int r_286), (11, .int (r_278 - 4)), (9, .int r_110), (8, .int r_101), (7, .int r_94), (6, .int r_87), (5, .int r_80), (4, .int r_69), (0, .ref 99), (1, .ref 0), (2, .int xsp), (3, .int xk)] dL_law_408 (by decide) rfl ?_
                                                    refine EZ_goto 671 dL_law_410 (by decide) ?_
                                                    refine EZ_sub [11, 12, 13, 14, 9, 0] rfl ?_
                                                    exact J671 mi_384 ml_384 _ _ xsp r_306 r_80 _ _ S_384 (by rw [v4_shf]; exact hsp) (by omega) (by omega) (by omega)
                                                  · exact absurd c_399 (by omega)
                                                · exact absurd (congrArg Int32.toInt n_384) c_389
                      · skip
                        refine EZ_aload_n 8 dL_law_251 rfl rfl ?_
                        refine EZ_iload 5 dL_law_252 rfl ?_
                        refine EZ_iload 4 dL_law_254 rfl ?_
                        refine EZ_callZ znL (z_low l hfl mi_101 ml_101 r_80 r_87 (nV V9 : Int) n_87 (by omega)) cw_L_164 (As := [.int r_80, .int r_87]) (st := [.ref 0]) ws_yL_low rfl (rokL (Nat.le_of_ble_eq_true rfl) (Nat.le_of_ble_eq_true rfl) (by omega) (by omega)) (Nat.le_of_ble_eq_true rfl) dL_law_256 rfl (zkI (fun r_256 mi_256 ml_256 h_256 => ?_))
                        obtain ⟨e1_256, e2_256, h_256⟩ := h_256
                        subst e1_256; subst e2_256
                        refine EZ_callH znL (k_removeCarrier l hfl S_101 r_256) cwH_191 (As := [.ref 0, .int r_256]) (st := []) rfl (rokL (Nat.le_of_ble_eq_true rfl) (Nat.le_of_ble_eq_true rfl) (by omega) (by omega)) (Nat.le_of_ble_eq_true rfl) dL_law_259 rfl (zkI (fun r_259 mi_259 ml_259 h_259 => ?_))
                        obtain ⟨V_259, H_259, S_259, h_259⟩ := h_259
                        obtain ⟨bq, hbq, _, n_259, e1_259, e2_259⟩ := h_259.resolve_left (fun q => q.1 (by omega))
                        subst e1_259; subst e2_259
                        refine EZ_istore [(10, .int r_259), (9, .int r_110), (8, .int r_101), (7, .int r_94), (6, .int r_87), (5, .int r_80), (4, .int r_69), (0, .ref 99), (1, .ref 0), (2, .int xsp), (3, .int xk)] dL_law_262 (by decide) rfl ?_
                        refine EZ_goto 671 dL_law_264 (by decide) ?_
                        refine EZ_sub [7, 8, 9, 10, 5, 0] rfl ?_
                        exact J671 mi_259 ml_259 _ _ xsp r_259 r_80 _ _ S_259 (by rw [v4_rem]; exact hsp) (by omega) (by omega) (by omega)
                    · skip
                      refine EZ_aload_n 8 dL_law_193 rfl rfl ?_
                      refine EZ_iload 5 dL_law_194 rfl ?_
                      refine EZ_bipush 12 (by decide) dL_law_196 ?_
                      refine EZ_ishr dL_law_198 ?_
                      refine EZ_iload 4 dL_law_199 rfl ?_
                      refine EZ_callZ znL (z_low l hfl mi_101 ml_101 (r_80 >>> ((12 : Int32) &&& 31)) r_87 (nV V9 : Int) n_87 (by omega)) cw_L_164 (As := [.int (r_80 >>> ((12 : Int32) &&& 31)), .int r_87]) (st := [.ref 0]) ws_yL_low rfl (rokL (Nat.le_of_ble_eq_true rfl) (Nat.le_of_ble_eq_true rfl) (by omega) (by omega)) (Nat.le_of_ble_eq_true rfl) dL_law_201 rfl (zkI (fun r_201 mi_201 ml_201 h_201 => ?_))
                      obtain ⟨e1_201, e2_201, h_201⟩ := h_201
                      subst e1_201; subst e2_201
                      refine EZ_iload 5 dL_law_204 rfl ?_
                      refine EZ_bipush 40 (by decide) dL_law_206 ?_
                      refine EZ_callZ znL (z_low l hfl mi_101 ml_101 r_80 40 40 (show (40 : Int32).toInt = 40 from rfl) (by decide)) cw_L_164 (As := [.int r_80, .int 40]) (st := [.int r_201, .ref 0]) ws_yL_low rfl (rokL (Nat.le_of_ble_eq_true rfl) (Nat.le_of_ble_eq_true rfl) (by omega) (by omega)) (Nat.le_of_ble_eq_true rfl) dL_law_208 rfl (zkI (fun r_208 mi_208 ml_208 h_208 => ?_))
                      obtain ⟨e1_208, e2_208, h_208⟩ := h_208
                      subst e1_208; subst e2_208
                      refine EZ_iload 5 dL_law_211 rfl ?_
                      refine EZ_bipush 6 (by decide) dL_law_213 ?_
                      refine EZ_ishr dL_law_215 ?_
                      refine EZ_bipush 61 (by decide) dL_law_216 ?_
                      refine EZ_callZ znL (z_low l hfl mi_101 ml_101 (r_80 >>> ((6 : Int32) &&& 31)) 61 61 (show (61 : Int32).toInt = 61 from rfl) (by decide)) cw_L_164 (As := [.int (r_80 >>> ((6 : Int32) &&& 31)), .int 61]) (st := [.int r_208, .int r_201, .ref 0]) ws_yL_low rfl (rokL (Nat.le_of_ble_eq_true rfl) (Nat.le_of_ble_eq_true rfl) (by omega) (by omega)) (Nat.le_of_ble_eq_true rfl) dL_law_218 rfl (zkI (fun r_218 mi_218 ml_218 h_218 => ?_))
                      obtain ⟨e1_218, e2_218, h_218⟩ := h_218
                      subst e1_218; subst e2_218
                      have b_221 := h_201
                      refine EZ_callH znL (k_moveCarrier l hfl S_101 r_201 r_208 r_218) cwH_189 (As := [.ref 0, .int r_201, .int r_208, .int r_218]) (st := []) rfl (rokL (Nat.le_of_ble_eq_true rfl) (Nat.le_of_ble_eq_true rfl) (by omega) (by omega)) (Nat.le_of_ble_eq_true rfl) dL_law_221 rfl (zkI (fun r_221 mi_221 ml_221 h_221 => ?_))
                      obtain ⟨V_221, H_221, S_221, h_221⟩ := h_221
                      replace h_221 := h_221.resolve_left (fun q => q.1 (by omega))
                      rcases h_221 with ⟨_, _, n_221, e1_221, e2_221⟩ | ⟨bq, hbq, _, _, n_221, e1_221, e2_221⟩
                      · skip
                        subst e1_221; subst e2_221
                        refine EZ_istore [(10, .int r_221), (9, .int r_110), (8, .int r_101), (7, .int r_94), (6, .int r_87), (5, .int r_80), (4, .int r_69), (0, .ref 99), (1, .ref 0), (2, .int xsp), (3, .int xk)] dL_law_224 (by decide) rfl ?_
                        refine EZ_iload 0 dL_law_226 rfl ?_
                        refine EZ_sipush (-901) (by decide) dL_law_228 ?_
                        refine ZZ_ne r_221.toInt (-901) rfl (show ((-901) : Int32).toInt = (-901) from rfl) 238 dL_law_231 (by decide) (fun c_231 => ?_) (fun c_231 => ?_)
                        · exact absurd c_231 (by omega)
                        · skip
                          refine EZ_iconst 0 (by decide) dL_law_234 ?_
                          refine EZ_goto 240 dL_law_235 (by decide) ?_
                          refine EZ_istore [(10, .int 0), (9, .int r_110), (8, .int r_101), (7, .int r_94), (6, .int r_87), (5, .int r_80), (4, .int r_69), (0, .ref 99), (1, .ref 0), (2, .int xsp), (3, .int xk)] dL_law_240 (by decide) rfl ?_
                          refine EZ_goto 671 dL_law_242 (by decide) ?_
                          refine EZ_sub [7, 8, 9, 10, 5, 0] rfl ?_
                          exact J671 mi_221 ml_221 _ _ xsp 0 r_80 _ _ S_221 hsp (by decide) (by omega) (by omega)
                      · skip
                        subst e1_221; subst e2_221
                        have m_221 : 0 ≤ r_221.toInt := by rw [n_221]; exact (S57.1.ch wn.1 bq hbq).1
                        refine EZ_istore [(10, .int r_221), (9, .int r_110), (8, .int r_101), (7, .int r_94), (6, .int r_87), (5, .int r_80), (4, .int r_69), (0, .ref 99), (1, .ref 0), (2, .int xsp), (3, .int xk)] dL_law_224 (by decide) rfl ?_
                        refine EZ_iload 0 dL_law_226 rfl ?_
                        refine EZ_sipush (-901) (by decide) dL_law_228 ?_
                        refine ZZ_ne r_221.toInt (-901) rfl (show ((-901) : Int32).toInt = (-901) from rfl) 238 dL_law_231 (by decide) (fun c_231 => ?_) (fun c_231 => ?_)
                        · skip
                          refine EZ_iload 0 dL_law_238 rfl ?_
                          refine EZ_istore [(10, .int r_221), (9, .int r_110), (8, .int r_101), (7, .int r_94), (6, .int r_87), (5, .int r_80), (4, .int r_69), (0, .ref 99), (1, .ref 0), (2, .int xsp), (3, .int xk)] dL_law_240 (by decide) rfl ?_
                          refine EZ_goto 671 dL_law_242 (by decide) ?_
                          refine EZ_sub [7, 8, 9, 10, 5, 0] rfl ?_
                          exact J671 mi_221 ml_221 _ _ xsp r_221 r_80 _ _ S_221 (by rw [v4_mov]; exact hsp) (by omega) (by omega) (by omega)
                        · exact absurd c_231 (by omega)
                  · skip
                    refine EZ_aload_n 8 dL_law_130 rfl rfl ?_
                    refine EZ_iload 5 dL_law_131 rfl ?_
                    refine EZ_bipush 40 (by decide) dL_law_133 ?_
                    refine EZ_callZ znL (z_low l hfl mi_101 ml_101 r_80 40 40 (show (40 : Int32).toInt = 40 from rfl) (by decide)) cw_L_164 (As := [.int r_80, .int 40]) (st := [.ref 0]) ws_yL_low rfl (rokL (Nat.le_of_ble_eq_true rfl) (Nat.le_of_ble_eq_true rfl) (by omega) (by omega)) (Nat.le_of_ble_eq_true rfl) dL_law_135 rfl (zkI (fun r_135 mi_135 ml_135 h_135 => ?_))
                    obtain ⟨e1_135, e2_135, h_135⟩ := h_135
                    subst e1_135; subst e2_135
                    refine EZ_iload 5 dL_law_138 rfl ?_
                    refine EZ_bipush 6 (by decide) dL_law_140 ?_
                    refine EZ_ishr dL_law_142 ?_
                    refine EZ_bipush 61 (by decide) dL_law_143 ?_
                    refine EZ_callZ znL (z_low l hfl mi_101 ml_101 (r_80 >>> ((6 : Int32) &&& 31)) 61 61 (show (61 : Int32).toInt = 61 from rfl) (by decide)) cw_L_164 (As := [.int (r_80 >>> ((6 : Int32) &&& 31)), .int 61]) (st := [.int r_135, .ref 0]) ws_yL_low rfl (rokL (Nat.le_of_ble_eq_true rfl) (Nat.le_of_ble_eq_true rfl) (by omega) (by omega)) (Nat.le_of_ble_eq_true rfl) dL_law_145 rfl (zkI (fun r_145 mi_145 ml_145 h_145 => ?_))
                    obtain ⟨e1_145, e2_145, h_145⟩ := h_145
                    subst e1_145; subst e2_145
                    refine EZ_callH znL (k_addCarrier l hfl S_101 r_135 r_145) cwH_187 (As := [.ref 0, .int r_135, .int r_145]) (st := []) rfl (rokL (Nat.le_of_ble_eq_true rfl) (Nat.le_of_ble_eq_true rfl) (by omega) (by omega)) (Nat.le_of_ble_eq_true rfl) dL_law_148 rfl (zkI (fun r_148 mi_148 ml_148 h_148 => ?_))
                    obtain ⟨V_148, H_148, S_148, h_148⟩ := h_148
                    rcases h_148 with ⟨_, n_148, e1_148, e2_148⟩ | ⟨_, n_148, hn10, e1_148, e2_148⟩ | ⟨_, n_148, hn10, e1_148, e2_148⟩
                    · skip
                      subst e1_148; subst e2_148
                      refine EZ_istore [(10, .int r_148), (9, .int r_110), (8, .int r_101), (7, .int r_94), (6, .int r_87), (5, .int r_80), (4, .int r_69), (0, .ref 99), (1, .ref 0), (2, .int xsp), (3, .int xk)] dL_law_151 (by decide) rfl ?_
                      refine EZ_iload 0 dL_law_153 rfl ?_
                      refine EZ_sipush (-901) (by decide) dL_law_155 ?_
                      refine ZZ_eq r_148.toInt (-901) rfl (show ((-901) : Int32).toInt = (-901) from rfl) 176 dL_law_158 (by decide) (fun c_158 => ?_) (fun c_158 => ?_)
                      · skip
                        refine EZ_iconst 0 (by decide) dL_law_176 ?_
                        refine EZ_goto 182 dL_law_177 (by decide) ?_
                        refine EZ_istore [(10, .int 0), (9, .int r_110), (8, .int r_101), (7, .int r_94), (6, .int r_87), (5, .int r_80), (4, .int r_69), (0, .ref 99), (1, .ref 0), (2, .int xsp), (3, .int xk)] dL_law_182 (by decide) rfl ?_
                        refine EZ_goto 671 dL_law_184 (by decide) ?_
                        refine EZ_sub [7, 8, 9, 10, 5, 0] rfl ?_
                        exact J671 mi_148 ml_148 _ _ xsp 0 r_80 _ _ S_148 hsp (by decide) (by omega) (by omega)
                      · exact absurd c_158 (by omega)
                    · skip
                      subst e1_148; subst e2_148
                      refine EZ_istore [(10, .int r_148), (9, .int r_110), (8, .int r_101), (7, .int r_94), (6, .int r_87), (5, .int r_80), (4, .int r_69), (0, .ref 99), (1, .ref 0), (2, .int xsp), (3, .int xk)] dL_law_151 (by decide) rfl ?_
                      refine EZ_iload 0 dL_law_153 rfl ?_
                      refine EZ_sipush (-901) (by decide) dL_law_155 ?_
                      refine ZZ_eq r_148.toInt (-901) rfl (show ((-901) : Int32).toInt = (-901) from rfl) 176 dL_law_158 (by decide) (fun c_158 => ?_) (fun c_158 => ?_)
                      · exact absurd c_158 (by omega)
                      · skip
                        refine EZ_iload 0 dL_law_161 rfl ?_
                        refine EZ_sipush (-902) (by decide) dL_law_163 ?_
                        refine ZZ_ne r_148.toInt (-902) rfl (show ((-902) : Int32).toInt = (-902) from rfl) 180 dL_law_166 (by decide) (fun c_166 => ?_) (fun c_166 => ?_)
                        · exact absurd c_166 (by omega)
                        · skip
                          refine EZ_iload 4 dL_law_169 rfl ?_
                          refine EZ_bipush 10 (by decide) dL_law_171 ?_
                          refine ZZ_ne (nV V9 : Int) 10 n_87 (show (10 : Int32).toInt = 10 from rfl) 180 dL_law_173 (by decide) (fun c_173 => ?_) (fun c_173 => ?_)
                          · exact absurd c_173 (by omega)
                          · skip
                            refine EZ_iconst 0 (by decide) dL_law_176 ?_
                            refine EZ_goto 182 dL_law_177 (by decide) ?_
                            refine EZ_istore [(10, .int 0), (9, .int r_110), (8, .int r_101), (7, .int r_94), (6, .int r_87), (5, .int r_80), (4, .int r_69), (0, .ref 99), (1, .ref 0), (2, .int xsp), (3, .int xk)] dL_law_182 (by decide) rfl ?_
                            refine EZ_goto 671 dL_law_184 (by decide) ?_
                            refine EZ_sub [7, 8, 9, 10, 5, 0] rfl ?_
                            exact J671 mi_148 ml_148 _ _ xsp 0 r_80 _ _ S_148 hsp (by decide) (by omega) (by omega)
                    · skip
                      subst e1_148; subst e2_148
                      refine EZ_istore [(10, .int r_148), (9, .int r_110), (8, .int r_101), (7, .int r_94), (6, .int r_87), (5, .int r_80), (4, .int r_69), (0, .ref 99), (1, .ref 0), (2, .int xsp), (3, .int xk)] dL_law_151 (by decide) rfl ?_
                      refine EZ_iload 0 dL_law_153 rfl ?_
                      refine EZ_sipush (-901) (by decide) dL_law_155 ?_
                      refine ZZ_eq r_148.toInt (-901) rfl (show ((-901) : Int32).toInt = (-901) from rfl) 176 dL_law_158 (by decide) (fun c_158 => ?_) (fun c_158 => ?_)
                      · exact absurd c_158 (by omega)
                      · skip
                        refine EZ_iload 0 dL_law_161 rfl ?_
                        refine EZ_sipush (-902) (by decide) dL_law_163 ?_
                        refine ZZ_ne r_148.toInt (-902) rfl (show ((-902) : Int32).toInt = (-902) from rfl) 180 dL_law_166 (by decide) (fun c_166 => ?_) (fun c_166 => ?_)
                        · skip
                          refine EZ_iload 0 dL_law_180 rfl ?_
                          refine EZ_istore [(10, .int r_148), (9, .int r_110), (8, .int r_101), (7, .int r_94), (6, .int r_87), (5, .int r_80), (4, .int r_69), (0, .ref 99), (1, .ref 0), (2, .int xsp), (3, .int xk)] dL_law_182 (by decide) rfl ?_
                          refine EZ_goto 671 dL_law_184 (by decide) ?_
                          refine EZ_sub [7, 8, 9, 10, 5, 0] rfl ?_
                          exact J671 mi_148 ml_148 _ _ xsp r_148 r_80 _ _ S_148 (by rw [v4_add]; exact hsp) (by omega) (by omega) (by omega)
                        · exact absurd c_166 (by omega)
          refine EZ_sub [3, 2, 1, 0] rfl ?_
          exact J57 _ mi_47 ml_47 _ _ 1 0 0 _ _ (Nat.lt_succ_self _) S_47 rfl (Nat.zero_le _) (show (1 : Int32).toInt = _ by rw [hV4]; rfl) (by omega) (by omega)
        · exact absurd c_50 (by omega)
end LWS6
