section MO24

set_option maxHeartbeats 1600000 in
set_option maxRecDepth 100000 in
theorem c_X6_readAll (l : Launch) (hfl : l.stackTraces = false) (mi : MI) (ml : MJ) (N : Nat) (hN : (mi 61 4).toInt = (N : Int)) (hN2 : N ≤ 120) : Ct l yX6_readAll (.code yX6_readAll cX6_readAll 3 (some .int)) 4 0 0 [.ref 61] (wl mi ml) (QI (fun r mi9 ml9 => ml = ml9 ∧ Fr [61, 71, 72] mi mi9 ∧ KF [15, 16, 18, 20, 21] mi mi9 ∧ ((∃ e : Nat, paS (tX (mi 64) N) N 122 [] [] 0 0 = Sum.inl e ∧ r = -1 ∧ (mi9 61 15).toInt = (e : Int)) ∨ (∃ (D : List (Nat × Nat)) (M : List Nat) (it : Nat), paS (tX (mi 64) N) N 122 [] [] 0 0 = Sum.inr (D, M, it) ∧ r.toInt = (it : Int) ∧ (mi9 61 18).toInt = (D.length : Int) ∧ (mi9 61 20).toInt = (M.length : Int) ∧ D.length ≤ 10 ∧ M.length ≤ 5 ∧ drR mi9 D ∧ drX mi9 M)))) noX := by
  refine Ct_of (ini := false) pn_X6 hfl (fun h => nomatch h) (Nat.le_of_ble_eq_true rfl) ?_
  show E l RX6 cX6_readAll 3 (some .int) false [] (rmE 4 0 0) (wl mi ml) (TgM (wl mi ml) 0 0 (QI (fun r mi9 ml9 => ml = ml9 ∧ Fr [61, 71, 72] mi mi9 ∧ KF [15, 16, 18, 20, 21] mi mi9 ∧ ((∃ e : Nat, paS (tX (mi 64) N) N 122 [] [] 0 0 = Sum.inl e ∧ r = -1 ∧ (mi9 61 15).toInt = (e : Int)) ∨ (∃ (D : List (Nat × Nat)) (M : List Nat) (it : Nat), paS (tX (mi 64) N) N 122 [] [] 0 0 = Sum.inr (D, M, it) ∧ r.toInt = (it : Int) ∧ (mi9 61 18).toInt = (D.length : Int) ∧ (mi9 61 20).toInt = (M.length : Int) ∧ D.length ≤ 10 ∧ M.length ≤ 5 ∧ drR mi9 D ∧ drX mi9 M)))) noX) 0 0 0 [(0, .ref 61)] [] (wl mi ml)
  refine E_aload_n 0 dX6_readAll_0 rfl rfl ?_
  refine E_iconst 0 (by decide) dX6_readAll_1 ?_
  refine pf_X6_177 tw_61 rfl dX6_readAll_2 ?_
  refine E_aload_n 0 dX6_readAll_5 rfl rfl ?_
  refine E_iconst 0 (by decide) dX6_readAll_6 ?_
  refine pf_X6_189 tw_61 rfl dX6_readAll_7 ?_
  refine E_aload_n 0 dX6_readAll_10 rfl rfl ?_
  refine E_iconst 0 (by decide) dX6_readAll_11 ?_
  refine pf_X6_203 tw_61 rfl dX6_readAll_12 ?_
  refine E_iconst 0 (by decide) dX6_readAll_15 ?_
  refine E_istore_n [(1, .int 0), (0, .ref 61)] dX6_readAll_16 rfl (by decide) rfl ?_
  have J17 : ∀ (Nm : Nat) (xi : Int32) (it f p : Nat) (D : List (Nat × Nat)) (M : List Nat) (dc mc : Nat) (mj : MI), f < Nm → xi.toInt = (it : Int) → it ≤ p → (mj 61 15).toInt = (p : Int) → p ≤ N → 122 ≤ f + p → paS (tX (mi 64) N) N f D M p it = paS (tX (mi 64) N) N 122 [] [] 0 0 → D.length = dc → (mj 61 18).toInt = (dc : Int) → drR mj D → dc ≤ 10 → M.length = mc → (mj 61 20).toInt = (mc : Int) → drX mj M → mc ≤ 5 → Fr [61, 71, 72] mi mj → KF [15, 16, 18, 20, 21] mi mj → E l RX6 cX6_readAll 3 (some .int) false [] (rmE 4 0 0) (wl mi ml) (TgM (wl mi ml) 0 0 (QI (fun r mi9 ml9 => ml = ml9 ∧ Fr [61, 71, 72] mi mi9 ∧ KF [15, 16, 18, 20, 21] mi mi9 ∧ ((∃ e : Nat, paS (tX (mi 64) N) N 122 [] [] 0 0 = Sum.inl e ∧ r = -1 ∧ (mi9 61 15).toInt = (e : Int)) ∨ (∃ (D : List (Nat × Nat)) (M : List Nat) (it : Nat), paS (tX (mi 64) N) N 122 [] [] 0 0 = Sum.inr (D, M, it) ∧ r.toInt = (it : Int) ∧ (mi9 61 18).toInt = (D.length : Int) ∧ (mi9 61 20).toInt = (M.length : Int) ∧ D.length ≤ 10 ∧ M.length ≤ 5 ∧ drR mi9 D ∧ drX mi9 M)))) noX) 0 0 17 [(0, .ref 61), (1, .int xi)] [] (wl mj ml) := by
    intro Nm
    induction Nm with
    | zero => intros; omega
    | succ Nm ih17 =>
      intro xi it f p D M dc mc mj hN17 hxi hip hpp hpN hf hT hdc h18 hdr h10 hM h20 hdx h5 hF hK
      obtain ⟨g, hg⟩ : ∃ g, f = g + 1 := ⟨f - 1, by omega⟩
      subst hg
      have hj4 : (mj 61 4).toInt = (N : Int) := by rw [hK 4 (by decide)]; exact hN
      refine E_aload_n 0 dX6_readAll_17 rfl rfl ?_
      refine gf_X6_177 (mj 61 15) tw_61 rfl rfl dX6_readAll_18 ?_
      refine E_aload_n 0 dX6_readAll_21 rfl rfl ?_
      refine gf_X6_174 (mj 61 4) tw_61 rfl rfl dX6_readAll_22 ?_
      refine Z_ge (p : Int) (N : Int) hpp hj4 87 dX6_readAll_25 (by decide) (fun c_25 => ?_) (fun c_25 => ?_)
      · skip
        refine E_iload_n 1 dX6_readAll_87 rfl rfl ?_
        refine E_iret rfl (Nat.le_of_ble_eq_true rfl) (Nat.le_of_ble_eq_true rfl) dX6_readAll_88 ?_
        exact okQI ⟨rfl, hF, hK, Or.inr ⟨D, M, it, by rw [← hT]; exact pa_0 (by omega), hxi, by rw [hdc]; exact h18, by rw [hM]; exact h20, by omega, by omega, hdr, hdx⟩⟩
      · skip
        refine E_aload_n 0 dX6_readAll_28 rfl rfl ?_
        refine E_callV (c_X6_here l hfl mj ml N p hj4 (by omega) hpp (by omega)) cw_X6_180 (As := []) (st := []) wi_yX6_here we_yX6_here (ci := 6) (q := (RX6, TX6, 23)) rfl rfl (wl_atO tw_61) rfl ⟨Nat.le_of_ble_eq_true rfl, Nat.le_of_ble_eq_true rfl, Nat.le_of_ble_eq_true rfl, Nat.le_of_ble_eq_true rfl⟩ (Nat.le_of_ble_eq_true rfl) dX6_readAll_29 (fun _ _ h => h) rfl (kE ?_)
        rw [show mj 64 = mi 64 from (hF 64 (by decide))]
        refine E_bipush 99 (by decide) dX6_readAll_32 ?_
        refine Z_ne (tX (mi 64) N p) 99 hV_t (show (99 : Int32).toInt = 99 from rfl) 44 dX6_readAll_34 (by decide) (fun c_34 => ?_) (fun c_34 => ?_)
        · skip
          refine E_aload_n 0 dX6_readAll_44 rfl rfl ?_
          refine E_callV (c_X6_here l hfl mj ml N p hj4 (by omega) hpp (by omega)) cw_X6_180 (As := []) (st := []) wi_yX6_here we_yX6_here (ci := 6) (q := (RX6, TX6, 23)) rfl rfl (wl_atO tw_61) rfl ⟨Nat.le_of_ble_eq_true rfl, Nat.le_of_ble_eq_true rfl, Nat.le_of_ble_eq_true rfl, Nat.le_of_ble_eq_true rfl⟩ (Nat.le_of_ble_eq_true rfl) dX6_readAll_45 (fun _ _ h => h) rfl (kE ?_)
          rw [show mj 64 = mi 64 from (hF 64 (by decide))]
          refine E_bipush 109 (by decide) dX6_readAll_48 ?_
          refine Z_ne (tX (mi 64) N p) 109 hV_t (show (109 : Int32).toInt = 109 from rfl) 64 dX6_readAll_50 (by decide) (fun c_50 => ?_) (fun c_50 => ?_)
          · skip
            refine E_iconst 0 (by decide) dX6_readAll_64 ?_
            refine E_istore_n [(2, .int 0), (0, .ref 61), (1, .int xi)] dX6_readAll_65 rfl (by decide) rfl ?_
            refine E_iload_n 0 dX6_readAll_66 rfl rfl ?_
            refine Y_eq 0 (show (0 : Int32).toInt = 0 from rfl) 79 dX6_readAll_67 (by decide) (fun c_67 => ?_) (fun c_67 => ?_)
            · skip
              refine E_iconst (-1) (by decide) dX6_readAll_79 ?_
              refine E_iret rfl (Nat.le_of_ble_eq_true rfl) (Nat.le_of_ble_eq_true rfl) dX6_readAll_80 ?_
              exact okQI ⟨rfl, hF, hK, Or.inl ⟨p, by rw [← hT]; exact pa_1 (by omega) c_34 c_50, rfl, hpp⟩⟩
            · exact absurd c_67 (by decide)
          · skip
            refine E_aload_n 0 dX6_readAll_53 rfl rfl ?_
            refine E_callV (c_X6_readMixer l hfl mj ml N p hj4 (by omega) (hpp.trans (by omega)) (by omega) M dc mc h18 (by omega) hM h20 (by omega) hdx) cw_X6_209 (As := []) (st := []) wi_yX6_readMixer we_yX6_readMixer (ci := 6) (q := (RX6, TX6, 23)) rfl rfl (wl_atO tw_61) rfl ⟨Nat.le_of_ble_eq_true rfl, Nat.le_of_ble_eq_true rfl, Nat.le_of_ble_eq_true rfl, Nat.le_of_ble_eq_true rfl⟩ (Nat.le_of_ble_eq_true rfl) dX6_readAll_54 (fun _ _ h => h) rfl (kI (fun r_54 mi_54 ml_54 h_54 => ?_))
            obtain ⟨hl9_54, hFr_54, hK_54, hr_54⟩ := h_54
            subst hl9_54
            rw [show mj 64 = mi 64 from (hF 64 (by decide))] at hr_54
            refine Y_eq r_54.toInt rfl 64 dX6_readAll_57 (by decide) (fun c_57 => ?_) (fun c_57 => ?_)
            · skip
              refine E_iconst 0 (by decide) dX6_readAll_64 ?_
              refine E_istore_n [(2, .int 0), (0, .ref 61), (1, .int xi)] dX6_readAll_65 rfl (by decide) rfl ?_
              refine E_iload_n 0 dX6_readAll_66 rfl rfl ?_
              refine Y_eq 0 (show (0 : Int32).toInt = 0 from rfl) 79 dX6_readAll_67 (by decide) (fun c_67 => ?_) (fun c_67 => ?_)
              · skip
                refine E_iconst (-1) (by decide) dX6_readAll_79 ?_
                refine E_iret rfl (Nat.le_of_ble_eq_true rfl) (Nat.le_of_ble_eq_true rfl) dX6_readAll_80 ?_
                obtain ⟨e9, hpe9, -, h159⟩ : ∃ e : Nat, pmT (tX (mi 64) N) dc M p = Sum.inl e ∧ r_54 = 0 ∧ (mi_54 61 15).toInt = (e : Int) := hr_54.resolve_right (fun ⟨_, _, _, h0, _⟩ => absurd c_57 (by rw [h0]; decide))
                exact okQI ⟨rfl, (Fr.trans (F := [61, 71, 72]) (G := [61, 72]) (H := [61, 71, 72]) hF hFr_54 (by decide) (by decide)), (KF.t (L := [15, 16, 18, 20, 21]) (M := [15, 16, 20, 21]) (N := [15, 16, 18, 20, 21]) hK hK_54 (by decide) (by decide)), Or.inl ⟨e9, by rw [← hT]; exact pa_m1 (by omega) c_34 c_50 (by rw [hdc]; exact hpe9), rfl, h159⟩⟩
              · exact absurd c_67 (by decide)
            · skip
              refine E_iconst 1 (by decide) dX6_readAll_60 ?_
              refine E_goto 65 dX6_readAll_61 (by decide) ?_
              refine E_istore_n [(2, .int 1), (0, .ref 61), (1, .int xi)] dX6_readAll_65 rfl (by decide) rfl ?_
              refine E_iload_n 0 dX6_readAll_66 rfl rfl ?_
              refine Y_eq 1 (show (1 : Int32).toInt = 1 from rfl) 79 dX6_readAll_67 (by decide) (fun c_67 => ?_) (fun c_67 => ?_)
              · exact absurd c_67 (by decide)
              · skip
                obtain ⟨s9, q9, hpm9, -, h159, h209, hdx9⟩ : ∃ (s q : Nat), pmT (tX (mi 64) N) dc M p = Sum.inr (s, q) ∧ r_54 = 1 ∧ (mi_54 61 15).toInt = (q : Int) ∧ (mi_54 61 20).toInt = ((mc + 1 : Nat) : Int) ∧ drX mi_54 (M ++ [s]) := hr_54.resolve_left (fun ⟨e, _, h0, _⟩ => c_57 (by rw [h0]; rfl))
                obtain ⟨hb91, hb92, hb93⟩ := pmT_b hpm9
                refine E_aload_n 1 dX6_readAll_70 rfl rfl ?_
                refine E_bipush 59 (by decide) dX6_readAll_71 ?_
                refine E_callV (c_X6_takes l hfl mi_54 ml N q9 ((congrArg Int32.toInt (hK_54 4 (by decide))).trans hj4) (by omega) (h159.trans (by omega)) (by omega) 59 59 (show (59 : Int32).toInt = 59 from rfl)) cw_X6_200 (As := [.int 59]) (st := []) wi_yX6_takes we_yX6_takes (ci := 6) (q := (RX6, TX6, 23)) rfl rfl (wl_atO tw_61) rfl ⟨Nat.le_of_ble_eq_true rfl, Nat.le_of_ble_eq_true rfl, Nat.le_of_ble_eq_true rfl, Nat.le_of_ble_eq_true rfl⟩ (Nat.le_of_ble_eq_true rfl) dX6_readAll_73 (fun _ _ h => h) rfl (kI (fun r_73 mi_73 ml_73 h_73 => ?_))
                obtain ⟨hl9_73, hFr_73, hK_73, hr_73, q_73, h15_73, hQ_73⟩ := h_73
                subst hl9_73
                rw [show mi_54 64 = mi 64 from ((hFr_54 64 (by decide)).trans (hF 64 (by decide)))] at hr_73 hQ_73
                replace hQ_73 : RfQ (tX (mi 64) N q9 = 59) q_73 (q9 + 1) q9 := hQ_73
                subst hr_73
                refine B_ne 81 dX6_readAll_76 (by decide) (fun c_76 => ?_) (fun c_76 => ?_)
                · skip
                  refine E_iinc 2 (xi + 1) [(1, .int (xi + 1)), (2, .int 1), (0, .ref 61)] dX6_readAll_81 rfl rfl (by decide) rfl ?_
                  refine E_goto 17 dX6_readAll_84 (by decide) ?_
                  refine E_sub [2, 0] rfl ?_
                  exact ih17 (xi + 1) (it + 1) g q_73 D (M ++ [s9]) dc (mc + 1) mi_73 (by omega) ((tI_add hxi (show (1 : Int32).toInt = 1 from rfl) (by omega)).trans (by omega)) (by have := hQ_73.1 c_76; omega) h15_73 (by have := hQ_73.1 c_76; have := tX_lt (show tX (mi 64) N q9 ≠ -1 by rw [c_76]; decide); omega) (by have := hQ_73.1 c_76; omega) (by rw [← hT, pa_m3 (by omega) c_34 c_50 (by rw [hdc]; exact hpm9) c_76, hQ_73.1 c_76]) hdc (by rw [hK_73 18 (by decide), hK_54 18 (by decide)]; exact h18) (fun k d h => by rw [(hFr_73 71 (by decide)), hFr_54 71 (by decide)]; exact hdr k d h) (by omega) (by rw [List.length_append, hM]; rfl) (by rw [hK_73 20 (by decide)]; exact h209) (fun k d h => by rw [(hFr_73 72 (by decide))]; exact hdx9 k d h) (by omega) (Fr.trans (F := [61, 71, 72]) (G := [61]) (H := [61, 71, 72]) (Fr.trans (F := [61, 71, 72]) (G := [61, 72]) (H := [61, 71, 72]) hF hFr_54 (by decide) (by decide)) hFr_73 (by decide) (by decide)) (KF.t (L := [15, 16, 18, 20, 21]) (M := [15]) (N := [15, 16, 18, 20, 21]) (KF.t (L := [15, 16, 18, 20, 21]) (M := [15, 16, 20, 21]) (N := [15, 16, 18, 20, 21]) hK hK_54 (by decide) (by decide)) hK_73 (by decide) (by decide))
                · skip
                  refine E_iconst (-1) (by decide) dX6_readAll_79 ?_
                  refine E_iret rfl (Nat.le_of_ble_eq_true rfl) (Nat.le_of_ble_eq_true rfl) dX6_readAll_80 ?_
                  exact okQI ⟨rfl, (Fr.trans (F := [61, 71, 72]) (G := [61]) (H := [61, 71, 72]) (Fr.trans (F := [61, 71, 72]) (G := [61, 72]) (H := [61, 71, 72]) hF hFr_54 (by decide) (by decide)) hFr_73 (by decide) (by decide)), (KF.t (L := [15, 16, 18, 20, 21]) (M := [15]) (N := [15, 16, 18, 20, 21]) (KF.t (L := [15, 16, 18, 20, 21]) (M := [15, 16, 20, 21]) (N := [15, 16, 18, 20, 21]) hK hK_54 (by decide) (by decide)) hK_73 (by decide) (by decide)), Or.inl ⟨q9, by rw [← hT]; exact pa_m2 (by omega) c_34 c_50 (by rw [hdc]; exact hpm9) c_76, rfl, h15_73.trans (by rw [hQ_73.2 c_76])⟩⟩
        · skip
          refine E_aload_n 0 dX6_readAll_37 rfl rfl ?_
          refine E_callV (c_X6_readCarrier l hfl mj ml N p hj4 (by omega) (hpp.trans (by omega)) (by omega) D dc hdc h18 (by omega) hdr) cw_X6_206 (As := []) (st := []) wi_yX6_readCarrier we_yX6_readCarrier (ci := 6) (q := (RX6, TX6, 23)) rfl rfl (wl_atO tw_61) rfl ⟨Nat.le_of_ble_eq_true rfl, Nat.le_of_ble_eq_true rfl, Nat.le_of_ble_eq_true rfl, Nat.le_of_ble_eq_true rfl⟩ (Nat.le_of_ble_eq_true rfl) dX6_readAll_38 (fun _ _ h => h) rfl (kI (fun r_38 mi_38 ml_38 h_38 => ?_))
          obtain ⟨hl9_38, hFr_38, hK_38, hr_38⟩ := h_38
          subst hl9_38
          rw [show mj 64 = mi 64 from (hF 64 (by decide))] at hr_38
          refine E_goto 65 dX6_readAll_41 (by decide) ?_
          refine E_istore_n [(2, .int r_38), (0, .ref 61), (1, .int xi)] dX6_readAll_65 rfl (by decide) rfl ?_
          refine E_iload_n 0 dX6_readAll_66 rfl rfl ?_
          refine Y_eq r_38.toInt rfl 79 dX6_readAll_67 (by decide) (fun c_67 => ?_) (fun c_67 => ?_)
          · skip
            refine E_iconst (-1) (by decide) dX6_readAll_79 ?_
            refine E_iret rfl (Nat.le_of_ble_eq_true rfl) (Nat.le_of_ble_eq_true rfl) dX6_readAll_80 ?_
            obtain ⟨e9, hpe9, -, h159⟩ : ∃ e : Nat, pcS (tX (mi 64) N) D p = Sum.inl e ∧ r_38 = 0 ∧ (mi_38 61 15).toInt = (e : Int) := hr_38.resolve_right (fun ⟨_, _, _, h0, _⟩ => absurd c_67 (by rw [h0]; decide))
            exact okQI ⟨rfl, (Fr.trans (F := [61, 71, 72]) (G := [61, 71]) (H := [61, 71, 72]) hF hFr_38 (by decide) (by decide)), (KF.t (L := [15, 16, 18, 20, 21]) (M := [15, 16, 18, 21]) (N := [15, 16, 18, 20, 21]) hK hK_38 (by decide) (by decide)), Or.inl ⟨e9, by rw [← hT]; exact pa_c1 (by omega) c_34 hpe9, rfl, h159⟩⟩
          · skip
            obtain ⟨D9, q9, hpc9, -, h159, h189, hdr9⟩ : ∃ (D9 : List (Nat × Nat)) (q : Nat), pcS (tX (mi 64) N) D p = Sum.inr (D9, q) ∧ r_38 = 1 ∧ (mi_38 61 15).toInt = (q : Int) ∧ (mi_38 61 18).toInt = (D9.length : Int) ∧ drR mi_38 D9 := hr_38.resolve_left (fun ⟨e, _, h0, _⟩ => c_67 (by rw [h0]; rfl))
            obtain ⟨hb91, hb92, hb93, hb94⟩ := pcS_b hpc9
            refine E_aload_n 1 dX6_readAll_70 rfl rfl ?_
            refine E_bipush 59 (by decide) dX6_readAll_71 ?_
            refine E_callV (c_X6_takes l hfl mi_38 ml N q9 ((congrArg Int32.toInt (hK_38 4 (by decide))).trans hj4) (by omega) (h159.trans (by omega)) (by omega) 59 59 (show (59 : Int32).toInt = 59 from rfl)) cw_X6_200 (As := [.int 59]) (st := []) wi_yX6_takes we_yX6_takes (ci := 6) (q := (RX6, TX6, 23)) rfl rfl (wl_atO tw_61) rfl ⟨Nat.le_of_ble_eq_true rfl, Nat.le_of_ble_eq_true rfl, Nat.le_of_ble_eq_true rfl, Nat.le_of_ble_eq_true rfl⟩ (Nat.le_of_ble_eq_true rfl) dX6_readAll_73 (fun _ _ h => h) rfl (kI (fun r_73 mi_73 ml_73 h_73 => ?_))
            obtain ⟨hl9_73, hFr_73, hK_73, hr_73, q_73, h15_73, hQ_73⟩ := h_73
            subst hl9_73
            rw [show mi_38 64 = mi 64 from ((hFr_38 64 (by decide)).trans (hF 64 (by decide)))] at hr_73 hQ_73
            replace hQ_73 : RfQ (tX (mi 64) N q9 = 59) q_73 (q9 + 1) q9 := hQ_73
            subst hr_73
            refine B_ne 81 dX6_readAll_76 (by decide) (fun c_76 => ?_) (fun c_76 => ?_)
            · skip
              refine E_iinc 2 (xi + 1) [(1, .int (xi + 1)), (2, .int r_38), (0, .ref 61)] dX6_readAll_81 rfl rfl (by decide) rfl ?_
              refine E_goto 17 dX6_readAll_84 (by decide) ?_
              refine E_sub [2, 0] rfl ?_
              exact ih17 (xi + 1) (it + 1) g q_73 D9 M D9.length mc mi_73 (by omega) ((tI_add hxi (show (1 : Int32).toInt = 1 from rfl) (by omega)).trans (by omega)) (by have := hQ_73.1 c_76; omega) h15_73 (by have := hQ_73.1 c_76; have := tX_lt (show tX (mi 64) N q9 ≠ -1 by rw [c_76]; decide); omega) (by have := hQ_73.1 c_76; omega) (by rw [← hT, pa_c3 (by omega) c_34 hpc9 c_76, hQ_73.1 c_76]) rfl (by rw [hK_73 18 (by decide)]; exact h189) (fun k d h => by rw [(hFr_73 71 (by decide))]; exact hdr9 k d h) (by omega) hM (by rw [hK_73 20 (by decide), hK_38 20 (by decide)]; exact h20) (fun k d h => by rw [(hFr_73 72 (by decide)), hFr_38 72 (by decide)]; exact hdx k d h) (by omega) (Fr.trans (F := [61, 71, 72]) (G := [61]) (H := [61, 71, 72]) (Fr.trans (F := [61, 71, 72]) (G := [61, 71]) (H := [61, 71, 72]) hF hFr_38 (by decide) (by decide)) hFr_73 (by decide) (by decide)) (KF.t (L := [15, 16, 18, 20, 21]) (M := [15]) (N := [15, 16, 18, 20, 21]) (KF.t (L := [15, 16, 18, 20, 21]) (M := [15, 16, 18, 21]) (N := [15, 16, 18, 20, 21]) hK hK_38 (by decide) (by decide)) hK_73 (by decide) (by decide))
            · skip
              refine E_iconst (-1) (by decide) dX6_readAll_79 ?_
              refine E_iret rfl (Nat.le_of_ble_eq_true rfl) (Nat.le_of_ble_eq_true rfl) dX6_readAll_80 ?_
              exact okQI ⟨rfl, (Fr.trans (F := [61, 71, 72]) (G := [61]) (H := [61, 71, 72]) (Fr.trans (F := [61, 71, 72]) (G := [61, 71]) (H := [61, 71, 72]) hF hFr_38 (by decide) (by decide)) hFr_73 (by decide) (by decide)), (KF.t (L := [15, 16, 18, 20, 21]) (M := [15]) (N := [15, 16, 18, 20, 21]) (KF.t (L := [15, 16, 18, 20, 21]) (M := [15, 16, 18, 21]) (N := [15, 16, 18, 20, 21]) hK hK_38 (by decide) (by decide)) hK_73 (by decide) (by decide)), Or.inl ⟨q9, by rw [← hT]; exact pa_c2 (by omega) c_34 hpc9 c_76, rfl, h15_73.trans (by rw [hQ_73.2 c_76])⟩⟩
  refine E_sub [1, 0] rfl ?_
  exact J17 _ 0 0 122 0 [] [] 0 0 (u2 (u2 (u2 mi 61 15 0) 61 18 0) 61 20 0) (Nat.lt_succ_self _) (show (0 : Int32).toInt = 0 from rfl) (Nat.le_refl _) (by rw [u2_n (by omega), u2_n (by omega), u2_s]; rfl) (Nat.zero_le _) (by omega) rfl rfl (by rw [u2_n (by omega), u2_s]; rfl) (fun k d h => by simp at h) (by omega) rfl (by rw [u2_s]; rfl) (fun k d h => by simp at h) (by omega) (((Fr.rfl'.u (by decide)).u (by decide)).u (by decide)) (((KF.r.u (by decide)).u (by decide)).u (by decide))
end MO24
