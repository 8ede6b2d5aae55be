section PL4
section
variable {t : Nat → Int} {N p it f : Nat} {D : List (Nat × Nat)} {M : List Nat}
theorem pci_l {e : Nat} (h : p < N) (h1 : t p = 99) (h2 : cIt t D p = .inl e) : paS t N (f + 1) D M p it = .inl e := by
  unfold cIt at h2
  cases h3 : pcS t D p with
  | inl e2 => rw [h3] at h2; cases h2; exact pa_c1 h h1 h3
  | inr z =>
    obtain ⟨D9, q⟩ := z
    rw [h3] at h2
    rcases Classical.em (t q = 59) with w | w
    · simp only [ifp_t w] at h2; cases h2
    · simp only [ifp_f w] at h2; cases h2; exact pa_c2 h h1 h3 w
theorem pci_y {D9 : List (Nat × Nat)} {q : Nat} (h : p < N) (h1 : t p = 99) (h2 : cIt t D p = .inr (D9, q)) : paS t N (f + 1) D M p it = paS t N f D9 M q (it + 1) := by
  unfold cIt at h2
  cases h3 : pcS t D p with
  | inl e2 => rw [h3] at h2; cases h2
  | inr z =>
    obtain ⟨D8, q8⟩ := z
    rw [h3] at h2
    rcases Classical.em (t q8 = 59) with w | w
    · simp only [ifp_t w] at h2; cases h2; exact pa_c3 h h1 h3 w
    · simp only [ifp_f w] at h2; cases h2
theorem pmi_l {e : Nat} (h : p < N) (h0 : t p ≠ 99) (h1 : t p = 109) (h2 : mIt t D.length M p = .inl e) : paS t N (f + 1) D M p it = .inl e := by
  unfold mIt at h2
  cases h3 : pmT t D.length M p with
  | inl e2 => rw [h3] at h2; cases h2; exact pa_m1 h h0 h1 h3
  | inr z =>
    obtain ⟨s, q⟩ := z
    rw [h3] at h2
    rcases Classical.em (t q = 59) with w | w
    · simp only [ifp_t w] at h2; cases h2
    · simp only [ifp_f w] at h2; cases h2; exact pa_m2 h h0 h1 h3 w
theorem pmi_y {s q : Nat} (h : p < N) (h0 : t p ≠ 99) (h1 : t p = 109) (h2 : mIt t D.length M p = .inr (s, q)) : paS t N (f + 1) D M p it = paS t N f D (M ++ [s]) q (it + 1) := by
  unfold mIt at h2
  cases h3 : pmT t D.length M p with
  | inl e2 => rw [h3] at h2; cases h2
  | inr z =>
    obtain ⟨s8, q8⟩ := z
    rw [h3] at h2
    rcases Classical.em (t q8 = 59) with w | w
    · simp only [ifp_t w] at h2; cases h2; exact pa_m3 h h0 h1 h3 w
    · simp only [ifp_f w] at h2; cases h2
end
theorem ci_b {row : Nat → Int32} {N p q : Nat} {D D9 : List (Nat × Nat)} (h : cIt (tX row N) D p = .inr (D9, q)) : p < q := by
  unfold cIt at h
  cases h3 : pcS (tX row N) D p with
  | inl e2 => rw [h3] at h; cases h
  | inr z =>
    obtain ⟨D8, q8⟩ := z
    rw [h3] at h
    have hb := pcS_b h3
    rcases Classical.em (tX row N q8 = 59) with w | w
    · simp only [ifp_t w] at h; cases h; omega
    · simp only [ifp_f w] at h; cases h
theorem mi_b {row : Nat → Int32} {N p q nD s : Nat} {M : List Nat} (h : mIt (tX row N) nD M p = .inr (s, q)) : p < q := by
  unfold mIt at h
  cases h3 : pmT (tX row N) nD M p with
  | inl e2 => rw [h3] at h; cases h
  | inr z =>
    obtain ⟨s8, q8⟩ := z
    rw [h3] at h
    have hb := pmT_b h3
    rcases Classical.em (tX row N q8 = 59) with w | w
    · simp only [ifp_t w] at h; cases h; omega
    · simp only [ifp_f w] at h; cases h
/-- how an item ends -/
def ITO (t : Nat → Int) (N : Nat) (D : List (Nat × Nat)) (M : List Nat) (p : Nat) (mj : MI) : Prop :=
  (∃ e : Nat, (∀ f it, paS t N (f + 1) D M p it = .inl e) ∧ (mj 58 4).toInt = (e : Int)) ∨
  (∃ (D9 : List (Nat × Nat)) (M9 : List Nat) (q : Nat), (∀ f it, paS t N (f + 1) D M p it = paS t N f D9 M9 q (it + 1)) ∧ (mj 58 4).toInt = -1 ∧ (mj 58 2).toInt = (q : Int) ∧ p < q ∧ q ≤ N ∧ DrC mj D9 ∧ DrM mj M9 ∧ mj 9 10 = 0)
set_option maxHeartbeats 1600000 in
set_option maxRecDepth 100000 in
theorem c_X4_readItem (l : Launch) (hfl : l.stackTraces = false) (mi : MI) (ml : MJ) (N : Nat) (hN : (mi 58 1).toInt = (N : Int)) (hN2 : N ≤ 120) (D : List (Nat × Nat)) (hDc : DrC mi D) (p : Nat) (M : List Nat) (hMd : DrM mi M) (h910 : mi 9 10 = 0) (hp : (mi 58 2).toInt = (p : Int)) (hpN : p < N) (he : (mi 58 4).toInt = -1) : Ct l yX4_readItem (.code yX4_readItem cX4_readItem 3 none) 4 0 0 [.ref 58, .ref 9] (wl mi ml) (QV (fun mi9 ml9 => ml = ml9 ∧ Fr [58, 9, 10, 11, 12] mi mi9 ∧ mi9 58 1 = mi 58 1 ∧ (∀ k, k ≠ 5 → k ≠ 8 → k ≠ 10 → mi9 9 k = mi 9 k) ∧ ITO (tX (mi 59) N) N D M p mi9)) noX := by
  refine Ct_of (ini := false) pn_X4 hfl (fun h => nomatch h) (Nat.le_of_ble_eq_true rfl) ?_
  show E l RX4 cX4_readItem 3 none false [] (rmE 4 0 0) (wl mi ml) (TgM (wl mi ml) 0 0 (QV (fun mi9 ml9 => ml = ml9 ∧ Fr [58, 9, 10, 11, 12] mi mi9 ∧ mi9 58 1 = mi 58 1 ∧ (∀ k, k ≠ 5 → k ≠ 8 → k ≠ 10 → mi9 9 k = mi 9 k) ∧ ITO (tX (mi 59) N) N D M p mi9)) noX) 0 0 0 [(0, .ref 58), (1, .ref 9)] [] (wl mi ml)
  have hD10 := hDc.2.1
  have hM5 := hMd.2.1
  refine E_aload_n 0 dX4_readItem_0 rfl rfl ?_
  refine E_aload_n 0 dX4_readItem_1 rfl rfl ?_
  refine gf_X4_19 (mi 58 2) tw_58 rfl rfl dX4_readItem_2 ?_
  refine E_callV (c_X4_byteAt l hfl mi ml N hN hN2 (mi 59) rfl (mi 58 2) p (hp.trans (by omega))) cw_X4_29 (As := [.int (mi 58 2)]) (st := []) wi_yX4_byteAt we_yX4_byteAt (ci := 4) (q := (RX4, TX4, 5)) rfl rfl (wl_atO tw_58) rfl ⟨Nat.le_of_ble_eq_true rfl, Nat.le_of_ble_eq_true rfl, Nat.le_of_ble_eq_true rfl, Nat.le_of_ble_eq_true rfl⟩ (Nat.le_of_ble_eq_true rfl) dX4_readItem_5 (fun _ _ h => h) rfl (kE ?_)
  refine E_istore_n [(2, .int (hV (mi 59) N p)), (0, .ref 58), (1, .ref 9)] dX4_readItem_8 rfl (by decide) rfl ?_
  refine E_iload_n 0 dX4_readItem_9 rfl rfl ?_
  refine E_bipush 99 (by decide) dX4_readItem_10 ?_
  refine Z_ne (tX (mi 59) N p) 99 hV_t (show (99 : Int32).toInt = 99 from rfl) 42 dX4_readItem_12 (by decide) (fun c_12 => ?_) (fun c_12 => ?_)
  · skip
    refine E_iload_n 0 dX4_readItem_42 rfl rfl ?_
    refine E_bipush 109 (by decide) dX4_readItem_43 ?_
    refine Z_ne (tX (mi 59) N p) 109 hV_t (show (109 : Int32).toInt = 109 from rfl) 74 dX4_readItem_45 (by decide) (fun c_45 => ?_) (fun c_45 => ?_)
    · skip
      refine E_aload_n 1 dX4_readItem_74 rfl rfl ?_
      refine E_aload_n 1 dX4_readItem_75 rfl rfl ?_
      refine gf_X4_19 (mi 58 2) tw_58 rfl rfl dX4_readItem_76 ?_
      refine pf_X4_22 tw_58 rfl dX4_readItem_79 ?_
      refine E_vret rfl (Nat.le_of_ble_eq_true rfl) (Nat.le_of_ble_eq_true rfl) dX4_readItem_82 ?_
      exact okQV ⟨rfl, Fr_r.u (by decide), u2_n (by omega), fun k _ _ _ => congrFun (u2_p (by decide)) k, Or.inl ⟨p, fun f it => pa_1 hpN c_12 c_45, (congrArg Int32.toInt (u2_s _ _ _ _)).trans hp⟩⟩
    · skip
      refine E_aload_n 2 dX4_readItem_48 rfl rfl ?_
      refine gf_X4_41 (mi 9 8) isD_9.t rfl rfl dX4_readItem_49 ?_
      refine E_iconst 5 (by decide) dX4_readItem_52 ?_
      refine Z_ge ((M.length : Nat) : Int) 5 hMd.1 (show (5 : Int32).toInt = 5 from rfl) 74 dX4_readItem_53 (by decide) (fun c_53 => ?_) (fun c_53 => ?_)
      · skip
        refine E_aload_n 1 dX4_readItem_74 rfl rfl ?_
        refine E_aload_n 1 dX4_readItem_75 rfl rfl ?_
        refine gf_X4_19 (mi 58 2) tw_58 rfl rfl dX4_readItem_76 ?_
        refine pf_X4_22 tw_58 rfl dX4_readItem_79 ?_
        refine E_vret rfl (Nat.le_of_ble_eq_true rfl) (Nat.le_of_ble_eq_true rfl) dX4_readItem_82 ?_
        exact okQV ⟨rfl, Fr_r.u (by decide), u2_n (by omega), fun k _ _ _ => congrFun (u2_p (by decide)) k, Or.inl ⟨p, fun f it => pmi_l hpN c_12 c_45 (mi_l (show pmT (tX (mi 59) N) D.length M p = .inl p by unfold pmT; rw [ifp_t (by omega)])), (congrArg Int32.toInt (u2_s _ _ _ _)).trans hp⟩⟩
      · skip
        refine E_aload_n 1 dX4_readItem_56 rfl rfl ?_
        refine E_dup rfl dX4_readItem_57 ?_
        refine gf_X4_19 (mi 58 2) tw_58 rfl rfl dX4_readItem_58 ?_
        refine E_iconst 1 (by decide) dX4_readItem_61 ?_
        refine E_iadd dX4_readItem_62 ?_
        refine pf_X4_19 tw_58 rfl dX4_readItem_63 ?_
        refine E_aload_n 1 dX4_readItem_66 rfl rfl ?_
        refine E_aload_n 2 dX4_readItem_67 rfl rfl ?_
        refine E_callV (c_X4_readMixer l hfl (u2 mi 58 2 ((mi 58 2) + 1)) ml N ((congrArg Int32.toInt ((u2_n (by omega)).trans rfl)).trans hN) hN2 D (hDc.c (congrFun ((u2_p (by decide))) 5) (u2_p (by decide)) (u2_p (by decide))) p M (hMd.c (congrFun ((u2_p (by decide))) 8) ((u2_p (by decide)))) (by omega) (((congrArg Int32.toInt (u2_s _ _ _ _)).trans (tI_add hp (show (1 : Int32).toInt = 1 from rfl) (by omega))).trans (by omega)) (by omega) ((congrArg Int32.toInt ((u2_n (by omega)).trans rfl)).trans he)) cw_X4_44 (As := [.ref 9]) (st := []) wi_yX4_readMixer we_yX4_readMixer (ci := 4) (q := (RX4, TX4, 5)) rfl rfl (wl_atO tw_58) rfl ⟨Nat.le_of_ble_eq_true rfl, Nat.le_of_ble_eq_true rfl, Nat.le_of_ble_eq_true rfl, Nat.le_of_ble_eq_true rfl⟩ (Nat.le_of_ble_eq_true rfl) dX4_readItem_68 (fun _ _ h => h) rfl (kV (fun mi_68 ml_68 h_68 => ?_))
        obtain ⟨rfl, hF_68, h1_68, h9_68, hR_68⟩ := h_68
        rw [show (u2 mi 58 2 ((mi 58 2) + 1)) 59 = mi 59 from (u2_p (by decide))] at hR_68
        refine E_goto 82 dX4_readItem_71 (by decide) ?_
        refine E_vret rfl (Nat.le_of_ble_eq_true rfl) (Nat.le_of_ble_eq_true rfl) dX4_readItem_82 ?_
        have f9 : Fr [58, 9, 10, 11, 12] mi mi_68 := Fr.trans (F := [58]) (Fr_r.u (by decide)) hF_68 (by decide) (by decide)
        have g9 : DrC mi_68 D := hDc.c ((h9_68 5 (by decide) (by decide)).trans (congrFun (u2_p (by decide)) 5)) ((hF_68 10 (by decide)).trans (u2_p (by decide))) ((hF_68 11 (by decide)).trans (u2_p (by decide)))
        exact okQV ⟨rfl, f9, h1_68.trans (u2_n (by omega)), fun k _ b c => (h9_68 k b c).trans (congrFun (u2_p (by decide)) k), hR_68.elim (fun ⟨e, a, b⟩ => Or.inl ⟨e, fun f it => pmi_l hpN (by omega) c_45 a, b⟩) (fun ⟨s, q, a, b, c, d, e, g⟩ => Or.inr ⟨D, M ++ [s], q, fun f it => pmi_y hpN (by omega) c_45 a, b, c, mi_b a, g, g9, d, e⟩)⟩
  · skip
    refine E_aload_n 2 dX4_readItem_15 rfl rfl ?_
    refine gf_X4_33 (mi 9 5) isD_9.t rfl rfl dX4_readItem_16 ?_
    refine E_bipush 10 (by decide) dX4_readItem_19 ?_
    refine Z_ge ((D.length : Nat) : Int) 10 hDc.1 (show (10 : Int32).toInt = 10 from rfl) 42 dX4_readItem_21 (by decide) (fun c_21 => ?_) (fun c_21 => ?_)
    · skip
      refine E_iload_n 0 dX4_readItem_42 rfl rfl ?_
      refine E_bipush 109 (by decide) dX4_readItem_43 ?_
      refine Z_ne (tX (mi 59) N p) 109 hV_t (show (109 : Int32).toInt = 109 from rfl) 74 dX4_readItem_45 (by decide) (fun c_45 => ?_) (fun c_45 => ?_)
      · skip
        refine E_aload_n 1 dX4_readItem_74 rfl rfl ?_
        refine E_aload_n 1 dX4_readItem_75 rfl rfl ?_
        refine gf_X4_19 (mi 58 2) tw_58 rfl rfl dX4_readItem_76 ?_
        refine pf_X4_22 tw_58 rfl dX4_readItem_79 ?_
        refine E_vret rfl (Nat.le_of_ble_eq_true rfl) (Nat.le_of_ble_eq_true rfl) dX4_readItem_82 ?_
        exact okQV ⟨rfl, Fr_r.u (by decide), u2_n (by omega), fun k _ _ _ => congrFun (u2_p (by decide)) k, Or.inl ⟨p, fun f it => pci_l hpN c_12 (ci_l (pc_1 (by omega))), (congrArg Int32.toInt (u2_s _ _ _ _)).trans hp⟩⟩
      · skip
        refine E_aload_n 2 dX4_readItem_48 rfl rfl ?_
        refine gf_X4_41 (mi 9 8) isD_9.t rfl rfl dX4_readItem_49 ?_
        refine E_iconst 5 (by decide) dX4_readItem_52 ?_
        refine Z_ge ((M.length : Nat) : Int) 5 hMd.1 (show (5 : Int32).toInt = 5 from rfl) 74 dX4_readItem_53 (by decide) (fun c_53 => ?_) (fun c_53 => ?_)
        · skip
          refine E_aload_n 1 dX4_readItem_74 rfl rfl ?_
          refine E_aload_n 1 dX4_readItem_75 rfl rfl ?_
          refine gf_X4_19 (mi 58 2) tw_58 rfl rfl dX4_readItem_76 ?_
          refine pf_X4_22 tw_58 rfl dX4_readItem_79 ?_
          refine E_vret rfl (Nat.le_of_ble_eq_true rfl) (Nat.le_of_ble_eq_true rfl) dX4_readItem_82 ?_
          exact absurd c_45 (by omega)
        · skip
          refine E_aload_n 1 dX4_readItem_56 rfl rfl ?_
          refine E_dup rfl dX4_readItem_57 ?_
          refine gf_X4_19 (mi 58 2) tw_58 rfl rfl dX4_readItem_58 ?_
          refine E_iconst 1 (by decide) dX4_readItem_61 ?_
          refine E_iadd dX4_readItem_62 ?_
          refine pf_X4_19 tw_58 rfl dX4_readItem_63 ?_
          refine E_aload_n 1 dX4_readItem_66 rfl rfl ?_
          refine E_aload_n 2 dX4_readItem_67 rfl rfl ?_
          refine E_callV (c_X4_readMixer l hfl (u2 mi 58 2 ((mi 58 2) + 1)) ml N ((congrArg Int32.toInt ((u2_n (by omega)).trans rfl)).trans hN) hN2 D (hDc.c (congrFun ((u2_p (by decide))) 5) (u2_p (by decide)) (u2_p (by decide))) p M (hMd.c (congrFun ((u2_p (by decide))) 8) ((u2_p (by decide)))) (by omega) (((congrArg Int32.toInt (u2_s _ _ _ _)).trans (tI_add hp (show (1 : Int32).toInt = 1 from rfl) (by omega))).trans (by omega)) (by omega) ((congrArg Int32.toInt ((u2_n (by omega)).trans rfl)).trans he)) cw_X4_44 (As := [.ref 9]) (st := []) wi_yX4_readMixer we_yX4_readMixer (ci := 4) (q := (RX4, TX4, 5)) rfl rfl (wl_atO tw_58) rfl ⟨Nat.le_of_ble_eq_true rfl, Nat.le_of_ble_eq_true rfl, Nat.le_of_ble_eq_true rfl, Nat.le_of_ble_eq_true rfl⟩ (Nat.le_of_ble_eq_true rfl) dX4_readItem_68 (fun _ _ h => h) rfl (kV (fun mi_68 ml_68 h_68 => ?_))
          obtain ⟨rfl, hF_68, h1_68, h9_68, hR_68⟩ := h_68
          rw [show (u2 mi 58 2 ((mi 58 2) + 1)) 59 = mi 59 from (u2_p (by decide))] at hR_68
          refine E_goto 82 dX4_readItem_71 (by decide) ?_
          refine E_vret rfl (Nat.le_of_ble_eq_true rfl) (Nat.le_of_ble_eq_true rfl) dX4_readItem_82 ?_
          have f9 : Fr [58, 9, 10, 11, 12] mi mi_68 := Fr.trans (F := [58]) (Fr_r.u (by decide)) hF_68 (by decide) (by decide)
          have g9 : DrC mi_68 D := hDc.c ((h9_68 5 (by decide) (by decide)).trans (congrFun (u2_p (by decide)) 5)) ((hF_68 10 (by decide)).trans (u2_p (by decide))) ((hF_68 11 (by decide)).trans (u2_p (by decide)))
          exact okQV ⟨rfl, f9, h1_68.trans (u2_n (by omega)), fun k _ b c => (h9_68 k b c).trans (congrFun (u2_p (by decide)) k), hR_68.elim (fun ⟨e, a, b⟩ => Or.inl ⟨e, fun f it => pmi_l hpN (by omega) c_45 a, b⟩) (fun ⟨s, q, a, b, c, d, e, g⟩ => Or.inr ⟨D, M ++ [s], q, fun f it => pmi_y hpN (by omega) c_45 a, b, c, mi_b a, g, g9, d, e⟩)⟩
    · skip
      refine E_aload_n 1 dX4_readItem_24 rfl rfl ?_
      refine E_dup rfl dX4_readItem_25 ?_
      refine gf_X4_19 (mi 58 2) tw_58 rfl rfl dX4_readItem_26 ?_
      refine E_iconst 1 (by decide) dX4_readItem_29 ?_
      refine E_iadd dX4_readItem_30 ?_
      refine pf_X4_19 tw_58 rfl dX4_readItem_31 ?_
      refine E_aload_n 1 dX4_readItem_34 rfl rfl ?_
      refine E_aload_n 2 dX4_readItem_35 rfl rfl ?_
      refine E_callV (c_X4_readCarrier l hfl (u2 mi 58 2 ((mi 58 2) + 1)) ml N ((congrArg Int32.toInt ((u2_n (by omega)).trans rfl)).trans hN) hN2 D (hDc.c (congrFun ((u2_p (by decide))) 5) (u2_p (by decide)) (u2_p (by decide))) p (by omega) (((congrArg Int32.toInt (u2_s _ _ _ _)).trans (tI_add hp (show (1 : Int32).toInt = 1 from rfl) (by omega))).trans (by omega)) (by omega) ((congrArg Int32.toInt ((u2_n (by omega)).trans rfl)).trans he)) cw_X4_38 (As := [.ref 9]) (st := []) wi_yX4_readCarrier we_yX4_readCarrier (ci := 4) (q := (RX4, TX4, 5)) rfl rfl (wl_atO tw_58) rfl ⟨Nat.le_of_ble_eq_true rfl, Nat.le_of_ble_eq_true rfl, Nat.le_of_ble_eq_true rfl, Nat.le_of_ble_eq_true rfl⟩ (Nat.le_of_ble_eq_true rfl) dX4_readItem_36 (fun _ _ h => h) rfl (kV (fun mi_36 ml_36 h_36 => ?_))
      obtain ⟨rfl, hF_36, h1_36, h9_36, hR_36⟩ := h_36
      rw [show (u2 mi 58 2 ((mi 58 2) + 1)) 59 = mi 59 from (u2_p (by decide))] at hR_36
      refine E_goto 82 dX4_readItem_39 (by decide) ?_
      refine E_vret rfl (Nat.le_of_ble_eq_true rfl) (Nat.le_of_ble_eq_true rfl) dX4_readItem_82 ?_
      have f9 : Fr [58, 9, 10, 11, 12] mi mi_36 := Fr.trans (F := [58]) (Fr_r.u (by decide)) hF_36 (by decide) (by decide)
      have g9 : DrM mi_36 M := hMd.c ((h9_36 8 (by decide) (by decide)).trans (congrFun (u2_p (by decide)) 8)) ((hF_36 12 (by decide)).trans (u2_p (by decide)))
      exact okQV ⟨rfl, f9, h1_36.trans (u2_n (by omega)), fun k a _ c => (h9_36 k a c).trans (congrFun (u2_p (by decide)) k), hR_36.elim (fun ⟨e, a, b⟩ => Or.inl ⟨e, fun f it => pci_l hpN c_12 a, b⟩) (fun ⟨D9, q, a, b, c, d, e, g⟩ => Or.inr ⟨D9, M, q, fun f it => pci_y hpN c_12 a, b, c, ci_b a, g, d, g9, e⟩)⟩
theorem ifp_inl {α : Type} {P : Prop} {a e : Nat} {x : Sum Nat α} (h : ifp P (.inl a) x = .inl e) : (P ∧ e = a) ∨ (¬ P ∧ x = .inl e) := by
  rcases Classical.em P with q | q
  · rw [ifp_t q] at h; cases h; exact Or.inl ⟨q, rfl⟩
  · rw [ifp_f q] at h; exact Or.inr ⟨q, h⟩
theorem pcS_l {row : Nat → Int32} {N p e : Nat} {D : List (Nat × Nat)} (h : pcS (tX row N) D p = .inl e) (hp : p < N) : e ≤ N := by
  have h1 := rdI_N (row := row) (N := N) (p := p + 1) (by omega)
  unfold pcS at h
  rcases ifp_inl h with ⟨_, q⟩ | ⟨_, h⟩
  · omega
  rcases ifp_inl h with ⟨_, q⟩ | ⟨_, h⟩
  · omega
  rcases ifp_inl h with ⟨_, q⟩ | ⟨_, h⟩
  · omega
  rcases ifp_inl h with ⟨_, q⟩ | ⟨g4, h⟩
  · omega
  have h2 := tX_lt (row := row) (N := N) (p := p + 1 + rdI (tX row N) (p + 1)) (by rw [Classical.byContradiction g4]; decide)
  have h3 := rdI_N (row := row) (N := N) (p := p + 1 + rdI (tX row N) (p + 1) + 1) (by omega)
  rcases ifp_inl h with ⟨_, q⟩ | ⟨_, h⟩
  · omega
  rcases ifp_inl h with ⟨_, q⟩ | ⟨_, h⟩
  · omega
  cases h
theorem pmS_l {row : Nat → Int32} {N nD e : Nat} : ∀ {f s p : Nat}, pmS (tX row N) nD f s p = .inl e → p ≤ N → e ≤ N
  | 0, s, p, h, hp => by rw [pmS] at h; cases h; exact Nat.zero_le N
  | f + 1, s, p, h, hp => by
    have h1 := rdI_N (row := row) (N := N) (p := p) hp
    rw [pmS] at h
    rcases ifp_inl h with ⟨_, q⟩ | ⟨_, h⟩
    · omega
    rcases ifp_inl h with ⟨_, q⟩ | ⟨_, h⟩
    · omega
    rcases Classical.em (tX row N (p + rdI (tX row N) p) = 44) with z | z
    · rw [ifp_t z] at h
      have h2 := tX_lt (row := row) (N := N) (p := p + rdI (tX row N) p) (by rw [z]; decide)
      exact pmS_l h (by omega)
    · rw [ifp_f z] at h; cases h
theorem paS_l {row : Nat → Int32} {N e : Nat} : ∀ {f : Nat} {D : List (Nat × Nat)} {M : List Nat} {p it : Nat}, paS (tX row N) N f D M p it = .inl e → p ≤ N → e ≤ N
  | 0, D, M, p, it, h, hp => by rw [paS] at h; cases h; exact Nat.zero_le N
  | f + 1, D, M, p, it, h, hp => by
    rw [paS] at h
    rcases Classical.em (N ≤ p) with z | z
    · rw [ifp_t z] at h; cases h
    · rw [ifp_f z] at h
      rcases Classical.em (tX row N p = 99) with z1 | z1
      · rw [ifp_t z1] at h
        cases h3 : pcS (tX row N) D p with
        | inl e2 => rw [h3] at h; cases h; exact pcS_l h3 (by omega)
        | inr y =>
          obtain ⟨D8, q8⟩ := y
          rw [h3] at h
          have hb := pcS_b h3
          rcases Classical.em (tX row N q8 = 59) with w | w
          · simp only [ifp_t w] at h
            have h2 := tX_lt (row := row) (N := N) (p := q8) (by rw [w]; decide)
            exact paS_l h (by omega)
          · simp only [ifp_f w] at h; cases h; exact hb.1
      · rw [ifp_f z1] at h
        rcases Classical.em (tX row N p = 109) with z2 | z2
        · rw [ifp_t z2] at h
          cases h3 : pmT (tX row N) D.length M p with
          | inl e2 =>
            rw [h3] at h; cases h
            unfold pmT at h3
            rcases ifp_inl h3 with ⟨_, q⟩ | ⟨_, h3⟩
            · omega
            · exact pmS_l h3 (by omega)
          | inr y =>
            obtain ⟨s8, q8⟩ := y
            rw [h3] at h
            have hb := pmT_b h3
            rcases Classical.em (tX row N q8 = 59) with w | w
            · simp only [ifp_t w] at h
              have h2 := tX_lt (row := row) (N := N) (p := q8) (by rw [w]; decide)
              exact paS_l h (by omega)
            · simp only [ifp_f w] at h; cases h; exact hb.1
        · rw [ifp_f z2] at h; cases h; exact hp
/-- the state of the reading -/
def RIS (t : Nat → Int) (N it : Nat) (mj : MI) : Prop :=
  (∃ e : Nat, paS t N 122 [] [] 0 0 = .inl e ∧ (mj 58 4).toInt = (e : Int)) ∨
  (∃ (D : List (Nat × Nat)) (M : List Nat) (p f : Nat), paS t N 122 [] [] 0 0 = paS t N f D M p it ∧ f + it = 122 ∧ it ≤ p ∧ p ≤ N ∧ (mj 58 4).toInt = -1 ∧ (mj 58 2).toInt = (p : Int) ∧ DrC mj D ∧ DrM mj M ∧ mj 9 10 = 0)
theorem RIS_s {t : Nat → Int} {N it p f : Nat} {D : List (Nat × Nat)} {M : List Nat} {mj : MI} (hT : paS t N 122 [] [] 0 0 = paS t N f D M p it) (hf : f + it = 122) (hit : it < 120) (hp : it ≤ p) (h : ITO t N D M p mj) : RIS t N (it + 1) mj := by
  obtain ⟨g, rfl⟩ : ∃ g, f = g + 1 := ⟨f - 1, by omega⟩
  rcases h with ⟨e, h1, h2⟩ | ⟨D9, M9, q, h1, h2, h3, h4, h5, h6, h7, h8⟩
  · exact Or.inl ⟨e, hT.trans (h1 g it), h2⟩
  · exact Or.inr ⟨D9, M9, q, g, hT.trans (h1 g it), by omega, by omega, h5, h2, h3, h6, h7, h8⟩
theorem RIS_e {t : Nat → Int} {N it p f : Nat} {D : List (Nat × Nat)} {M : List Nat} (hT : paS t N 122 [] [] 0 0 = paS t N f D M p it) (hf : f + it = 122) (hit : it ≤ 120) (hp : N ≤ p) : paS t N 122 [] [] 0 0 = .inr (D, M, it) := by
  obtain ⟨g, rfl⟩ : ∃ g, f = g + 1 := ⟨f - 1, by omega⟩
  exact hT.trans (pa_0 hp)
set_option maxHeartbeats 1600000 in
set_option maxRecDepth 100000 in
theorem c_X4_readInto (l : Launch) (hfl : l.stackTraces = false) (mi : MI) (ml : MJ) (N : Nat) (hN : (mi 58 1).toInt = (N : Int)) (hN2 : N ≤ 120) (h95 : DrC mi []) (h98 : DrM mi []) (h910 : mi 9 10 = 0) : Ct l yX4_readInto (.code yX4_readInto cX4_readInto 3 (some .int)) 5 0 0 [.ref 58, .ref 9] (wl mi ml) (QI (fun r mi9 ml9 => ml = ml9 ∧ Fr [58, 9, 10, 11, 12] mi mi9 ∧ mi9 58 1 = mi 58 1 ∧ (∀ k, k ≠ 5 → k ≠ 8 → k ≠ 10 → mi9 9 k = mi 9 k) ∧ ((∃ e : Nat, paS (tX (mi 59) N) N 122 [] [] 0 0 = .inl e ∧ r.toInt = -10 - (e : Int)) ∨ (∃ (D : List (Nat × Nat)) (M : List Nat) (it : Nat), paS (tX (mi 59) N) N 122 [] [] 0 0 = .inr (D, M, it) ∧ r.toInt = (it : Int) ∧ DrC mi9 D ∧ DrM mi9 M ∧ mi9 9 10 = 0)))) noX := by
  refine Ct_of (ini := false) pn_X4 hfl (fun h => nomatch h) (Nat.le_of_ble_eq_true rfl) ?_
  show E l RX4 cX4_readInto 3 (some .int) false [] (rmE 5 0 0) (wl mi ml) (TgM (wl mi ml) 0 0 (QI (fun r mi9 ml9 => ml = ml9 ∧ Fr [58, 9, 10, 11, 12] mi mi9 ∧ mi9 58 1 = mi 58 1 ∧ (∀ k, k ≠ 5 → k ≠ 8 → k ≠ 10 → mi9 9 k = mi 9 k) ∧ ((∃ e : Nat, paS (tX (mi 59) N) N 122 [] [] 0 0 = .inl e ∧ r.toInt = -10 - (e : Int)) ∨ (∃ (D : List (Nat × Nat)) (M : List Nat) (it : Nat), paS (tX (mi 59) N) N 122 [] [] 0 0 = .inr (D, M, it) ∧ r.toInt = (it : Int) ∧ DrC mi9 D ∧ DrM mi9 M ∧ mi9 9 10 = 0)))) noX) 0 0 0 [(0, .ref 58), (1, .ref 9)] [] (wl mi ml)
  refine E_aload_n 0 dX4_readInto_0 rfl rfl ?_
  refine E_iconst 0 (by decide) dX4_readInto_1 ?_
  refine pf_X4_19 tw_58 rfl dX4_readInto_2 ?_
  refine E_aload_n 0 dX4_readInto_5 rfl rfl ?_
  refine E_iconst (-1) (by decide) dX4_readInto_6 ?_
  refine pf_X4_22 tw_58 rfl dX4_readInto_7 ?_
  refine E_iconst 0 (by decide) dX4_readInto_10 ?_
  refine E_istore_n [(2, .int 0), (0, .ref 58), (1, .ref 9)] dX4_readInto_11 rfl (by decide) rfl ?_
  have J12 : ∀ (Nm : Nat) (xi : Int32) (it : Nat) (mj : MI), 121 - it < Nm → xi.toInt = (it : Int) → it ≤ 120 → Fr [58, 9, 10, 11, 12] mi mj → mj 58 1 = mi 58 1 → (∀ k, k ≠ 5 → k ≠ 8 → k ≠ 10 → mj 9 k = mi 9 k) → RIS (tX (mi 59) N) N it mj → E l RX4 cX4_readInto 3 (some .int) false [] (rmE 5 0 0) (wl mi ml) (TgM (wl mi ml) 0 0 (QI (fun r mi9 ml9 => ml = ml9 ∧ Fr [58, 9, 10, 11, 12] mi mi9 ∧ mi9 58 1 = mi 58 1 ∧ (∀ k, k ≠ 5 → k ≠ 8 → k ≠ 10 → mi9 9 k = mi 9 k) ∧ ((∃ e : Nat, paS (tX (mi 59) N) N 122 [] [] 0 0 = .inl e ∧ r.toInt = -10 - (e : Int)) ∨ (∃ (D : List (Nat × Nat)) (M : List Nat) (it : Nat), paS (tX (mi 59) N) N 122 [] [] 0 0 = .inr (D, M, it) ∧ r.toInt = (it : Int) ∧ DrC mi9 D ∧ DrM mi9 M ∧ mi9 9 10 = 0)))) noX) 0 0 12 [(0, .ref 58), (1, .ref 9), (2, .int xi)] [] (wl mj ml) := by
    intro Nm
    induction Nm with
    | zero => intros; omega
    | succ Nm ih12 =>
      intro xi it mj hN12 hi hi120 hF h581 h9 hS
      rcases hS with ⟨e, hT, hS4⟩ | ⟨D, M, p, f, hT, hf, hip, hpN, hS4, hS2, hDc, hMd, h910⟩
      · skip
        refine E_iload_n 2 dX4_readInto_12 rfl rfl ?_
        refine E_bipush 120 (by decide) dX4_readInto_13 ?_
        refine Z_ge (it : Int) 120 hi (show (120 : Int32).toInt = 120 from rfl) 48 dX4_readInto_15 (by decide) (fun c_15 => ?_) (fun c_15 => ?_)
        · skip
          refine E_aload_n 0 dX4_readInto_48 rfl rfl ?_
          refine gf_X4_22 (mj 58 4) tw_58 rfl rfl dX4_readInto_49 ?_
          refine E_iconst (-1) (by decide) dX4_readInto_52 ?_
          refine Z_ne (e : Int) (-1) hS4 (show ((-1) : Int32).toInt = (-1) from rfl) 60 dX4_readInto_53 (by decide) (fun c_53 => ?_) (fun c_53 => ?_)
          · skip
            refine E_bipush (-10) (by decide) dX4_readInto_60 ?_
            refine E_aload_n 0 dX4_readInto_62 rfl rfl ?_
            refine gf_X4_22 (mj 58 4) tw_58 rfl rfl dX4_readInto_63 ?_
            refine E_isub dX4_readInto_66 ?_
            refine E_iret rfl (Nat.le_of_ble_eq_true rfl) (Nat.le_of_ble_eq_true rfl) dX4_readInto_67 ?_
            exact okQI ⟨rfl, hF, h581, h9, Or.inl ⟨e, hT, (tI_sub (show (-10 : Int32).toInt = -10 from rfl) hS4 (by have := paS_l hT (Nat.zero_le N); omega))⟩⟩
          · skip
            refine E_iload_n 2 dX4_readInto_56 rfl rfl ?_
            refine E_goto 67 dX4_readInto_57 (by decide) ?_
            refine E_iret rfl (Nat.le_of_ble_eq_true rfl) (Nat.le_of_ble_eq_true rfl) dX4_readInto_67 ?_
            exact absurd c_53 (by omega)
        · skip
          refine E_aload_n 0 dX4_readInto_18 rfl rfl ?_
          refine gf_X4_19 (mj 58 2) tw_58 rfl rfl dX4_readInto_19 ?_
          refine E_aload_n 0 dX4_readInto_22 rfl rfl ?_
          refine gf_X4_15 (mi 58 1) tw_58 rfl h581 dX4_readInto_23 ?_
          refine Z_ge ((mj 58 2).toInt) (N : Int) rfl hN 48 dX4_readInto_26 (by decide) (fun c_26 => ?_) (fun c_26 => ?_)
          · skip
            refine E_aload_n 0 dX4_readInto_48 rfl rfl ?_
            refine gf_X4_22 (mj 58 4) tw_58 rfl rfl dX4_readInto_49 ?_
            refine E_iconst (-1) (by decide) dX4_readInto_52 ?_
            refine Z_ne (e : Int) (-1) hS4 (show ((-1) : Int32).toInt = (-1) from rfl) 60 dX4_readInto_53 (by decide) (fun c_53 => ?_) (fun c_53 => ?_)
            · skip
              refine E_bipush (-10) (by decide) dX4_readInto_60 ?_
              refine E_aload_n 0 dX4_readInto_62 rfl rfl ?_
              refine gf_X4_22 (mj 58 4) tw_58 rfl rfl dX4_readInto_63 ?_
              refine E_isub dX4_readInto_66 ?_
              refine E_iret rfl (Nat.le_of_ble_eq_true rfl) (Nat.le_of_ble_eq_true rfl) dX4_readInto_67 ?_
              exact okQI ⟨rfl, hF, h581, h9, Or.inl ⟨e, hT, (tI_sub (show (-10 : Int32).toInt = -10 from rfl) hS4 (by have := paS_l hT (Nat.zero_le N); omega))⟩⟩
            · skip
              refine E_iload_n 2 dX4_readInto_56 rfl rfl ?_
              refine E_goto 67 dX4_readInto_57 (by decide) ?_
              refine E_iret rfl (Nat.le_of_ble_eq_true rfl) (Nat.le_of_ble_eq_true rfl) dX4_readInto_67 ?_
              exact absurd c_53 (by omega)
          · skip
            refine E_aload_n 0 dX4_readInto_29 rfl rfl ?_
            refine gf_X4_22 (mj 58 4) tw_58 rfl rfl dX4_readInto_30 ?_
            refine E_iconst (-1) (by decide) dX4_readInto_33 ?_
            refine Z_ne (e : Int) (-1) hS4 (show ((-1) : Int32).toInt = (-1) from rfl) 48 dX4_readInto_34 (by decide) (fun c_34 => ?_) (fun c_34 => ?_)
            · skip
              refine E_aload_n 0 dX4_readInto_48 rfl rfl ?_
              refine gf_X4_22 (mj 58 4) tw_58 rfl rfl dX4_readInto_49 ?_
              refine E_iconst (-1) (by decide) dX4_readInto_52 ?_
              refine Z_ne (e : Int) (-1) hS4 (show ((-1) : Int32).toInt = (-1) from rfl) 60 dX4_readInto_53 (by decide) (fun c_53 => ?_) (fun c_53 => ?_)
              · skip
                refine E_bipush (-10) (by decide) dX4_readInto_60 ?_
                refine E_aload_n 0 dX4_readInto_62 rfl rfl ?_
                refine gf_X4_22 (mj 58 4) tw_58 rfl rfl dX4_readInto_63 ?_
                refine E_isub dX4_readInto_66 ?_
                refine E_iret rfl (Nat.le_of_ble_eq_true rfl) (Nat.le_of_ble_eq_true rfl) dX4_readInto_67 ?_
                exact okQI ⟨rfl, hF, h581, h9, Or.inl ⟨e, hT, (tI_sub (show (-10 : Int32).toInt = -10 from rfl) hS4 (by have := paS_l hT (Nat.zero_le N); omega))⟩⟩
              · skip
                refine E_iload_n 2 dX4_readInto_56 rfl rfl ?_
                refine E_goto 67 dX4_readInto_57 (by decide) ?_
                refine E_iret rfl (Nat.le_of_ble_eq_true rfl) (Nat.le_of_ble_eq_true rfl) dX4_readInto_67 ?_
                exact absurd c_53 (by omega)
            · exact absurd c_34 (by omega)
      · skip
        refine E_iload_n 2 dX4_readInto_12 rfl rfl ?_
        refine E_bipush 120 (by decide) dX4_readInto_13 ?_
        refine Z_ge (it : Int) 120 hi (show (120 : Int32).toInt = 120 from rfl) 48 dX4_readInto_15 (by decide) (fun c_15 => ?_) (fun c_15 => ?_)
        · skip
          refine E_aload_n 0 dX4_readInto_48 rfl rfl ?_
          refine gf_X4_22 (mj 58 4) tw_58 rfl rfl dX4_readInto_49 ?_
          refine E_iconst (-1) (by decide) dX4_readInto_52 ?_
          refine Z_ne (-1) (-1) hS4 (show ((-1) : Int32).toInt = (-1) from rfl) 60 dX4_readInto_53 (by decide) (fun c_53 => ?_) (fun c_53 => ?_)
          · skip
            refine E_bipush (-10) (by decide) dX4_readInto_60 ?_
            refine E_aload_n 0 dX4_readInto_62 rfl rfl ?_
            refine gf_X4_22 (mj 58 4) tw_58 rfl rfl dX4_readInto_63 ?_
            refine E_isub dX4_readInto_66 ?_
            refine E_iret rfl (Nat.le_of_ble_eq_true rfl) (Nat.le_of_ble_eq_true rfl) dX4_readInto_67 ?_
            exact absurd rfl c_53
          · skip
            refine E_iload_n 2 dX4_readInto_56 rfl rfl ?_
            refine E_goto 67 dX4_readInto_57 (by decide) ?_
            refine E_iret rfl (Nat.le_of_ble_eq_true rfl) (Nat.le_of_ble_eq_true rfl) dX4_readInto_67 ?_
            exact okQI ⟨rfl, hF, h581, h9, Or.inr ⟨D, M, it, RIS_e hT hf hi120 (by omega), hi, hDc, hMd, h910⟩⟩
        · skip
          refine E_aload_n 0 dX4_readInto_18 rfl rfl ?_
          refine gf_X4_19 (mj 58 2) tw_58 rfl rfl dX4_readInto_19 ?_
          refine E_aload_n 0 dX4_readInto_22 rfl rfl ?_
          refine gf_X4_15 (mi 58 1) tw_58 rfl h581 dX4_readInto_23 ?_
          refine Z_ge (p : Int) (N : Int) hS2 hN 48 dX4_readInto_26 (by decide) (fun c_26 => ?_) (fun c_26 => ?_)
          · skip
            refine E_aload_n 0 dX4_readInto_48 rfl rfl ?_
            refine gf_X4_22 (mj 58 4) tw_58 rfl rfl dX4_readInto_49 ?_
            refine E_iconst (-1) (by decide) dX4_readInto_52 ?_
            refine Z_ne (-1) (-1) hS4 (show ((-1) : Int32).toInt = (-1) from rfl) 60 dX4_readInto_53 (by decide) (fun c_53 => ?_) (fun c_53 => ?_)
            · skip
              refine E_bipush (-10) (by decide) dX4_readInto_60 ?_
              refine E_aload_n 0 dX4_readInto_62 rfl rfl ?_
              refine gf_X4_22 (mj 58 4) tw_58 rfl rfl dX4_readInto_63 ?_
              refine E_isub dX4_readInto_66 ?_
              refine E_iret rfl (Nat.le_of_ble_eq_true rfl) (Nat.le_of_ble_eq_true rfl) dX4_readInto_67 ?_
              exact absurd rfl c_53
            · skip
              refine E_iload_n 2 dX4_readInto_56 rfl rfl ?_
              refine E_goto 67 dX4_readInto_57 (by decide) ?_
              refine E_iret rfl (Nat.le_of_ble_eq_true rfl) (Nat.le_of_ble_eq_true rfl) dX4_readInto_67 ?_
              exact okQI ⟨rfl, hF, h581, h9, Or.inr ⟨D, M, it, RIS_e hT hf hi120 (by omega), hi, hDc, hMd, h910⟩⟩
          · skip
            refine E_aload_n 0 dX4_readInto_29 rfl rfl ?_
            refine gf_X4_22 (mj 58 4) tw_58 rfl rfl dX4_readInto_30 ?_
            refine E_iconst (-1) (by decide) dX4_readInto_33 ?_
            refine Z_ne (-1) (-1) hS4 (show ((-1) : Int32).toInt = (-1) from rfl) 48 dX4_readInto_34 (by decide) (fun c_34 => ?_) (fun c_34 => ?_)
            · exact absurd rfl c_34
            · skip
              refine E_aload_n 0 dX4_readInto_37 rfl rfl ?_
              refine E_aload_n 1 dX4_readInto_38 rfl rfl ?_
              refine E_callV (c_X4_readItem l hfl mj ml N ((congrArg Int32.toInt h581).trans hN) hN2 D hDc p M hMd h910 hS2 (by omega) hS4) cw_X4_25 (As := [.ref 9]) (st := []) wi_yX4_readItem we_yX4_readItem (ci := 4) (q := (RX4, TX4, 5)) rfl rfl (wl_atO tw_58) rfl ⟨Nat.le_of_ble_eq_true rfl, Nat.le_of_ble_eq_true rfl, Nat.le_of_ble_eq_true rfl, Nat.le_of_ble_eq_true rfl⟩ (Nat.le_of_ble_eq_true rfl) dX4_readInto_39 (fun _ _ h => h) rfl (kV (fun mi_39 ml_39 h_39 => ?_))
              obtain ⟨rfl, hF_39, h1_39, h9_39, hI_39⟩ := h_39
              rw [show mj 59 = mi 59 from hF 59 (by decide)] at hI_39
              refine E_iinc 2 (xi + 1) [(2, .int (xi + 1)), (0, .ref 58), (1, .ref 9)] dX4_readInto_42 rfl rfl (by decide) rfl ?_
              refine E_goto 12 dX4_readInto_45 (by decide) ?_
              refine E_sub [1, 2, 0] rfl ?_
              exact ih12 (xi + 1) (it + 1) mi_39 (by omega) ((tI_add hi (show (1 : Int32).toInt = 1 from rfl) (by omega)).trans (by omega)) (by omega) (hF.trans hF_39 (fun _ h => h) (fun _ h => h)) (h1_39.trans h581) (fun k a b c => (h9_39 k a b c).trans (h9 k a b c)) (RIS_s hT hf (by omega) hip hI_39)
  refine E_sub [1, 2, 0] rfl ?_
  exact J12 _ 0 0 (u2 (u2 mi 58 2 0) 58 4 (-1)) (Nat.lt_succ_self _) (show (0 : Int32).toInt = 0 from rfl) (by omega) ((Fr_r.u (by decide)).u (by decide)) ((u2_n (by omega)).trans (u2_n (by omega))) (fun k _ _ _ => congrFun ((u2_p (by decide)).trans (u2_p (by decide))) k) (Or.inr ⟨[], [], 0, 122, rfl, rfl, Nat.le_refl 0, Nat.zero_le N, (congrArg Int32.toInt (u2_s _ _ _ _)).trans rfl, (congrArg Int32.toInt ((u2_n (by omega)).trans (u2_s _ _ _ _))).trans rfl, h95.c (congrFun ((u2_p (by decide)).trans (u2_p (by decide))) 5) ((u2_p (by decide)).trans (u2_p (by decide))) ((u2_p (by decide)).trans (u2_p (by decide))), h98.c (congrFun ((u2_p (by decide)).trans (u2_p (by decide))) 8) ((u2_p (by decide)).trans (u2_p (by decide))), (congrFun ((u2_p (by decide)).trans (u2_p (by decide))) 10).trans h910⟩)
end PL4
