section MO3
theorem keep_a {mi : MI} {sc : Nat} (hsc : (mi 61 2).toInt = (sc : Int)) (h : sc < 4) : ∀ mf, (Fr [61, 63] mi mf ∧ (∀ k, k ≠ 2 → mf 61 k = mi 61 k) ∧ (mf 61 2).toInt = (sc : Int) + 1 ∧ (∀ k, k < 81 → mf 63 (81 * sc + k) = mi 62 k) ∧ ∀ q, q < 81 * sc → mf 63 q = mi 63 q) → Kept mi mf := by
  intro mf ⟨a1, a2, a3, a4, a5⟩
  refine ⟨a1, a2, sc, sc + 1, hsc, by omega, by omega, Or.inl ⟨h, rfl, fun i k hi hk => a5 _ (by omega)⟩, fun k hk => ?_⟩
  rw [show sc + 1 - 1 = sc by omega]
  exact a4 k hk
theorem keep_b {mi mj : MI} {sc i : Nat} {x : Int32} (hsc : (mi 61 2).toInt = (sc : Int)) (h4 : (sc : Int) = 4) (hF : Fr [63] mi mj) (h2 : ∀ k, k < i → mj 63 k = mi 63 (k + 81)) (h3 : ∀ q, i ≤ q → mj 63 q = mi 63 q) (hi : 243 ≤ i) : ∀ mf, (Fr [61, 63] (u2 mj 61 2 x) mf ∧ (∀ k, k ≠ 2 → mf 61 k = (u2 mj 61 2 x) 61 k) ∧ (mf 61 2).toInt = (3 : Int) + 1 ∧ (∀ k, k < 81 → mf 63 (81 * 3 + k) = (u2 mj 61 2 x) 62 k) ∧ ∀ q, q < 81 * 3 → mf 63 q = (u2 mj 61 2 x) 63 q) → Kept mi mf := by
  intro mf ⟨a1, a2, a3, a4, a5⟩
  refine ⟨fun p hp => ?_, fun k hk => ?_, sc, 4, hsc, by omega, by omega, Or.inr ⟨by omega, rfl, fun i k hi hk => ?_⟩, fun k hk => ?_⟩
  · rw [a1 p hp, u2_p (fun e => hp (by rw [e]; decide)), hF p (fun q => hp (by simp at q; simp [q]))]
  · rw [a2 k hk, u2_n (Or.inr hk), hF 61 (by decide)]
  · rw [a5 _ (by omega), u2_n (by omega), h2 _ (by omega)]
    congr 1
    omega
  · rw [a4 k hk, u2_p (by decide), hF 62 (by decide)]
set_option maxHeartbeats 1600000 in
set_option maxRecDepth 100000 in
theorem c_X6_keep (l : Launch) (hfl : l.stackTraces = false) (mi : MI) (ml : MJ) (sc : Nat) (hsc : (mi 61 2).toInt = (sc : Int)) (h4 : sc ≤ 4) : Ct l yX6_keep (.code yX6_keep cX6_keep 2 none) 0 0 0 [.ref 61] (wl mi ml) (QV (fun mi9 ml9 => Kept mi mi9 ∧ ml = ml9)) noX := by
  refine Ct_of (ini := false) pn_X6 hfl (fun h => nomatch h) (Nat.le_of_ble_eq_true rfl) ?_
  show E l RX6 cX6_keep 2 none false [] (rmE 0 0 0) (wl mi ml) (TgM (wl mi ml) 0 0 (QV (fun mi9 ml9 => Kept mi mi9 ∧ ml = ml9)) noX) 0 0 0 [(0, .ref 61)] [] (wl mi ml)
  have J50 : ∀ (N : Nat) (xi : Int32) (i : Nat) (mi1 mj : MI) (s : Nat), 81 - i < N → xi.toInt = (i : Int) → i ≤ 81 → (mi1 61 2).toInt = (s : Int) → s ≤ 3 → Fr [63] mi1 mj → (∀ k, k < i → mj 63 (81 * s + k) = mi1 62 k) → (∀ q, q < 81 * s → mj 63 q = mi1 63 q) → (∀ mf, (Fr [61, 63] mi1 mf ∧ (∀ k, k ≠ 2 → mf 61 k = mi1 61 k) ∧ (mf 61 2).toInt = (s : Int) + 1 ∧ (∀ k, k < 81 → mf 63 (81 * s + k) = mi1 62 k) ∧ ∀ q, q < 81 * s → mf 63 q = mi1 63 q) → Kept mi mf) → E l RX6 cX6_keep 2 none false [] (rmE 0 0 0) (wl mi ml) (TgM (wl mi ml) 0 0 (QV (fun mi9 ml9 => Kept mi mi9 ∧ ml = ml9)) noX) 0 0 50 [(0, .ref 61), (1, .int xi)] [] (wl mj ml) := by
    intro N
    induction N with
    | zero => intros; omega
    | succ N ih50 =>
      intro xi i mi1 mj s hN50 hxi hi hs hs3 hF h2 h3 HK
      have hs2 : (mj 61 2).toInt = (s : Int) := by rw [hF 61 (by decide)]; exact hs
      refine E_iload_n 1 dX6_keep_50 rfl rfl ?_
      refine E_bipush 81 (by decide) dX6_keep_51 ?_
      refine Z_ge (i : Int) 81 hxi (show (81 : Int32).toInt = 81 from rfl) 82 dX6_keep_53 (by decide) (fun c_53 => ?_) (fun c_53 => ?_)
      · skip
        refine E_aload_n 0 dX6_keep_82 rfl rfl ?_
        refine E_dup rfl dX6_keep_83 ?_
        refine gf_X6_47 (mj 61 2) tw_61 rfl rfl dX6_keep_84 ?_
        refine E_iconst 1 (by decide) dX6_keep_87 ?_
        refine E_iadd dX6_keep_88 ?_
        refine pf_X6_47 tw_61 rfl dX6_keep_89 ?_
        refine E_vret rfl (Nat.le_of_ble_eq_true rfl) (Nat.le_of_ble_eq_true rfl) dX6_keep_92 ?_
        exact okQV ⟨HK _ ⟨Fr.u (fun p hp => hF p (fun q => hp (by simp at q; simp [q]))) (by decide), fun k hk => (u2_n (by omega)).trans (by rw [hF 61 (by decide)]), (congrArg Int32.toInt (u2_s _ _ _ _)).trans (tI_add hs2 (show (1 : Int32).toInt = 1 from rfl) (by omega)), fun k hk => (u2_n (by omega)).trans (h2 k (by omega)), fun q hq => (u2_n (by omega)).trans (h3 q hq)⟩, rfl⟩
      · skip
        refine E_aload_n 0 dX6_keep_56 rfl rfl ?_
        refine gf_X6_13 tw_61 rfl dX6_keep_57 ?_
        refine E_bipush 81 (by decide) dX6_keep_60 ?_
        refine E_aload_n 0 dX6_keep_62 rfl rfl ?_
        refine gf_X6_47 (mj 61 2) tw_61 rfl rfl dX6_keep_63 ?_
        refine E_imul dX6_keep_66 ?_
        refine E_iload_n 1 dX6_keep_67 rfl rfl ?_
        refine E_iadd dX6_keep_68 ?_
        refine E_aload_n 0 dX6_keep_69 rfl rfl ?_
        refine gf_X6_7 tw_61 rfl dX6_keep_70 ?_
        refine E_iload_n 1 dX6_keep_73 rfl rfl ?_
        refine S_iald i (mj 62 i) tw_62 (hxi.trans (by omega)) (by omega) rfl dX6_keep_74 ?_
        refine S_iast ((81 * s) + i) tw_63 ((tI_add (tI_mul (show (81 : Int32).toInt = 81 from rfl) hs2 (by omega)) hxi (by omega)).trans (by omega)) (by omega) dX6_keep_75 ?_
        refine E_iinc 1 (xi + 1) [(1, .int (xi + 1)), (0, .ref 61)] dX6_keep_76 rfl rfl (by decide) rfl ?_
        refine E_goto 50 dX6_keep_79 (by decide) ?_
        refine E_sub [1, 0] rfl ?_
        exact ih50 (xi + 1) (i + 1) mi1 (u2 mj 63 ((81 * s) + i) (mj 62 i)) s (by omega) ((tI_add hxi (show (1 : Int32).toInt = 1 from rfl) (by omega)).trans (by omega)) (by omega) hs hs3 (hF.u (by decide)) (lt_s (fun k hk => (u2_n (by omega)).trans (h2 k hk)) ((u2_s _ _ _ _).trans (by rw [hF 62 (by decide)]))) (fun q hq => (u2_n (by omega)).trans (h3 q hq)) HK
  refine E_aload_n 0 dX6_keep_0 rfl rfl ?_
  refine gf_X6_47 (mi 61 2) tw_61 rfl rfl dX6_keep_1 ?_
  refine E_iconst 4 (by decide) dX6_keep_4 ?_
  refine Z_ne (sc : Int) 4 hsc (show (4 : Int32).toInt = 4 from rfl) 48 dX6_keep_5 (by decide) (fun c_5 => ?_) (fun c_5 => ?_)
  · skip
    refine E_iconst 0 (by decide) dX6_keep_48 ?_
    refine E_istore_n [(1, .int 0), (0, .ref 61)] dX6_keep_49 rfl (by decide) rfl ?_
    refine E_sub [1, 0] rfl ?_
    exact J50 _ 0 0 mi mi sc (Nat.lt_succ_self _) (show (0 : Int32).toInt = 0 from rfl) (by omega) hsc (by omega) Fr.rfl' (fun k h => absurd h (Nat.not_lt_zero k)) (fun q _ => rfl) (keep_a hsc (by omega))
  · skip
    refine E_iconst 0 (by decide) dX6_keep_8 ?_
    refine E_istore_n [(1, .int 0), (0, .ref 61)] dX6_keep_9 rfl (by decide) rfl ?_
    have J10 : ∀ (N : Nat) (xi : Int32) (i : Nat) (mj : MI), 243 - i < N → xi.toInt = (i : Int) → i ≤ 243 → Fr [63] mi mj → (∀ k, k < i → mj 63 k = mi 63 (k + 81)) → (∀ q, i ≤ q → mj 63 q = mi 63 q) → E l RX6 cX6_keep 2 none false [] (rmE 0 0 0) (wl mi ml) (TgM (wl mi ml) 0 0 (QV (fun mi9 ml9 => Kept mi mi9 ∧ ml = ml9)) noX) 0 0 10 [(0, .ref 61), (1, .int xi)] [] (wl mj ml) := by
      intro N
      induction N with
      | zero => intros; omega
      | succ N ih10 =>
        intro xi i mj hN10 hxi hi hFj hj2 hj3
        have hsj : (mj 61 2).toInt = (sc : Int) := by rw [hFj 61 (by decide)]; exact hsc
        refine E_iload_n 1 dX6_keep_10 rfl rfl ?_
        refine E_sipush 243 (by decide) dX6_keep_11 ?_
        refine Z_ge (i : Int) 243 hxi (show (243 : Int32).toInt = 243 from rfl) 38 dX6_keep_14 (by decide) (fun c_14 => ?_) (fun c_14 => ?_)
        · skip
          refine E_aload_n 0 dX6_keep_38 rfl rfl ?_
          refine E_dup rfl dX6_keep_39 ?_
          refine gf_X6_47 (mj 61 2) tw_61 rfl rfl dX6_keep_40 ?_
          refine E_iconst 1 (by decide) dX6_keep_43 ?_
          refine E_isub dX6_keep_44 ?_
          refine pf_X6_47 tw_61 rfl dX6_keep_45 ?_
          refine E_iconst 0 (by decide) dX6_keep_48 ?_
          refine E_istore_n [(1, .int 0), (0, .ref 61)] dX6_keep_49 rfl (by decide) rfl ?_
          refine E_sub [1, 0] rfl ?_
          exact J50 _ 0 0 (u2 mj 61 2 ((mj 61 2) - 1)) (u2 mj 61 2 ((mj 61 2) - 1)) 3 (Nat.lt_succ_self _) (show (0 : Int32).toInt = 0 from rfl) (by omega) ((congrArg Int32.toInt (u2_s _ _ _ _)).trans ((tI_sub hsj (show (1 : Int32).toInt = 1 from rfl) (by omega)).trans (by omega))) (by omega) Fr.rfl' (fun k h => absurd h (Nat.not_lt_zero k)) (fun q _ => rfl) (keep_b hsc c_5 hFj hj2 hj3 (by omega))
        · skip
          refine E_aload_n 0 dX6_keep_17 rfl rfl ?_
          refine gf_X6_13 tw_61 rfl dX6_keep_18 ?_
          refine E_iload_n 1 dX6_keep_21 rfl rfl ?_
          refine E_aload_n 0 dX6_keep_22 rfl rfl ?_
          refine gf_X6_13 tw_61 rfl dX6_keep_23 ?_
          refine E_iload_n 1 dX6_keep_26 rfl rfl ?_
          refine E_bipush 81 (by decide) dX6_keep_27 ?_
          refine E_iadd dX6_keep_29 ?_
          refine S_iald (i + 81) (mj 63 (i + 81)) tw_63 ((tI_add hxi (show (81 : Int32).toInt = 81 from rfl) (by omega)).trans (by omega)) (by omega) rfl dX6_keep_30 ?_
          refine S_iast i tw_63 hxi (by omega) dX6_keep_31 ?_
          refine E_iinc 1 (xi + 1) [(1, .int (xi + 1)), (0, .ref 61)] dX6_keep_32 rfl rfl (by decide) rfl ?_
          refine E_goto 10 dX6_keep_35 (by decide) ?_
          refine E_sub [1, 0] rfl ?_
          exact ih10 (xi + 1) (i + 1) (u2 mj 63 i (mj 63 (i + 81))) (by omega) ((tI_add hxi (show (1 : Int32).toInt = 1 from rfl) (by omega)).trans (by omega)) (by omega) (hFj.u (by decide)) (lt_s (fun k hk => (u2_n (by omega)).trans (hj2 k hk)) ((u2_s _ _ _ _).trans (hj3 _ (by omega)))) (fun q hq => (u2_n (by omega)).trans (hj3 q (by omega)))
    refine E_sub [1, 0] rfl ?_
    exact J10 _ 0 0 mi (Nat.lt_succ_self _) (show (0 : Int32).toInt = 0 from rfl) (by omega) Fr.rfl' (fun k h => absurd h (Nat.not_lt_zero k)) (fun q _ => rfl)
end MO3
