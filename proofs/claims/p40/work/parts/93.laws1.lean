section LWS1
theorem sh_bit {x : Int64} {y : Int32} {c : Nat} (hy : y.toInt = (c : Int)) (hc : c < 64) : ((x >>> (y.toInt64 &&& 63)) &&& 1) = 0 ↔ lb x c = false := by rw [tI_nIx hy]; exact lb_bit hc x
theorem ca_f {V : Nat → Int32} {n i : Nat} {r : Int32} (h : (∃ b, b < n ∧ (i : Int) = (b : Int) ∧ ((False ∧ r = V (7 + 2 * b)) ∨ (¬ False ∧ r = V (6 + 2 * b)))) ∨ (¬ (0 ≤ (i : Int) ∧ (i : Int) < (n : Int)) ∧ r.toInt = -903)) (hi : i < n) : r = V (6 + 2 * i) := by
  rcases h with ⟨b, h1, h2, h3 | h3⟩ | ⟨h, _⟩
  · exact h3.1.elim
  · rw [show i = b by omega]; exact h3.2
  · omega
theorem ca_t {V : Nat → Int32} {n i : Nat} {r : Int32} (h : (∃ b, b < n ∧ (i : Int) = (b : Int) ∧ ((True ∧ r = V (7 + 2 * b)) ∨ (¬ True ∧ r = V (6 + 2 * b)))) ∨ (¬ (0 ≤ (i : Int) ∧ (i : Int) < (n : Int)) ∧ r.toInt = -903)) (hi : i < n) : r = V (7 + 2 * i) := by
  rcases h with ⟨b, h1, h2, h3 | h3⟩ | ⟨h, _⟩
  · rw [show i = b by omega]; exact h3.2
  · exact absurd trivial h3.1
  · omega
theorem mid_s {V : Nat → Int32} {i : Nat} (h : midV V i) (h1 : 26 < (V (6 + 2 * i)).toInt) (h2 : (V (6 + 2 * i)).toInt < 37) : midV V (i + 1) := fun j hj => by
  rcases Nat.lt_or_ge j i with q | q
  · exact h j q
  · obtain rfl : j = i := by omega
    exact ⟨h1, h2⟩
set_option maxHeartbeats 3200000 in
set_option maxRecDepth 100000 in
theorem z_low (l : Launch) (hfl : l.stackTraces = false) (mi : MI) (ml : MJ) (x y : Int32) (N : Int) (hy : y.toInt = N) (hN : 0 < N) : CtH l yL_low (.code yL_low cL_low 2 (some .int)) 1 0 0 [.int x, .int y] (wl mi ml) (QI (fun r mi9 ml9 => mi = mi9 ∧ ml = ml9 ∧ 0 ≤ r.toInt ∧ r.toInt < N)) noX := by
  refine CtZ_of pn_L hfl (Nat.le_of_ble_eq_true rfl) ?_
  show EZ (fun s _ => Nc2 s) l RL cL_low 2 (some .int) false [] (rmE 1 0 0) (wl mi ml) (TgM (wl mi ml) 0 0 (QI (fun r mi9 ml9 => mi = mi9 ∧ ml = ml9 ∧ 0 ≤ r.toInt ∧ r.toInt < N)) noX) 0 0 0 [(0, .int x), (1, .int y)] [] (wl mi ml)
  refine EZ_iload_n 0 dL_low_0 rfl rfl ?_
  refine EZ_ldc wk_L_8 dL_low_1 ?_
  refine EZ_iand dL_low_3 ?_
  refine EZ_iload_n 1 dL_low_4 rfl rfl ?_
  refine EZ_irem (fun e => by rw [e] at hy; have h9 : (0 : Int32).toInt = 0 := rfl; omega) dL_low_5 ?_
  refine EZ_iret rfl (by omega) (by omega) dL_low_6 ?_
  have h9 := rem_rng (m31_nn x) (show 0 < y.toInt by omega)
  exact okQI ⟨rfl, rfl, h9.1, by omega⟩
set_option maxHeartbeats 3200000 in
set_option maxRecDepth 100000 in
theorem z_many (l : Launch) (hfl : l.stackTraces = false) (mi : MI) (ml : MJ) (x : Int64) : CtH l yL_many (.code yL_many cL_many 5 (some .int)) 1 0 0 [.long x] (wl mi ml) (QI (fun r mi9 ml9 => mi = mi9 ∧ ml = ml9 ∧ r.toInt = (pcB x 64 : Int))) noX := by
  have hb := pcB_le x 64
  refine CtZ_of pn_L hfl (Nat.le_of_ble_eq_true rfl) ?_
  show EZ (fun s _ => Nc2 s) l RL cL_many 5 (some .int) false [] (rmE 1 0 0) (wl mi ml) (TgM (wl mi ml) 0 0 (QI (fun r mi9 ml9 => mi = mi9 ∧ ml = ml9 ∧ r.toInt = (pcB x 64 : Int))) noX) 0 0 0 [(0, .long x)] [] (wl mi ml)
  refine EZ_iconst 0 (by decide) dL_many_0 ?_
  refine EZ_istore_n [(2, .int 0), (0, .long x)] dL_many_1 rfl (by decide) rfl ?_
  refine EZ_lload_n 1 dL_many_2 rfl rfl ?_
  refine EZ_lstore_n [(3, .long x), (2, .int 0), (0, .long x)] dL_many_3 rfl (by decide) rfl ?_
  have J4 : ∀ (Nm : Nat) (xn : Int32) (xl : Int64), pcB xl 64 < Nm → xn.toInt + (pcB xl 64 : Int) = (pcB x 64 : Int) → 0 ≤ xn.toInt → EZ (fun s _ => Nc2 s) l RL cL_many 5 (some .int) false [] (rmE 1 0 0) (wl mi ml) (TgM (wl mi ml) 0 0 (QI (fun r mi9 ml9 => mi = mi9 ∧ ml = ml9 ∧ r.toInt = (pcB x 64 : Int))) noX) 0 0 4 [(0, .long x), (2, .int xn), (3, .long xl)] [] (wl mi ml) := by
    intro Nm
    induction Nm with
    | zero => intros; omega
    | succ Nm ih4 =>
      intro xn xl hN4 hn hn0
      refine EZ_lload_n 2 dL_many_4 rfl rfl ?_
      refine EZ_lconst 0 rfl dL_many_5 ?_
      refine EZ_lcmp dL_many_6 ?_
      refine YZ_eq ((lg_cmp xl 0).toInt) rfl 22 dL_many_7 (by decide) (fun c_7 => ?_) (fun c_7 => ?_)
      · skip
        refine EZ_iload_n 1 dL_many_22 rfl rfl ?_
        refine EZ_iret rfl (by omega) (by omega) dL_many_23 ?_
        rw [lg_0 c_7, pcB_0] at hn
        exact okQI ⟨rfl, rfl, by omega⟩
      · skip
        refine EZ_iinc 1 (xn + 1) [(2, .int (xn + 1)), (0, .long x), (3, .long xl)] dL_many_10 rfl rfl (by decide) rfl ?_
        refine EZ_lload_n 2 dL_many_13 rfl rfl ?_
        refine EZ_lload_n 2 dL_many_14 rfl rfl ?_
        refine EZ_lconst 1 rfl dL_many_15 ?_
        refine EZ_lsub dL_many_16 ?_
        refine EZ_land dL_many_17 ?_
        refine EZ_lstore_n [(3, .long (xl &&& (xl - 1))), (2, .int (xn + 1)), (0, .long x)] dL_many_18 rfl (by decide) rfl ?_
        refine EZ_goto 4 dL_many_19 (by decide) ?_
        refine EZ_sub [2, 1, 0] rfl ?_
        exact ih4 (xn + 1) (xl &&& (xl - 1)) (by have h9 := pcB_clear (lg_1 c_7); omega) (by have h9 := pcB_clear (lg_1 c_7); have h8 : (xn + 1).toInt = (xn.toInt + 1) := (tI_add rfl (show (1 : Int32).toInt = 1 from rfl) (by omega)); omega) (by have h8 : (xn + 1).toInt = (xn.toInt + 1) := (tI_add rfl (show (1 : Int32).toInt = 1 from rfl) (by omega)); omega)
  refine EZ_sub [2, 1, 0] rfl ?_
  exact J4 _ 0 x (Nat.lt_succ_self _) (by have h9 : (0 : Int32).toInt = 0 := rfl; omega) (by decide)
set_option maxHeartbeats 3200000 in
set_option maxRecDepth 100000 in
theorem z_highest (l : Launch) (hfl : l.stackTraces = false) (mi : MI) (ml : MJ) (x : Int64) : CtH l yL_highest (.code yL_highest cL_highest 3 (some .int)) 1 0 0 [.long x] (wl mi ml) (QI (fun r mi9 ml9 => mi = mi9 ∧ ml = ml9 ∧ hiB x r.toInt)) noX := by
  refine CtZ_of pn_L hfl (Nat.le_of_ble_eq_true rfl) ?_
  show EZ (fun s _ => Nc2 s) l RL cL_highest 3 (some .int) false [] (rmE 1 0 0) (wl mi ml) (TgM (wl mi ml) 0 0 (QI (fun r mi9 ml9 => mi = mi9 ∧ ml = ml9 ∧ hiB x r.toInt)) noX) 0 0 0 [(0, .long x)] [] (wl mi ml)
  refine EZ_bipush 63 (by decide) dL_highest_0 ?_
  refine EZ_istore_n [(2, .int 63), (0, .long x)] dL_highest_2 rfl (by decide) rfl ?_
  have J3 : ∀ (Nm : Nat) (xk : Int32) (j : Nat), j < Nm → xk.toInt = (j : Int) - 1 → j ≤ 64 → (∀ c, j ≤ c → c < 64 → lb x c = false) → EZ (fun s _ => Nc2 s) l RL cL_highest 3 (some .int) false [] (rmE 1 0 0) (wl mi ml) (TgM (wl mi ml) 0 0 (QI (fun r mi9 ml9 => mi = mi9 ∧ ml = ml9 ∧ hiB x r.toInt)) noX) 0 0 3 [(0, .long x), (2, .int xk)] [] (wl mi ml) := by
    intro Nm
    induction Nm with
    | zero => intros; omega
    | succ Nm ih3 =>
      intro xk j hN3 hk hj hc
      refine EZ_iload_n 1 dL_highest_3 rfl rfl ?_
      refine YZ_lt ((j : Int) - 1) hk 23 dL_highest_4 (by decide) (fun c_4 => ?_) (fun c_4 => ?_)
      · skip
        refine EZ_iload_n 1 dL_highest_23 rfl rfl ?_
        refine EZ_iret rfl (by omega) (by omega) dL_highest_24 ?_
        exact okQI ⟨rfl, rfl, Or.inl ⟨by omega, fun c h => hc c (by omega) h⟩⟩
      · skip
        refine EZ_lload_n 0 dL_highest_7 rfl rfl ?_
        refine EZ_iload_n 1 dL_highest_8 rfl rfl ?_
        refine EZ_lshr dL_highest_9 ?_
        refine EZ_lconst 1 rfl dL_highest_10 ?_
        refine EZ_land dL_highest_11 ?_
        refine EZ_lconst 0 rfl dL_highest_12 ?_
        refine EZ_lcmp dL_highest_13 ?_
        refine YZ_ne ((lg_cmp ((x >>> (xk.toInt64 &&& 63)) &&& 1) 0).toInt) rfl 23 dL_highest_14 (by decide) (fun c_14 => ?_) (fun c_14 => ?_)
        · skip
          refine EZ_iload_n 1 dL_highest_23 rfl rfl ?_
          refine EZ_iret rfl (by omega) (by omega) dL_highest_24 ?_
          obtain ⟨i, rfl⟩ : ∃ i, j = i + 1 := ⟨j - 1, by omega⟩
          have hb : lb x i = true := (Bool.eq_false_or_eq_true (lb x i)).elim id (fun q => absurd ((sh_bit (hk.trans (by omega)) (by omega)).mpr q) (lg_1 c_14))
          exact okQI ⟨rfl, rfl, Or.inr ⟨i, by omega, by omega, hb, fun c h1 h2 => hc c (by omega) h2⟩⟩
        · skip
          have hc9 : ∀ c, j - 1 ≤ c → c < 64 → lb x c = false := fun c h1 h2 => (Nat.lt_or_ge c j).elim (fun q => (sh_bit (hk.trans (by omega)) h2).mp (lg_0 c_14)) (fun q => hc c q h2)
          refine EZ_iinc 1 (xk + (-1)) [(2, .int (xk + (-1))), (0, .long x)] dL_highest_17 rfl rfl (by decide) rfl ?_
          refine EZ_goto 3 dL_highest_20 (by decide) ?_
          refine EZ_sub [1, 0] rfl ?_
          exact ih3 (xk + (-1)) (j - 1) (by omega) ((tI_add hk (show ((-1) : Int32).toInt = (-1) from rfl) (by omega)).trans (by omega)) (by omega) hc9
  refine EZ_sub [1, 0] rfl ?_
  exact J3 _ 63 64 (Nat.lt_succ_self _) (show (63 : Int32).toInt = 64 - 1 from rfl) (Nat.le_refl _) (fun c h1 h2 => by omega)
set_option maxHeartbeats 3200000 in
set_option maxRecDepth 100000 in
theorem z_edge (l : Launch) (hfl : l.stackTraces = false) {V : Nat → Int32} {H : List (Nat → Int32)} {mi : MI} {ml : MJ} (S : ST V H mi ml) : CtH l yL_edge (.code yL_edge cL_edge 3 (some .boolean)) 5 31 186 [.ref 0] (wl mi ml) (QI (fun r mi9 ml9 => ST V H mi9 ml9 ∧ r = bI (midV V (nV V)))) noX := by
  have wn := wf_n S.1
  have wm := wf_m S.1
  have wt := wf_t S.1
  refine CtZ_of pn_L hfl (Nat.le_of_ble_eq_true rfl) ?_
  show EZ (fun s _ => Nc2 s) l RL cL_edge 3 (some .boolean) false [] (rmE 5 31 186) (wl mi ml) (TgM (wl mi ml) 31 186 (QI (fun r mi9 ml9 => ST V H mi9 ml9 ∧ r = bI (midV V (nV V)))) noX) 0 0 0 [(0, .ref 0)] [] (wl mi ml)
  refine EZ_iconst 1 (by decide) dL_edge_0 ?_
  refine EZ_istore_n [(1, .int 1), (0, .ref 0)] dL_edge_1 rfl (by decide) rfl ?_
  refine EZ_iconst 0 (by decide) dL_edge_2 ?_
  refine EZ_istore_n [(2, .int 0), (1, .int 1), (0, .ref 0)] dL_edge_3 rfl (by decide) rfl ?_
  have J4 : ∀ (Nm : Nat) (mj : MI) (mlj : MJ) (xi xk : Int32) (i kk nn : Nat), 11 - i < Nm → ST V H mj mlj → xk.toInt = (i : Int) → i ≤ nV V → xi = bI (midV V i) → kk ≤ 3 * i → nn ≤ 18 * i → EZ (fun s _ => Nc2 s) l RL cL_edge 3 (some .boolean) false [] (rmE 5 31 186) (wl mi ml) (TgM (wl mi ml) 31 186 (QI (fun r mi9 ml9 => ST V H mi9 ml9 ∧ r = bI (midV V (nV V)))) noX) kk nn 4 [(0, .ref 0), (1, .int xi), (2, .int xk)] [] (wl mj mlj) := by
    intro Nm
    induction Nm with
    | zero => intros; omega
    | succ Nm ih4 =>
      intro mj mlj xi xk i kk nn hN4 S4 hk hi hb hkk hnn
      refine EZ_iload_n 2 dL_edge_4 rfl rfl ?_
      refine EZ_aload_n 0 dL_edge_5 rfl rfl ?_
      refine EZ_iconst 0 (by decide) dL_edge_6 ?_
      refine EZ_callH zn1 (k_size l hfl S4 0) cwH_101 (As := [.ref 0, .int 0]) (st := [.int xk]) rfl (rok (Nat.le_of_ble_eq_true rfl) (Nat.le_of_ble_eq_true rfl) (by omega) (by omega)) (Nat.le_of_ble_eq_true rfl) dL_edge_7 rfl (zkI (fun r_7 mi_7 ml_7 h_7 => ?_))
      obtain ⟨S_7, h_7⟩ := h_7
      (try rw [show (0 : Int32).toInt = 0 from (show (0 : Int32).toInt = 0 from rfl)] at h_7)
      have n_7 : r_7.toInt = (nV V : Int) := by omega
      refine ZZ_ge (i : Int) (nV V : Int) hk n_7 51 dL_edge_10 (by decide) (fun c_10 => ?_) (fun c_10 => ?_)
      · skip
        have e9 : i = nV V := by omega
        rw [e9] at hb
        refine EZ_iload_n 1 dL_edge_51 rfl rfl ?_
        refine EZ_zret rfl (by rw [hb]; exact nbI) (by omega) (by omega) dL_edge_52 ?_
        exact okQI ⟨S_7, hb⟩
      · skip
        refine EZ_iload_n 1 dL_edge_13 rfl rfl ?_
        refine YZ_eq xi.toInt rfl 43 dL_edge_14 (by decide) (fun c_14 => ?_) (fun c_14 => ?_)
        · skip
          refine EZ_iconst 0 (by decide) dL_edge_43 ?_
          refine EZ_istore_n [(1, .int 0), (0, .ref 0), (2, .int xk)] dL_edge_44 rfl (by decide) rfl ?_
          refine EZ_iinc 2 (xk + 1) [(2, .int (xk + 1)), (1, .int 0), (0, .ref 0)] dL_edge_45 rfl rfl (by decide) rfl ?_
          refine EZ_goto 4 dL_edge_48 (by decide) ?_
          refine EZ_sub [2, 1, 0] rfl ?_
          exact ih4 mi_7 ml_7 0 (xk + 1) (i + 1) _ _ (by omega) S_7 ((tI_add hk (show (1 : Int32).toInt = 1 from rfl) (by omega)).trans (by omega)) (by omega) (b0 (fun q => xB_f hb c_14 (fun j hj => q j (by omega)))) (by omega) (by omega)
        · skip
          refine EZ_aload_n 0 dL_edge_17 rfl rfl ?_
          refine EZ_iload_n 2 dL_edge_18 rfl rfl ?_
          refine EZ_iconst 0 (by decide) dL_edge_19 ?_
          refine EZ_callH zn1 (k_carrier l hfl S_7 xk 0 False (b0 not_false)) cwH_117 (As := [.ref 0, .int xk, .int 0]) (st := []) rfl (rok (Nat.le_of_ble_eq_true rfl) (Nat.le_of_ble_eq_true rfl) (by omega) (by omega)) (Nat.le_of_ble_eq_true rfl) dL_edge_20 rfl (zkI (fun r_20 mi_20 ml_20 h_20 => ?_))
          obtain ⟨S_20, h_20⟩ := h_20
          (try rw [show xk.toInt = (i : Int) from hk] at h_20)
          have n_20 := ca_f h_20 (by omega)
          refine EZ_bipush 26 (by decide) dL_edge_23 ?_
          refine ZZ_le r_20.toInt 26 rfl (show (26 : Int32).toInt = 26 from rfl) 43 dL_edge_25 (by decide) (fun c_25 => ?_) (fun c_25 => ?_)
          · skip
            refine EZ_iconst 0 (by decide) dL_edge_43 ?_
            refine EZ_istore_n [(1, .int 0), (0, .ref 0), (2, .int xk)] dL_edge_44 rfl (by decide) rfl ?_
            refine EZ_iinc 2 (xk + 1) [(2, .int (xk + 1)), (1, .int 0), (0, .ref 0)] dL_edge_45 rfl rfl (by decide) rfl ?_
            refine EZ_goto 4 dL_edge_48 (by decide) ?_
            refine EZ_sub [2, 1, 0] rfl ?_
            exact ih4 mi_20 ml_20 0 (xk + 1) (i + 1) _ _ (by omega) S_20 ((tI_add hk (show (1 : Int32).toInt = 1 from rfl) (by omega)).trans (by omega)) (by omega) (b0 (fun q => by have h9 := q i (by omega); rw [n_20] at c_25; omega)) (by omega) (by omega)
          · skip
            refine EZ_aload_n 0 dL_edge_28 rfl rfl ?_
            refine EZ_iload_n 2 dL_edge_29 rfl rfl ?_
            refine EZ_iconst 0 (by decide) dL_edge_30 ?_
            refine EZ_callH zn1 (k_carrier l hfl S_20 xk 0 False (b0 not_false)) cwH_117 (As := [.ref 0, .int xk, .int 0]) (st := []) rfl (rok (Nat.le_of_ble_eq_true rfl) (Nat.le_of_ble_eq_true rfl) (by omega) (by omega)) (Nat.le_of_ble_eq_true rfl) dL_edge_31 rfl (zkI (fun r_31 mi_31 ml_31 h_31 => ?_))
            obtain ⟨S_31, h_31⟩ := h_31
            (try rw [show xk.toInt = (i : Int) from hk] at h_31)
            have n_31 := ca_f h_31 (by omega)
            refine EZ_bipush 37 (by decide) dL_edge_34 ?_
            refine ZZ_ge r_31.toInt 37 rfl (show (37 : Int32).toInt = 37 from rfl) 43 dL_edge_36 (by decide) (fun c_36 => ?_) (fun c_36 => ?_)
            · skip
              refine EZ_iconst 0 (by decide) dL_edge_43 ?_
              refine EZ_istore_n [(1, .int 0), (0, .ref 0), (2, .int xk)] dL_edge_44 rfl (by decide) rfl ?_
              refine EZ_iinc 2 (xk + 1) [(2, .int (xk + 1)), (1, .int 0), (0, .ref 0)] dL_edge_45 rfl rfl (by decide) rfl ?_
              refine EZ_goto 4 dL_edge_48 (by decide) ?_
              refine EZ_sub [2, 1, 0] rfl ?_
              exact ih4 mi_31 ml_31 0 (xk + 1) (i + 1) _ _ (by omega) S_31 ((tI_add hk (show (1 : Int32).toInt = 1 from rfl) (by omega)).trans (by omega)) (by omega) (b0 (fun q => by have h9 := q i (by omega); rw [n_31] at c_36; omega)) (by omega) (by omega)
            · skip
              refine EZ_iconst 1 (by decide) dL_edge_39 ?_
              refine EZ_goto 44 dL_edge_40 (by decide) ?_
              refine EZ_istore_n [(1, .int 1), (0, .ref 0), (2, .int xk)] dL_edge_44 rfl (by decide) rfl ?_
              refine EZ_iinc 2 (xk + 1) [(2, .int (xk + 1)), (1, .int 1), (0, .ref 0)] dL_edge_45 rfl rfl (by decide) rfl ?_
              refine EZ_goto 4 dL_edge_48 (by decide) ?_
              refine EZ_sub [2, 1, 0] rfl ?_
              exact ih4 mi_31 ml_31 1 (xk + 1) (i + 1) _ _ (by omega) S_31 ((tI_add hk (show (1 : Int32).toInt = 1 from rfl) (by omega)).trans (by omega)) (by omega) (b1 (mid_s (xB_t hb c_14) (by rw [n_20] at c_25; omega) (by rw [n_31] at c_36; omega))) (by omega) (by omega)
  refine EZ_sub [2, 1, 0] rfl ?_
  exact J4 _ mi ml 1 0 0 0 0 (Nat.lt_succ_self _) S rfl (Nat.zero_le _) (b1 (fun j hj => absurd hj (Nat.not_lt_zero _))) (by omega) (by omega)
end LWS1
