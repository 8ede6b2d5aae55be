section MO22
theorem nx_or (a b : Nat) : nI a ||| nI b = nI (a ||| b) := by
  apply Int32.toBitVec_inj.mp
  rw [Int32.toBitVec_or]
  show BitVec.ofNat 32 a ||| BitVec.ofNat 32 b = BitVec.ofNat 32 (a ||| b)
  apply BitVec.eq_of_getLsbD_eq
  intro i hi
  rw [BitVec.getLsbD_or, BitVec.getLsbD_ofNat, BitVec.getLsbD_ofNat, BitVec.getLsbD_ofNat, Nat.testBit_or]
  cases decide (i < 32) <;> simp
theorem pw_10 : ∀ k, k < 11 → ((1 : Int32) <<< (nI k &&& 31)) = nI (2 ^ k) := by decide +kernel
theorem or_pw {x y : Int32} {s k : Nat} (hx : x.toInt = (s : Int)) (hy : y.toInt = (k : Int)) (hk : k < 11) : (x ||| ((1 : Int32) <<< (y &&& 31))) = nI (s ||| 2 ^ k) := by rw [tI_nIx hx, tI_nIx hy, pw_10 k hk, nx_or]
theorem or_lt {s k : Nat} (hs : s < 1024) (hk : k < 10) : s ||| 2 ^ k < 1024 := Nat.or_lt_two_pow (n := 10) hs (Nat.pow_lt_pow_right (by omega) hk)
/-- a mixer's carriers, from the number at p on -/
noncomputable def pmS (t : Nat → Int) (nD : Nat) : Nat → Nat → Nat → Sum Nat (Nat × Nat)
  | 0, _, _ => .inl 0
  | f + 1, s, p => ifp (¬ rdO t p) (.inl (p + rdI t p)) (ifp (nD ≤ rdV t p (rdI t p) ∨ s.testBit (rdV t p (rdI t p)) = true) (.inl p) (ifp (t (p + rdI t p) = 44) (pmS t nD f (s ||| 2 ^ rdV t p (rdI t p)) (p + rdI t p + 1)) (.inr (s ||| 2 ^ rdV t p (rdI t p), p + rdI t p))))
theorem pm_1 {t : Nat → Int} {nD f s p q : Nat} (hq : q = p + rdI t p) (h : ¬ rdO t p) : pmS t nD (f + 1) s p = .inl q := by rw [pmS, ifp_t h, ← hq]
theorem pm_2 {t : Nat → Int} {nD f s p v : Nat} (hv : v = rdV t p (rdI t p)) (h : rdO t p) (h2 : nD ≤ v ∨ s.testBit v = true) : pmS t nD (f + 1) s p = .inl p := by rw [pmS, ifp_f (fun z => z h), ← hv, ifp_t h2]
theorem pm_3 {t : Nat → Int} {nD f s p q v : Nat} (hq : q = p + rdI t p) (hv : v = rdV t p (rdI t p)) (h : rdO t p) (h2 : ¬ (nD ≤ v ∨ s.testBit v = true)) (h3 : t q = 44) : pmS t nD (f + 1) s p = pmS t nD f (s ||| 2 ^ v) (q + 1) := by rw [pmS, ifp_f (fun z => z h), ← hv, ifp_f h2, ← hq, ifp_t h3]
theorem pm_4 {t : Nat → Int} {nD f s p q v : Nat} (hq : q = p + rdI t p) (hv : v = rdV t p (rdI t p)) (h : rdO t p) (h2 : ¬ (nD ≤ v ∨ s.testBit v = true)) (h3 : t q ≠ 44) : pmS t nD (f + 1) s p = .inr (s ||| 2 ^ v, q) := by rw [pmS, ifp_f (fun z => z h), ← hv, ifp_f h2, ← hq, ifp_f h3]
noncomputable def pmT (t : Nat → Int) (nD : Nat) (M : List Nat) (p : Nat) : Sum Nat (Nat × Nat) := ifp (M.length = 5) (.inl p) (pmS t nD 122 0 (p + 1))
def drX (mi : MI) (M : List Nat) : Prop := ∀ k s : Nat, M[k]? = some s → (mi 72 k).toInt = (s : Int)
theorem drX_add {mi mj : MI} {M : List Nat} {s mc : Nat} {v : Int32} (h : drX mi M) (hm : M.length = mc) (hv : v.toInt = (s : Int)) (e : mj 72 = (u2 mi 72 mc v) 72) : drX mj (M ++ [s]) := by
  subst hm
  intro k x hx
  rw [e]
  rcases Nat.lt_or_ge k M.length with hl | hl
  · rw [List.getElem?_append_left hl] at hx
    rw [u2_n (by omega)]
    exact h k x hx
  · rw [List.getElem?_append_right hl] at hx
    have h1 : k - M.length < 1 := (List.getElem?_eq_some_iff.mp hx).1
    have h2 : k = M.length := by omega
    subst h2
    rw [Nat.sub_self] at hx
    cases hx
    rw [u2_s]; exact hv
theorem rdO_p {t : Nat → Int} {p q : Nat} (h : rdO t p) (hq : q = p + rdI t p) : p < q := by have := h.1; omega
theorem u2_r {m : MI} {p k : Nat} {v : Int32} {r : Nat → Int32} (h : m p = r) : (u2 m p k v) p = (fun j => if j = k then v else r j) := by
  funext j
  rcases Nat.decEq j k with q | q
  · rw [u2_n (Or.inr q), if_neg q, h]
  · subst q; rw [u2_s, if_pos rfl]
set_option maxHeartbeats 1600000 in
set_option maxRecDepth 100000 in
theorem c_X6_readMixer (l : Launch) (hfl : l.stackTraces = false) (mi : MI) (ml : MJ) (N p : Nat) (hN : (mi 61 4).toInt = (N : Int)) (hN2 : N ≤ 120) (hp : (mi 61 15).toInt = (p : Int)) (hp2 : p < N) (M : List Nat) (dc mc : Nat) (hdc2 : (mi 61 18).toInt = (dc : Int)) (h10 : dc ≤ 10) (hM : M.length = mc) (hmc2 : (mi 61 20).toInt = (mc : Int)) (hm5 : mc ≤ 5) (hD : drX mi M) : Ct l yX6_readMixer (.code yX6_readMixer cX6_readMixer 3 (some .boolean)) 3 0 0 [.ref 61] (wl mi ml) (QI (fun r mi9 ml9 => ml = ml9 ∧ Fr [61, 72] mi mi9 ∧ KF [15, 16, 20, 21] mi mi9 ∧ ((∃ e : Nat, pmT (tX (mi 64) N) dc M p = Sum.inl e ∧ r = 0 ∧ (mi9 61 15).toInt = (e : Int)) ∨ (∃ (s q : Nat), pmT (tX (mi 64) N) dc M p = Sum.inr (s, q) ∧ r = 1 ∧ (mi9 61 15).toInt = (q : Int) ∧ (mi9 61 20).toInt = ((mc + 1 : Nat) : Int) ∧ drX mi9 (M ++ [s]))))) noX := by
  refine Ct_of (ini := false) pn_X6 hfl (fun h => nomatch h) (Nat.le_of_ble_eq_true rfl) ?_
  show E l RX6 cX6_readMixer 3 (some .boolean) false [] (rmE 3 0 0) (wl mi ml) (TgM (wl mi ml) 0 0 (QI (fun r mi9 ml9 => ml = ml9 ∧ Fr [61, 72] mi mi9 ∧ KF [15, 16, 20, 21] mi mi9 ∧ ((∃ e : Nat, pmT (tX (mi 64) N) dc M p = Sum.inl e ∧ r = 0 ∧ (mi9 61 15).toInt = (e : Int)) ∨ (∃ (s q : Nat), pmT (tX (mi 64) N) dc M p = Sum.inr (s, q) ∧ r = 1 ∧ (mi9 61 15).toInt = (q : Int) ∧ (mi9 61 20).toInt = ((mc + 1 : Nat) : Int) ∧ drX mi9 (M ++ [s]))))) noX) 0 0 0 [(0, .ref 61)] [] (wl mi ml)
  refine E_aload_n 0 dX6_readMixer_0 rfl rfl ?_
  refine gf_X6_203 (mi 61 20) tw_61 rfl rfl dX6_readMixer_1 ?_
  refine E_iconst 5 (by decide) dX6_readMixer_4 ?_
  refine Z_ne (mc : Int) 5 hmc2 (show (5 : Int32).toInt = 5 from rfl) 10 dX6_readMixer_5 (by decide) (fun c_5 => ?_) (fun c_5 => ?_)
  · skip
    have hpt : pmT (tX (mi 64) N) dc M p = pmS (tX (mi 64) N) dc 122 0 (p + 1) := by unfold pmT; rw [ifp_f (by omega)]
    refine E_iconst 0 (by decide) dX6_readMixer_10 ?_
    refine E_istore_n [(1, .int 0), (0, .ref 61)] dX6_readMixer_11 rfl (by decide) rfl ?_
    refine E_iconst 1 (by decide) dX6_readMixer_12 ?_
    refine E_istore_n [(2, .int 1), (1, .int 0), (0, .ref 61)] dX6_readMixer_13 rfl (by decide) rfl ?_
    refine E_iload_n 0 dX6_readMixer_14 rfl rfl ?_
    refine Y_eq 1 (show (1 : Int32).toInt = 1 from rfl) 98 dX6_readMixer_15 (by decide) (fun c_15 => ?_) (fun c_15 => ?_)
    · exact absurd c_15 (by decide)
    · skip
      have J18 : ∀ (Nm : Nat) (xs : Int32) (s f pp : Nat) (mj : MI), f < Nm → xs.toInt = (s : Int) → s < 1024 → (mj 61 15).toInt = (pp : Int) → pp < N → 122 ≤ f + pp → pmS (tX (mi 64) N) dc f s (pp + 1) = pmS (tX (mi 64) N) dc 122 0 (p + 1) → Fr [61] mi mj → KF [15, 16, 21] mi mj → E l RX6 cX6_readMixer 3 (some .boolean) false [] (rmE 3 0 0) (wl mi ml) (TgM (wl mi ml) 0 0 (QI (fun r mi9 ml9 => ml = ml9 ∧ Fr [61, 72] mi mi9 ∧ KF [15, 16, 20, 21] mi mi9 ∧ ((∃ e : Nat, pmT (tX (mi 64) N) dc M p = Sum.inl e ∧ r = 0 ∧ (mi9 61 15).toInt = (e : Int)) ∨ (∃ (s q : Nat), pmT (tX (mi 64) N) dc M p = Sum.inr (s, q) ∧ r = 1 ∧ (mi9 61 15).toInt = (q : Int) ∧ (mi9 61 20).toInt = ((mc + 1 : Nat) : Int) ∧ drX mi9 (M ++ [s]))))) noX) 0 0 18 [(0, .ref 61), (1, .int xs)] [] (wl mj ml) := by
        intro Nm
        induction Nm with
        | zero => intros; omega
        | succ Nm ih18 =>
          intro xs s f pp mj hN18 hxs hs hpp hpN hf hT hF hK
          obtain ⟨g, hg⟩ : ∃ g, f = g + 1 := ⟨f - 1, by omega⟩
          subst hg
          have hj4 : (mj 61 4).toInt = (N : Int) := by rw [hK 4 (by decide)]; exact hN
          have hj18 : (mj 61 18).toInt = (dc : Int) := by rw [hK 18 (by decide)]; exact hdc2
          have hj20 : (mj 61 20).toInt = (mc : Int) := by rw [hK 20 (by decide)]; exact hmc2
          refine E_aload_n 0 dX6_readMixer_18 rfl rfl ?_
          refine E_dup rfl dX6_readMixer_19 ?_
          refine gf_X6_177 (mj 61 15) tw_61 rfl rfl dX6_readMixer_20 ?_
          refine E_iconst 1 (by decide) dX6_readMixer_23 ?_
          refine E_iadd dX6_readMixer_24 ?_
          refine pf_X6_177 tw_61 rfl dX6_readMixer_25 ?_
          refine E_aload_n 0 dX6_readMixer_28 rfl rfl ?_
          refine E_callV (c_X6_readNumber l hfl (u2 mj 61 15 ((mj 61 15) + 1)) ml N (pp + 1) ((congrArg Int32.toInt ((u2_n (by omega)).trans rfl)).trans hj4) (by omega) (((congrArg Int32.toInt (u2_s _ _ _ _)).trans (tI_add hpp (show (1 : Int32).toInt = 1 from rfl) (by omega))).trans (by omega)) (by omega)) cw_X6_192 (As := []) (st := []) wi_yX6_readNumber we_yX6_readNumber (ci := 6) (q := (RX6, TX6, 23)) rfl rfl (wl_atO tw_61) rfl ⟨Nat.le_of_ble_eq_true rfl, Nat.le_of_ble_eq_true rfl, Nat.le_of_ble_eq_true rfl, Nat.le_of_ble_eq_true rfl⟩ (Nat.le_of_ble_eq_true rfl) dX6_readMixer_29 (fun _ _ h => h) rfl (kI (fun r_29 mi_29 ml_29 h_29 => ?_))
          obtain ⟨hl9_29, hFr_29, hK_29, h15_29, h16_29, h21_29, hr_29⟩ := h_29
          subst hl9_29
          rw [show (u2 mj 61 15 ((mj 61 15) + 1)) 64 = mi 64 from ((u2_p (by decide)).trans (hF 64 (by decide)))] at h15_29 h16_29 hr_29
          subst hr_29
          obtain ⟨q_29, hq_29⟩ : ∃ q : Nat, q = (pp + 1) + rdI (tX (mi 64) N) (pp + 1) := ⟨_, rfl⟩
          obtain ⟨v_29, hv_29⟩ : ∃ v : Nat, v = rdV (tX (mi 64) N) (pp + 1) (rdI (tX (mi 64) N) (pp + 1)) := ⟨_, rfl⟩
          rw [← hq_29] at h15_29
          rw [← hv_29] at h16_29
          have hvb_29 : v_29 ≤ 99 := by rw [hv_29]; exact (rdV_le (rdI_le _ _) rdI_d).1
          have hqb_29 : (pp + 1) ≤ q_29 ∧ q_29 ≤ (pp + 1) + 2 := by have := rdI_le (tX (mi 64) N) (pp + 1); omega
          have hqN_29 : (pp + 1) ≤ N → q_29 ≤ N := fun h => by rw [hq_29]; exact rdI_N h
          refine B_eq 69 dX6_readMixer_32 (by decide) (fun c_32 => ?_) (fun c_32 => ?_)
          · skip
            refine E_iconst 0 (by decide) dX6_readMixer_69 ?_
            refine E_zret rfl rfl (Nat.le_of_ble_eq_true rfl) (Nat.le_of_ble_eq_true rfl) dX6_readMixer_70 ?_
            exact okQI ⟨rfl, ((Fr.trans (F := [61]) (G := [61]) (H := [61]) (hF.u (by decide)) hFr_29 (by decide) (by decide)).w (by decide)), (KF.t (L := [15, 16, 21]) (M := []) (N := [15, 16, 20, 21]) (KF.t (L := [15, 16, 21]) (M := [15, 16, 21]) (N := [15, 16, 21]) (hK.u (by decide)) hK_29 (by decide) (by decide)) KF.r (by decide) (by decide)), Or.inl ⟨q_29, by rw [hpt, ← hT]; exact pm_1 hq_29 c_32, rfl, h15_29⟩⟩
          · skip
            refine E_aload_n 0 dX6_readMixer_35 rfl rfl ?_
            refine E_aload_n 0 dX6_readMixer_36 rfl rfl ?_
            refine gf_X6_186 (mi_29 61 16) tw_61 rfl rfl dX6_readMixer_37 ?_
            refine E_aload_n 0 dX6_readMixer_40 rfl rfl ?_
            refine gf_X6_189 (mj 61 18) tw_61 rfl ((hK_29 18 (by decide)).trans ((u2_n (by omega)).trans rfl)) dX6_readMixer_41 ?_
            refine Z_ge (v_29 : Int) (dc : Int) h16_29 hj18 58 dX6_readMixer_44 (by decide) (fun c_44 => ?_) (fun c_44 => ?_)
            · skip
              refine E_iconst 1 (by decide) dX6_readMixer_58 ?_
              refine E_goto 63 dX6_readMixer_59 (by decide) ?_
              refine E_callV (c_X6_refuseb l hfl mi_29 ml (True) 1 (b1 trivial)) cw_X6_196 (As := [.int 1]) (st := []) wi_yX6_refuse we_yX6_refuse (ci := 6) (q := (RX6, TX6, 23)) rfl rfl (wl_atO tw_61) rfl ⟨Nat.le_of_ble_eq_true rfl, Nat.le_of_ble_eq_true rfl, Nat.le_of_ble_eq_true rfl, Nat.le_of_ble_eq_true rfl⟩ (Nat.le_of_ble_eq_true rfl) dX6_readMixer_63 (fun _ _ h => h) rfl (kI (fun r_63 mi_63 ml_63 h_63 => ?_))
              obtain ⟨hl9_63, hFr_63, hK_63, hr_63, hy9_63, hn9_63⟩ := h_63
              subst hl9_63
              subst hr_63
              obtain ⟨q_63, h15_63, hQ_63⟩ := rf_q (m := (pp + 1)) (n := q_29) hy9_63 hn9_63 ((congrArg Int32.toInt h21_29).trans (((congrArg Int32.toInt (u2_s _ _ _ _)).trans (tI_add hpp (show (1 : Int32).toInt = 1 from rfl) (by omega))).trans (by omega))) h15_29
              clear hy9_63 hn9_63
              refine B_eq 71 dX6_readMixer_66 (by decide) (fun c_66 => ?_) (fun c_66 => ?_)
              · skip
                have he63 : q_63 = q_29 := hQ_63.2 (by first | exact c_66 | exact not_false)
                have hpq := rdO_p c_32 hq_29
                have hnb : ¬ (dc ≤ v_29 ∨ s.testBit v_29 = true) := by first | exact fun z => z.elim (fun y => absurd y (by omega)) (fun y => c_55 y) | exact absurd trivial c_66
                have hvd : v_29 < dc := by first | omega | exact absurd trivial c_66
                refine E_iload_n 1 dX6_readMixer_71 rfl rfl ?_
                refine E_iconst 1 (by decide) dX6_readMixer_72 ?_
                refine E_aload_n 0 dX6_readMixer_73 rfl rfl ?_
                refine gf_X6_186 (mi_29 61 16) tw_61 rfl (hK_63 16 (by decide)) dX6_readMixer_74 ?_
                refine E_ishl dX6_readMixer_77 ?_
                refine E_ior dX6_readMixer_78 ?_
                rw [show (xs ||| ((1 : Int32) <<< ((mi_29 61 16) &&& 31))) = (nI (s ||| 2 ^ v_29)) from (or_pw hxs h16_29 (by omega))]
                refine E_istore_n [(1, .int (nI (s ||| 2 ^ v_29))), (0, .ref 61)] dX6_readMixer_79 rfl (by decide) rfl ?_
                refine E_aload_n 1 dX6_readMixer_80 rfl rfl ?_
                refine E_callV (c_X6_here l hfl mi_63 ml N q_63 ((congrArg Int32.toInt ((hK_63 4 (by decide)).trans ((hK_29 4 (by decide)).trans ((u2_n (by omega)).trans rfl)))).trans hj4) (by omega) h15_63 (by omega)) cw_X6_180 (As := []) (st := []) wi_yX6_here we_yX6_here (ci := 6) (q := (RX6, TX6, 23)) rfl rfl (wl_atO tw_61) rfl ⟨Nat.le_of_ble_eq_true rfl, Nat.le_of_ble_eq_true rfl, Nat.le_of_ble_eq_true rfl, Nat.le_of_ble_eq_true rfl⟩ (Nat.le_of_ble_eq_true rfl) dX6_readMixer_81 (fun _ _ h => h) rfl (kE ?_)
                rw [show mi_63 64 = mi 64 from ((hFr_63 64 (by decide)).trans ((hFr_29 64 (by decide)).trans ((u2_p (by decide)).trans (hF 64 (by decide)))))]
                refine E_bipush 44 (by decide) dX6_readMixer_84 ?_
                refine Z_ne (tX (mi 64) N q_63) 44 hV_t (show (44 : Int32).toInt = 44 from rfl) 93 dX6_readMixer_86 (by decide) (fun c_86 => ?_) (fun c_86 => ?_)
                · skip
                  refine E_iconst 0 (by decide) dX6_readMixer_93 ?_
                  refine E_istore_n [(2, .int 0), (1, .int (nI (s ||| 2 ^ v_29))), (0, .ref 61)] dX6_readMixer_94 rfl (by decide) rfl ?_
                  refine E_goto 14 dX6_readMixer_95 (by decide) ?_
                  refine E_iload_n 0 dX6_readMixer_14 rfl rfl ?_
                  refine Y_eq 0 (show (0 : Int32).toInt = 0 from rfl) 98 dX6_readMixer_15 (by decide) (fun c_15 => ?_) (fun c_15 => ?_)
                  · skip
                    have hz72 : mi_63 72 = mi 72 := (Fr.trans (F := [61]) (G := [61]) (H := [61]) (Fr.trans (F := [61]) (G := [61]) (H := [61]) (hF.u (by decide)) hFr_29 (by decide) (by decide)) hFr_63 (by decide) (by decide)) 72 (by decide)
                    refine E_aload_n 2 dX6_readMixer_98 rfl rfl ?_
                    refine gf_X6_40 tw_61 rfl dX6_readMixer_99 ?_
                    refine E_aload_n 2 dX6_readMixer_102 rfl rfl ?_
                    refine gf_X6_203 (mj 61 20) tw_61 rfl ((hK_63 20 (by decide)).trans ((hK_29 20 (by decide)).trans ((u2_n (by omega)).trans rfl))) dX6_readMixer_103 ?_
                    refine E_iload_n 1 dX6_readMixer_106 rfl rfl ?_
                    refine S_iast mc tw_72 (hj20.trans (by omega)) (by omega) dX6_readMixer_107 ?_
                    refine E_aload_n 2 dX6_readMixer_108 rfl rfl ?_
                    refine E_dup rfl dX6_readMixer_109 ?_
                    refine gf_X6_203 (mj 61 20) tw_61 rfl ((u2_n (by omega)).trans ((hK_63 20 (by decide)).trans ((hK_29 20 (by decide)).trans ((u2_n (by omega)).trans rfl)))) dX6_readMixer_110 ?_
                    refine E_iconst 1 (by decide) dX6_readMixer_113 ?_
                    refine E_iadd dX6_readMixer_114 ?_
                    refine pf_X6_203 tw_61 rfl dX6_readMixer_115 ?_
                    refine E_iconst 1 (by decide) dX6_readMixer_118 ?_
                    refine E_zret rfl rfl (Nat.le_of_ble_eq_true rfl) (Nat.le_of_ble_eq_true rfl) dX6_readMixer_119 ?_
                    exact okQI ⟨rfl, (((Fr.trans (F := [61]) (G := [61]) (H := [61]) (Fr.trans (F := [61]) (G := [61]) (H := [61]) (hF.u (by decide)) hFr_29 (by decide) (by decide)) hFr_63 (by decide) (by decide)).w (by decide)).u (by decide)).u (by decide), ((KF.t (L := [15, 16, 21]) (M := []) (N := [15, 16, 20, 21]) (KF.t (L := [15, 16, 21]) (M := [15]) (N := [15, 16, 21]) (KF.t (L := [15, 16, 21]) (M := [15, 16, 21]) (N := [15, 16, 21]) (hK.u (by decide)) hK_29 (by decide) (by decide)) hK_63 (by decide) (by decide)) KF.r (by decide) (by decide)).p (by decide)).u (by decide), Or.inr ⟨s ||| 2 ^ v_29, q_29, by rw [hpt, ← hT]; exact pm_4 hq_29 hv_29 c_32 hnb (by rw [← he63]; exact c_86), rfl, by rw [u2_n (by omega), u2_n (by omega)]; exact h15_63.trans (by rw [he63]), by rw [u2_s]; exact (tI_add hj20 (show (1 : Int32).toInt = 1 from rfl) (by omega)).trans (by omega), drX_add (v := nI (s ||| 2 ^ v_29)) hD hM (tI_nI (Nat.lt_trans (or_lt hs (by omega)) (by omega))) ((u2_p (by decide)).trans ((u2_r hz72).trans (u2_r rfl).symm))⟩⟩
                  · exact absurd c_15 (by decide)
                · skip
                  refine E_iconst 1 (by decide) dX6_readMixer_89 ?_
                  refine E_goto 94 dX6_readMixer_90 (by decide) ?_
                  refine E_istore_n [(2, .int 1), (1, .int (nI (s ||| 2 ^ v_29))), (0, .ref 61)] dX6_readMixer_94 rfl (by decide) rfl ?_
                  refine E_goto 14 dX6_readMixer_95 (by decide) ?_
                  refine E_iload_n 0 dX6_readMixer_14 rfl rfl ?_
                  refine Y_eq 1 (show (1 : Int32).toInt = 1 from rfl) 98 dX6_readMixer_15 (by decide) (fun c_15 => ?_) (fun c_15 => ?_)
                  · exact absurd c_15 (by decide)
                  · skip
                    refine E_sub [2, 1] rfl ?_
                    exact ih18 (nI (s ||| 2 ^ v_29)) (s ||| 2 ^ v_29) g q_63 mi_63 (by omega) (tI_nI (Nat.lt_trans (or_lt hs (by omega)) (by omega))) (or_lt hs (by omega)) h15_63 (tX_lt (by rw [c_86]; decide)) (by omega) (by rw [← hT]; exact (by rw [he63]; exact (pm_3 hq_29 hv_29 c_32 hnb (by rw [← he63]; exact c_86)).symm)) (Fr.trans (F := [61]) (G := [61]) (H := [61]) (Fr.trans (F := [61]) (G := [61]) (H := [61]) (hF.u (by decide)) hFr_29 (by decide) (by decide)) hFr_63 (by decide) (by decide)) (KF.t (L := [15, 16, 21]) (M := [15]) (N := [15, 16, 21]) (KF.t (L := [15, 16, 21]) (M := [15, 16, 21]) (N := [15, 16, 21]) (hK.u (by decide)) hK_29 (by decide) (by decide)) hK_63 (by decide) (by decide))
              · skip
                refine E_iconst 0 (by decide) dX6_readMixer_69 ?_
                refine E_zret rfl rfl (Nat.le_of_ble_eq_true rfl) (Nat.le_of_ble_eq_true rfl) dX6_readMixer_70 ?_
                exact okQI ⟨rfl, ((Fr.trans (F := [61]) (G := [61]) (H := [61]) (Fr.trans (F := [61]) (G := [61]) (H := [61]) (hF.u (by decide)) hFr_29 (by decide) (by decide)) hFr_63 (by decide) (by decide)).w (by decide)), (KF.t (L := [15, 16, 21]) (M := []) (N := [15, 16, 20, 21]) (KF.t (L := [15, 16, 21]) (M := [15]) (N := [15, 16, 21]) (KF.t (L := [15, 16, 21]) (M := [15, 16, 21]) (N := [15, 16, 21]) (hK.u (by decide)) hK_29 (by decide) (by decide)) hK_63 (by decide) (by decide)) KF.r (by decide) (by decide)), Or.inl ⟨pp + 1, by rw [hpt, ← hT]; exact pm_2 hv_29 c_32 (by first | exact Or.inl (by omega) | exact Or.inr c_55 | exact False.elim c_66), rfl, h15_63.trans (by rw [hQ_63.1 (by first | exact c_66 | trivial)])⟩⟩
            · skip
              refine E_iload_n 1 dX6_readMixer_47 rfl rfl ?_
              refine E_aload_n 0 dX6_readMixer_48 rfl rfl ?_
              refine gf_X6_186 (mi_29 61 16) tw_61 rfl rfl dX6_readMixer_49 ?_
              refine E_callS (c_X6_has l hfl mi_29 ml xs (mi_29 61 16) s v_29 hxs (h16_29.trans (by omega)) (by omega) (by omega)) cw_X6_85 (As := [.int xs, .int (mi_29 61 16)]) (st := [.ref 61]) ws_yX6_has rfl ⟨Nat.le_of_ble_eq_true rfl, Nat.le_of_ble_eq_true rfl, Nat.le_of_ble_eq_true rfl, Nat.le_of_ble_eq_true rfl⟩ (Nat.le_of_ble_eq_true rfl) dX6_readMixer_52 (fun _ _ h => h) rfl (kE ?_)
              refine B_eq 62 dX6_readMixer_55 (by decide) (fun c_55 => ?_) (fun c_55 => ?_)
              · skip
                refine E_iconst 0 (by decide) dX6_readMixer_62 ?_
                refine E_callV (c_X6_refuseb l hfl mi_29 ml (False) 0 (b0 not_false)) cw_X6_196 (As := [.int 0]) (st := []) wi_yX6_refuse we_yX6_refuse (ci := 6) (q := (RX6, TX6, 23)) rfl rfl (wl_atO tw_61) rfl ⟨Nat.le_of_ble_eq_true rfl, Nat.le_of_ble_eq_true rfl, Nat.le_of_ble_eq_true rfl, Nat.le_of_ble_eq_true rfl⟩ (Nat.le_of_ble_eq_true rfl) dX6_readMixer_63 (fun _ _ h => h) rfl (kI (fun r_63 mi_63 ml_63 h_63 => ?_))
                obtain ⟨hl9_63, hFr_63, hK_63, hr_63, hy9_63, hn9_63⟩ := h_63
                subst hl9_63
                subst hr_63
                obtain ⟨q_63, h15_63, hQ_63⟩ := rf_q (m := (pp + 1)) (n := q_29) hy9_63 hn9_63 ((congrArg Int32.toInt h21_29).trans (((congrArg Int32.toInt (u2_s _ _ _ _)).trans (tI_add hpp (show (1 : Int32).toInt = 1 from rfl) (by omega))).trans (by omega))) h15_29
                clear hy9_63 hn9_63
                refine B_eq 71 dX6_readMixer_66 (by decide) (fun c_66 => ?_) (fun c_66 => ?_)
                · skip
                  have he63 : q_63 = q_29 := hQ_63.2 (by first | exact c_66 | exact not_false)
                  have hpq := rdO_p c_32 hq_29
                  have hnb : ¬ (dc ≤ v_29 ∨ s.testBit v_29 = true) := by first | exact fun z => z.elim (fun y => absurd y (by omega)) (fun y => c_55 y) | exact absurd trivial c_66
                  have hvd : v_29 < dc := by first | omega | exact absurd trivial c_66
                  refine E_iload_n 1 dX6_readMixer_71 rfl rfl ?_
                  refine E_iconst 1 (by decide) dX6_readMixer_72 ?_
                  refine E_aload_n 0 dX6_readMixer_73 rfl rfl ?_
                  refine gf_X6_186 (mi_29 61 16) tw_61 rfl (hK_63 16 (by decide)) dX6_readMixer_74 ?_
                  refine E_ishl dX6_readMixer_77 ?_
                  refine E_ior dX6_readMixer_78 ?_
                  rw [show (xs ||| ((1 : Int32) <<< ((mi_29 61 16) &&& 31))) = (nI (s ||| 2 ^ v_29)) from (or_pw hxs h16_29 (by omega))]
                  refine E_istore_n [(1, .int (nI (s ||| 2 ^ v_29))), (0, .ref 61)] dX6_readMixer_79 rfl (by decide) rfl ?_
                  refine E_aload_n 1 dX6_readMixer_80 rfl rfl ?_
                  refine E_callV (c_X6_here l hfl mi_63 ml N q_63 ((congrArg Int32.toInt ((hK_63 4 (by decide)).trans ((hK_29 4 (by decide)).trans ((u2_n (by omega)).trans rfl)))).trans hj4) (by omega) h15_63 (by omega)) cw_X6_180 (As := []) (st := []) wi_yX6_here we_yX6_here (ci := 6) (q := (RX6, TX6, 23)) rfl rfl (wl_atO tw_61) rfl ⟨Nat.le_of_ble_eq_true rfl, Nat.le_of_ble_eq_true rfl, Nat.le_of_ble_eq_true rfl, Nat.le_of_ble_eq_true rfl⟩ (Nat.le_of_ble_eq_true rfl) dX6_readMixer_81 (fun _ _ h => h) rfl (kE ?_)
                  rw [show mi_63 64 = mi 64 from ((hFr_63 64 (by decide)).trans ((hFr_29 64 (by decide)).trans ((u2_p (by decide)).trans (hF 64 (by decide)))))]
                  refine E_bipush 44 (by decide) dX6_readMixer_84 ?_
                  refine Z_ne (tX (mi 64) N q_63) 44 hV_t (show (44 : Int32).toInt = 44 from rfl) 93 dX6_readMixer_86 (by decide) (fun c_86 => ?_) (fun c_86 => ?_)
                  · skip
                    refine E_iconst 0 (by decide) dX6_readMixer_93 ?_
                    refine E_istore_n [(2, .int 0), (1, .int (nI (s ||| 2 ^ v_29))), (0, .ref 61)] dX6_readMixer_94 rfl (by decide) rfl ?_
                    refine E_goto 14 dX6_readMixer_95 (by decide) ?_
                    refine E_iload_n 0 dX6_readMixer_14 rfl rfl ?_
                    refine Y_eq 0 (show (0 : Int32).toInt = 0 from rfl) 98 dX6_readMixer_15 (by decide) (fun c_15 => ?_) (fun c_15 => ?_)
                    · skip
                      have hz72 : mi_63 72 = mi 72 := (Fr.trans (F := [61]) (G := [61]) (H := [61]) (Fr.trans (F := [61]) (G := [61]) (H := [61]) (hF.u (by decide)) hFr_29 (by decide) (by decide)) hFr_63 (by decide) (by decide)) 72 (by decide)
                      refine E_aload_n 2 dX6_readMixer_98 rfl rfl ?_
                      refine gf_X6_40 tw_61 rfl dX6_readMixer_99 ?_
                      refine E_aload_n 2 dX6_readMixer_102 rfl rfl ?_
                      refine gf_X6_203 (mj 61 20) tw_61 rfl ((hK_63 20 (by decide)).trans ((hK_29 20 (by decide)).trans ((u2_n (by omega)).trans rfl))) dX6_readMixer_103 ?_
                      refine E_iload_n 1 dX6_readMixer_106 rfl rfl ?_
                      refine S_iast mc tw_72 (hj20.trans (by omega)) (by omega) dX6_readMixer_107 ?_
                      refine E_aload_n 2 dX6_readMixer_108 rfl rfl ?_
                      refine E_dup rfl dX6_readMixer_109 ?_
                      refine gf_X6_203 (mj 61 20) tw_61 rfl ((u2_n (by omega)).trans ((hK_63 20 (by decide)).trans ((hK_29 20 (by decide)).trans ((u2_n (by omega)).trans rfl)))) dX6_readMixer_110 ?_
                      refine E_iconst 1 (by decide) dX6_readMixer_113 ?_
                      refine E_iadd dX6_readMixer_114 ?_
                      refine pf_X6_203 tw_61 rfl dX6_readMixer_115 ?_
                      refine E_iconst 1 (by decide) dX6_readMixer_118 ?_
                      refine E_zret rfl rfl (Nat.le_of_ble_eq_true rfl) (Nat.le_of_ble_eq_true rfl) dX6_readMixer_119 ?_
                      exact okQI ⟨rfl, (((Fr.trans (F := [61]) (G := [61]) (H := [61]) (Fr.trans (F := [61]) (G := [61]) (H := [61]) (hF.u (by decide)) hFr_29 (by decide) (by decide)) hFr_63 (by decide) (by decide)).w (by decide)).u (by decide)).u (by decide), ((KF.t (L := [15, 16, 21]) (M := []) (N := [15, 16, 20, 21]) (KF.t (L := [15, 16, 21]) (M := [15]) (N := [15, 16, 21]) (KF.t (L := [15, 16, 21]) (M := [15, 16, 21]) (N := [15, 16, 21]) (hK.u (by decide)) hK_29 (by decide) (by decide)) hK_63 (by decide) (by decide)) KF.r (by decide) (by decide)).p (by decide)).u (by decide), Or.inr ⟨s ||| 2 ^ v_29, q_29, by rw [hpt, ← hT]; exact pm_4 hq_29 hv_29 c_32 hnb (by rw [← he63]; exact c_86), rfl, by rw [u2_n (by omega), u2_n (by omega)]; exact h15_63.trans (by rw [he63]), by rw [u2_s]; exact (tI_add hj20 (show (1 : Int32).toInt = 1 from rfl) (by omega)).trans (by omega), drX_add (v := nI (s ||| 2 ^ v_29)) hD hM (tI_nI (Nat.lt_trans (or_lt hs (by omega)) (by omega))) ((u2_p (by decide)).trans ((u2_r hz72).trans (u2_r rfl).symm))⟩⟩
                    · exact absurd c_15 (by decide)
                  · skip
                    refine E_iconst 1 (by decide) dX6_readMixer_89 ?_
                    refine E_goto 94 dX6_readMixer_90 (by decide) ?_
                    refine E_istore_n [(2, .int 1), (1, .int (nI (s ||| 2 ^ v_29))), (0, .ref 61)] dX6_readMixer_94 rfl (by decide) rfl ?_
                    refine E_goto 14 dX6_readMixer_95 (by decide) ?_
                    refine E_iload_n 0 dX6_readMixer_14 rfl rfl ?_
                    refine Y_eq 1 (show (1 : Int32).toInt = 1 from rfl) 98 dX6_readMixer_15 (by decide) (fun c_15 => ?_) (fun c_15 => ?_)
                    · exact absurd c_15 (by decide)
                    · skip
                      refine E_sub [2, 1] rfl ?_
                      exact ih18 (nI (s ||| 2 ^ v_29)) (s ||| 2 ^ v_29) g q_63 mi_63 (by omega) (tI_nI (Nat.lt_trans (or_lt hs (by omega)) (by omega))) (or_lt hs (by omega)) h15_63 (tX_lt (by rw [c_86]; decide)) (by omega) (by rw [← hT]; exact (by rw [he63]; exact (pm_3 hq_29 hv_29 c_32 hnb (by rw [← he63]; exact c_86)).symm)) (Fr.trans (F := [61]) (G := [61]) (H := [61]) (Fr.trans (F := [61]) (G := [61]) (H := [61]) (hF.u (by decide)) hFr_29 (by decide) (by decide)) hFr_63 (by decide) (by decide)) (KF.t (L := [15, 16, 21]) (M := [15]) (N := [15, 16, 21]) (KF.t (L := [15, 16, 21]) (M := [15, 16, 21]) (N := [15, 16, 21]) (hK.u (by decide)) hK_29 (by decide) (by decide)) hK_63 (by decide) (by decide))
                · skip
                  refine E_iconst 0 (by decide) dX6_readMixer_69 ?_
                  refine E_zret rfl rfl (Nat.le_of_ble_eq_true rfl) (Nat.le_of_ble_eq_true rfl) dX6_readMixer_70 ?_
                  exact okQI ⟨rfl, ((Fr.trans (F := [61]) (G := [61]) (H := [61]) (Fr.trans (F := [61]) (G := [61]) (H := [61]) (hF.u (by decide)) hFr_29 (by decide) (by decide)) hFr_63 (by decide) (by decide)).w (by decide)), (KF.t (L := [15, 16, 21]) (M := []) (N := [15, 16, 20, 21]) (KF.t (L := [15, 16, 21]) (M := [15]) (N := [15, 16, 21]) (KF.t (L := [15, 16, 21]) (M := [15, 16, 21]) (N := [15, 16, 21]) (hK.u (by decide)) hK_29 (by decide) (by decide)) hK_63 (by decide) (by decide)) KF.r (by decide) (by decide)), Or.inl ⟨pp + 1, by rw [hpt, ← hT]; exact pm_2 hv_29 c_32 (by first | exact Or.inl (by omega) | exact Or.inr c_55 | exact False.elim c_66), rfl, h15_63.trans (by rw [hQ_63.1 (by first | exact c_66 | trivial)])⟩⟩
              · skip
                refine E_iconst 1 (by decide) dX6_readMixer_58 ?_
                refine E_goto 63 dX6_readMixer_59 (by decide) ?_
                refine E_callV (c_X6_refuseb l hfl mi_29 ml (True) 1 (b1 trivial)) cw_X6_196 (As := [.int 1]) (st := []) wi_yX6_refuse we_yX6_refuse (ci := 6) (q := (RX6, TX6, 23)) rfl rfl (wl_atO tw_61) rfl ⟨Nat.le_of_ble_eq_true rfl, Nat.le_of_ble_eq_true rfl, Nat.le_of_ble_eq_true rfl, Nat.le_of_ble_eq_true rfl⟩ (Nat.le_of_ble_eq_true rfl) dX6_readMixer_63 (fun _ _ h => h) rfl (kI (fun r_63 mi_63 ml_63 h_63 => ?_))
                obtain ⟨hl9_63, hFr_63, hK_63, hr_63, hy9_63, hn9_63⟩ := h_63
                subst hl9_63
                subst hr_63
                obtain ⟨q_63, h15_63, hQ_63⟩ := rf_q (m := (pp + 1)) (n := q_29) hy9_63 hn9_63 ((congrArg Int32.toInt h21_29).trans (((congrArg Int32.toInt (u2_s _ _ _ _)).trans (tI_add hpp (show (1 : Int32).toInt = 1 from rfl) (by omega))).trans (by omega))) h15_29
                clear hy9_63 hn9_63
                refine B_eq 71 dX6_readMixer_66 (by decide) (fun c_66 => ?_) (fun c_66 => ?_)
                · skip
                  have he63 : q_63 = q_29 := hQ_63.2 (by first | exact c_66 | exact not_false)
                  have hpq := rdO_p c_32 hq_29
                  have hnb : ¬ (dc ≤ v_29 ∨ s.testBit v_29 = true) := by first | exact fun z => z.elim (fun y => absurd y (by omega)) (fun y => c_55 y) | exact absurd trivial c_66
                  have hvd : v_29 < dc := by first | omega | exact absurd trivial c_66
                  refine E_iload_n 1 dX6_readMixer_71 rfl rfl ?_
                  refine E_iconst 1 (by decide) dX6_readMixer_72 ?_
                  refine E_aload_n 0 dX6_readMixer_73 rfl rfl ?_
                  refine gf_X6_186 (mi_29 61 16) tw_61 rfl (hK_63 16 (by decide)) dX6_readMixer_74 ?_
                  refine E_ishl dX6_readMixer_77 ?_
                  refine E_ior dX6_readMixer_78 ?_
                  rw [show (xs ||| ((1 : Int32) <<< ((mi_29 61 16) &&& 31))) = (nI (s ||| 2 ^ v_29)) from (or_pw hxs h16_29 (by omega))]
                  refine E_istore_n [(1, .int (nI (s ||| 2 ^ v_29))), (0, .ref 61)] dX6_readMixer_79 rfl (by decide) rfl ?_
                  refine E_aload_n 1 dX6_readMixer_80 rfl rfl ?_
                  refine E_callV (c_X6_here l hfl mi_63 ml N q_63 ((congrArg Int32.toInt ((hK_63 4 (by decide)).trans ((hK_29 4 (by decide)).trans ((u2_n (by omega)).trans rfl)))).trans hj4) (by omega) h15_63 (by omega)) cw_X6_180 (As := []) (st := []) wi_yX6_here we_yX6_here (ci := 6) (q := (RX6, TX6, 23)) rfl rfl (wl_atO tw_61) rfl ⟨Nat.le_of_ble_eq_true rfl, Nat.le_of_ble_eq_true rfl, Nat.le_of_ble_eq_true rfl, Nat.le_of_ble_eq_true rfl⟩ (Nat.le_of_ble_eq_true rfl) dX6_readMixer_81 (fun _ _ h => h) rfl (kE ?_)
                  rw [show mi_63 64 = mi 64 from ((hFr_63 64 (by decide)).trans ((hFr_29 64 (by decide)).trans ((u2_p (by decide)).trans (hF 64 (by decide)))))]
                  refine E_bipush 44 (by decide) dX6_readMixer_84 ?_
                  refine Z_ne (tX (mi 64) N q_63) 44 hV_t (show (44 : Int32).toInt = 44 from rfl) 93 dX6_readMixer_86 (by decide) (fun c_86 => ?_) (fun c_86 => ?_)
                  · skip
                    refine E_iconst 0 (by decide) dX6_readMixer_93 ?_
                    refine E_istore_n [(2, .int 0), (1, .int (nI (s ||| 2 ^ v_29))), (0, .ref 61)] dX6_readMixer_94 rfl (by decide) rfl ?_
                    refine E_goto 14 dX6_readMixer_95 (by decide) ?_
                    refine E_iload_n 0 dX6_readMixer_14 rfl rfl ?_
                    refine Y_eq 0 (show (0 : Int32).toInt = 0 from rfl) 98 dX6_readMixer_15 (by decide) (fun c_15 => ?_) (fun c_15 => ?_)
                    · skip
                      have hz72 : mi_63 72 = mi 72 := (Fr.trans (F := [61]) (G := [61]) (H := [61]) (Fr.trans (F := [61]) (G := [61]) (H := [61]) (hF.u (by decide)) hFr_29 (by decide) (by decide)) hFr_63 (by decide) (by decide)) 72 (by decide)
                      refine E_aload_n 2 dX6_readMixer_98 rfl rfl ?_
                      refine gf_X6_40 tw_61 rfl dX6_readMixer_99 ?_
                      refine E_aload_n 2 dX6_readMixer_102 rfl rfl ?_
                      refine gf_X6_203 (mj 61 20) tw_61 rfl ((hK_63 20 (by decide)).trans ((hK_29 20 (by decide)).trans ((u2_n (by omega)).trans rfl))) dX6_readMixer_103 ?_
                      refine E_iload_n 1 dX6_readMixer_106 rfl rfl ?_
                      refine S_iast mc tw_72 (hj20.trans (by omega)) (by omega) dX6_readMixer_107 ?_
                      refine E_aload_n 2 dX6_readMixer_108 rfl rfl ?_
                      refine E_dup rfl dX6_readMixer_109 ?_
                      refine gf_X6_203 (mj 61 20) tw_61 rfl ((u2_n (by omega)).trans ((hK_63 20 (by decide)).trans ((hK_29 20 (by decide)).trans ((u2_n (by omega)).trans rfl)))) dX6_readMixer_110 ?_
                      refine E_iconst 1 (by decide) dX6_readMixer_113 ?_
                      refine E_iadd dX6_readMixer_114 ?_
                      refine pf_X6_203 tw_61 rfl dX6_readMixer_115 ?_
                      refine E_iconst 1 (by decide) dX6_readMixer_118 ?_
                      refine E_zret rfl rfl (Nat.le_of_ble_eq_true rfl) (Nat.le_of_ble_eq_true rfl) dX6_readMixer_119 ?_
                      exact okQI ⟨rfl, (((Fr.trans (F := [61]) (G := [61]) (H := [61]) (Fr.trans (F := [61]) (G := [61]) (H := [61]) (hF.u (by decide)) hFr_29 (by decide) (by decide)) hFr_63 (by decide) (by decide)).w (by decide)).u (by decide)).u (by decide), ((KF.t (L := [15, 16, 21]) (M := []) (N := [15, 16, 20, 21]) (KF.t (L := [15, 16, 21]) (M := [15]) (N := [15, 16, 21]) (KF.t (L := [15, 16, 21]) (M := [15, 16, 21]) (N := [15, 16, 21]) (hK.u (by decide)) hK_29 (by decide) (by decide)) hK_63 (by decide) (by decide)) KF.r (by decide) (by decide)).p (by decide)).u (by decide), Or.inr ⟨s ||| 2 ^ v_29, q_29, by rw [hpt, ← hT]; exact pm_4 hq_29 hv_29 c_32 hnb (by rw [← he63]; exact c_86), rfl, by rw [u2_n (by omega), u2_n (by omega)]; exact h15_63.trans (by rw [he63]), by rw [u2_s]; exact (tI_add hj20 (show (1 : Int32).toInt = 1 from rfl) (by omega)).trans (by omega), drX_add (v := nI (s ||| 2 ^ v_29)) hD hM (tI_nI (Nat.lt_trans (or_lt hs (by omega)) (by omega))) ((u2_p (by decide)).trans ((u2_r hz72).trans (u2_r rfl).symm))⟩⟩
                    · exact absurd c_15 (by decide)
                  · skip
                    refine E_iconst 1 (by decide) dX6_readMixer_89 ?_
                    refine E_goto 94 dX6_readMixer_90 (by decide) ?_
                    refine E_istore_n [(2, .int 1), (1, .int (nI (s ||| 2 ^ v_29))), (0, .ref 61)] dX6_readMixer_94 rfl (by decide) rfl ?_
                    refine E_goto 14 dX6_readMixer_95 (by decide) ?_
                    refine E_iload_n 0 dX6_readMixer_14 rfl rfl ?_
                    refine Y_eq 1 (show (1 : Int32).toInt = 1 from rfl) 98 dX6_readMixer_15 (by decide) (fun c_15 => ?_) (fun c_15 => ?_)
                    · exact absurd c_15 (by decide)
                    · skip
                      refine E_sub [2, 1] rfl ?_
                      exact ih18 (nI (s ||| 2 ^ v_29)) (s ||| 2 ^ v_29) g q_63 mi_63 (by omega) (tI_nI (Nat.lt_trans (or_lt hs (by omega)) (by omega))) (or_lt hs (by omega)) h15_63 (tX_lt (by rw [c_86]; decide)) (by omega) (by rw [← hT]; exact (by rw [he63]; exact (pm_3 hq_29 hv_29 c_32 hnb (by rw [← he63]; exact c_86)).symm)) (Fr.trans (F := [61]) (G := [61]) (H := [61]) (Fr.trans (F := [61]) (G := [61]) (H := [61]) (hF.u (by decide)) hFr_29 (by decide) (by decide)) hFr_63 (by decide) (by decide)) (KF.t (L := [15, 16, 21]) (M := [15]) (N := [15, 16, 21]) (KF.t (L := [15, 16, 21]) (M := [15, 16, 21]) (N := [15, 16, 21]) (hK.u (by decide)) hK_29 (by decide) (by decide)) hK_63 (by decide) (by decide))
                · skip
                  refine E_iconst 0 (by decide) dX6_readMixer_69 ?_
                  refine E_zret rfl rfl (Nat.le_of_ble_eq_true rfl) (Nat.le_of_ble_eq_true rfl) dX6_readMixer_70 ?_
                  exact okQI ⟨rfl, ((Fr.trans (F := [61]) (G := [61]) (H := [61]) (Fr.trans (F := [61]) (G := [61]) (H := [61]) (hF.u (by decide)) hFr_29 (by decide) (by decide)) hFr_63 (by decide) (by decide)).w (by decide)), (KF.t (L := [15, 16, 21]) (M := []) (N := [15, 16, 20, 21]) (KF.t (L := [15, 16, 21]) (M := [15]) (N := [15, 16, 21]) (KF.t (L := [15, 16, 21]) (M := [15, 16, 21]) (N := [15, 16, 21]) (hK.u (by decide)) hK_29 (by decide) (by decide)) hK_63 (by decide) (by decide)) KF.r (by decide) (by decide)), Or.inl ⟨pp + 1, by rw [hpt, ← hT]; exact pm_2 hv_29 c_32 (by first | exact Or.inl (by omega) | exact Or.inr c_55 | exact False.elim c_66), rfl, h15_63.trans (by rw [hQ_63.1 (by first | exact c_66 | trivial)])⟩⟩
      refine E_sub [2, 1] rfl ?_
      exact J18 _ 0 0 122 p mi (Nat.lt_succ_self _) (show (0 : Int32).toInt = 0 from rfl) (by omega) hp (by omega) (by omega) rfl Fr.rfl' KF.r
  · skip
    refine E_iconst 0 (by decide) dX6_readMixer_8 ?_
    refine E_zret rfl rfl (Nat.le_of_ble_eq_true rfl) (Nat.le_of_ble_eq_true rfl) dX6_readMixer_9 ?_
    exact okQI ⟨rfl, Fr.rfl', KF.r, Or.inl ⟨p, by unfold pmT; rw [ifp_t (by omega)], rfl, hp⟩⟩
end MO22
