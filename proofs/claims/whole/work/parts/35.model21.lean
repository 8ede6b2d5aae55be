section MO21
/-- a carrier of the text, its letter at p -/
noncomputable def pcS (t : Nat → Int) (D : List (Nat × Nat)) (p : Nat) : Sum Nat (List (Nat × Nat) × Nat) :=
  ifp (D.length = 10) (.inl p) (ifp (¬ rdO t (p + 1)) (.inl (p + 1 + rdI t (p + 1))) (ifp (63 < rdV t (p + 1) (rdI t (p + 1)) ∨ ∃ d, d ∈ D ∧ d.1 = rdV t (p + 1) (rdI t (p + 1))) (.inl (p + 1)) (ifp (t (p + 1 + rdI t (p + 1)) ≠ 44) (.inl (p + 1 + rdI t (p + 1)))
    (ifp (¬ rdO t (p + 1 + rdI t (p + 1) + 1)) (.inl (p + 1 + rdI t (p + 1) + 1 + rdI t (p + 1 + rdI t (p + 1) + 1))) (ifp (60 < rdV t (p + 1 + rdI t (p + 1) + 1) (rdI t (p + 1 + rdI t (p + 1) + 1))) (.inl (p + 1 + rdI t (p + 1) + 1))
      (.inr (D ++ [(rdV t (p + 1) (rdI t (p + 1)), rdV t (p + 1 + rdI t (p + 1) + 1) (rdI t (p + 1 + rdI t (p + 1) + 1)))], p + 1 + rdI t (p + 1) + 1 + rdI t (p + 1 + rdI t (p + 1) + 1)))))))) 
theorem pc_1 {t : Nat → Int} {D : List (Nat × Nat)} {p : Nat} (h : D.length = 10) : pcS t D p = .inl p := by unfold pcS; rw [ifp_t h]
theorem pc_2 {t : Nat → Int} {D : List (Nat × Nat)} {p q : Nat} (h : ¬ D.length = 10) (hq : q = p + 1 + rdI t (p + 1)) (h2 : ¬ rdO t (p + 1)) : pcS t D p = .inl q := by unfold pcS; rw [ifp_f h, ifp_t h2, ← hq]
theorem pc_3 {t : Nat → Int} {D : List (Nat × Nat)} {p q v : Nat} (h : ¬ D.length = 10) (hq : q = p + 1 + rdI t (p + 1)) (hv : v = rdV t (p + 1) (rdI t (p + 1))) (h2 : rdO t (p + 1)) (h3 : 63 < v ∨ ∃ d, d ∈ D ∧ d.1 = v) : pcS t D p = .inl (p + 1) := by unfold pcS; rw [ifp_f h, ifp_f (fun z => z h2), ← hv, ifp_t h3]
theorem pc_4 {t : Nat → Int} {D : List (Nat × Nat)} {p q v : Nat} (h : ¬ D.length = 10) (hq : q = p + 1 + rdI t (p + 1)) (hv : v = rdV t (p + 1) (rdI t (p + 1))) (h2 : rdO t (p + 1)) (h3 : ¬ (63 < v ∨ ∃ d, d ∈ D ∧ d.1 = v)) (h4 : ¬ t q = 44) : pcS t D p = .inl q := by unfold pcS; rw [ifp_f h, ifp_f (fun z => z h2), ← hv, ifp_f h3, ← hq, ifp_t h4]
theorem pc_5 {t : Nat → Int} {D : List (Nat × Nat)} {p q v q2 : Nat} (h : ¬ D.length = 10) (hq : q = p + 1 + rdI t (p + 1)) (hv : v = rdV t (p + 1) (rdI t (p + 1))) (h2 : rdO t (p + 1)) (h3 : ¬ (63 < v ∨ ∃ d, d ∈ D ∧ d.1 = v)) (h4 : t q = 44) (hq2 : q2 = q + 1 + rdI t (q + 1)) (h5 : ¬ rdO t (q + 1)) : pcS t D p = .inl q2 := by unfold pcS; rw [ifp_f h, ifp_f (fun z => z h2), ← hv, ifp_f h3, ← hq, ifp_f (fun z => z h4), ifp_t h5, ← hq2]
theorem pc_6 {t : Nat → Int} {D : List (Nat × Nat)} {p q v q2 w : Nat} (h : ¬ D.length = 10) (hq : q = p + 1 + rdI t (p + 1)) (hv : v = rdV t (p + 1) (rdI t (p + 1))) (h2 : rdO t (p + 1)) (h3 : ¬ (63 < v ∨ ∃ d, d ∈ D ∧ d.1 = v)) (h4 : t q = 44) (hq2 : q2 = q + 1 + rdI t (q + 1)) (hw : w = rdV t (q + 1) (rdI t (q + 1))) (h5 : rdO t (q + 1)) (h6 : 60 < w) : pcS t D p = .inl (q + 1) := by unfold pcS; rw [ifp_f h, ifp_f (fun z => z h2), ← hv, ifp_f h3, ← hq, ifp_f (fun z => z h4), ifp_f (fun z => z h5), ← hw, ifp_t h6]
theorem pc_7 {t : Nat → Int} {D : List (Nat × Nat)} {p q v q2 w : Nat} (h : ¬ D.length = 10) (hq : q = p + 1 + rdI t (p + 1)) (hv : v = rdV t (p + 1) (rdI t (p + 1))) (h2 : rdO t (p + 1)) (h3 : ¬ (63 < v ∨ ∃ d, d ∈ D ∧ d.1 = v)) (h4 : t q = 44) (hq2 : q2 = q + 1 + rdI t (q + 1)) (hw : w = rdV t (q + 1) (rdI t (q + 1))) (h5 : rdO t (q + 1)) (h6 : ¬ 60 < w) : pcS t D p = .inr (D ++ [(v, w)], q2) := by unfold pcS; rw [ifp_f h, ifp_f (fun z => z h2), ← hv, ifp_f h3, ← hq, ifp_f (fun z => z h4), ifp_f (fun z => z h5), ← hw, ifp_f h6, ← hq2]
def drR (mi : MI) (D : List (Nat × Nat)) : Prop := ∀ (k : Nat) (d : Nat × Nat), D[k]? = some d → (mi 71 (2 * k)).toInt = (d.1 : Int) ∧ (mi 71 (2 * k + 1)).toInt = (d.2 : Int)
theorem drR_add {mi mj : MI} {D : List (Nat × Nat)} {v w dc : Nat} (h : drR mi D) (hdc : D.length = dc) (e1 : ∀ k, k < 2 * dc → mj 71 k = mi 71 k) (e2 : (mj 71 (2 * dc)).toInt = (v : Int)) (e3 : (mj 71 (2 * dc + 1)).toInt = (w : Int)) : drR mj (D ++ [(v, w)]) := by
  subst hdc
  intro k x hx
  rcases Nat.lt_or_ge k D.length with hl | hl
  · rw [List.getElem?_append_left hl] at hx
    rw [e1 _ (by omega), e1 _ (by omega)]
    exact h k x hx
  · rw [List.getElem?_append_right hl] at hx
    have h1 : k - D.length < 1 := (List.getElem?_eq_some_iff.mp hx).1
    have h2 : k = D.length := by omega
    subst h2
    rw [Nat.sub_self] at hx
    cases hx
    exact ⟨e2, e3⟩
def tkP (D : List (Nat × Nat)) (v i : Nat) : Prop := 63 < v ∨ ∃ d, d ∈ D.take i ∧ d.1 = v
theorem tk_s {α : Type} {L : List α} {i : Nat} {s : α} (h : L[i]? = some s) : L.take (i + 1) = L.take i ++ [s] := by rw [List.take_add_one, h]; rfl
theorem tk_1 {D : List (Nat × Nat)} {v i : Nat} {x : Int32} {d : Nat × Nat} (h : x = bI (tkP D v i)) (c : x.toInt ≠ 0) (hd : D[i]? = some d) : (1 : Int32) = bI (tkP D v (i + 1)) := b1 (by
  rcases xB_t h c with q | ⟨y, hy, e⟩
  · exact Or.inl q
  · exact Or.inr ⟨y, by rw [tk_s hd]; exact List.mem_append_left _ hy, e⟩)
theorem tk_2 {D : List (Nat × Nat)} {v i : Nat} {d : Nat × Nat} (hd : D[i]? = some d) (e : d.1 = v) : (1 : Int32) = bI (tkP D v (i + 1)) := b1 (Or.inr ⟨d, by rw [tk_s hd]; exact List.mem_append_right _ (List.mem_singleton.mpr rfl), e⟩)
theorem tk_3 {D : List (Nat × Nat)} {v i : Nat} {x : Int32} {d : Nat × Nat} (h : x = bI (tkP D v i)) (c : x.toInt = 0) (hd : D[i]? = some d) (e : d.1 ≠ v) : (0 : Int32) = bI (tkP D v (i + 1)) := b0 (fun q => by
  have hn := xB_f h c
  rcases q with q | ⟨y, hy, e2⟩
  · exact hn (Or.inl q)
  · rw [tk_s hd] at hy
    rcases List.mem_append.mp hy with z | z
    · exact hn (Or.inr ⟨y, z, e2⟩)
    · rw [List.mem_singleton.mp z] at e2; exact e e2)
def RfQ (P : Prop) (q m n : Nat) : Prop := (P → q = m) ∧ (¬ P → q = n)
theorem rf_q {x a b : Int32} {P : Prop} {m n : Nat} (hy : P → x = a) (hn : ¬ P → x = b) (ha : a.toInt = (m : Int)) (hb : b.toInt = (n : Int)) : ∃ q : Nat, x.toInt = (q : Int) ∧ RfQ P q m n := by
  rcases Classical.em P with h | h
  · exact ⟨m, by rw [hy h]; exact ha, fun _ => rfl, fun z => absurd h z⟩
  · exact ⟨n, by rw [hn h]; exact hb, fun z => absurd z h, fun _ => rfl⟩
theorem c_X6_refuseb (l : Launch) (hfl : l.stackTraces = false) (mi : MI) (ml : MJ) (P : Prop) (xb : Int32) (hxb : xb = bI P) : Ct l yX6_refuse (.code yX6_refuse cX6_refuse 2 (some .boolean)) 0 0 0 [.ref 61, .int xb] (wl mi ml) (QI (fun r mi9 ml9 => ml = ml9 ∧ Fr [61] mi mi9 ∧ KF [15] mi mi9 ∧ r = bI P ∧ (P → mi9 61 15 = mi 61 21) ∧ (¬ P → mi9 61 15 = mi 61 15))) noX := by
  subst hxb
  exact c_X6_refuse l hfl mi ml P
set_option maxHeartbeats 1600000 in
set_option maxRecDepth 100000 in
theorem c_X6_readCarrier (l : Launch) (hfl : l.stackTraces = false) (mi : MI) (ml : MJ) (N p : Nat) (hN : (mi 61 4).toInt = (N : Int)) (hN2 : N ≤ 120) (hp : (mi 61 15).toInt = (p : Int)) (hp2 : p < N) (D : List (Nat × Nat)) (dc : Nat) (hdc : D.length = dc) (hdc2 : (mi 61 18).toInt = (dc : Int)) (h10 : dc ≤ 10) (hD : drR mi D) : Ct l yX6_readCarrier (.code yX6_readCarrier cX6_readCarrier 3 (some .boolean)) 3 0 0 [.ref 61] (wl mi ml) (QI (fun r mi9 ml9 => ml = ml9 ∧ Fr [61, 71] mi mi9 ∧ KF [15, 16, 18, 21] mi mi9 ∧ ((∃ e : Nat, pcS (tX (mi 64) N) D p = Sum.inl e ∧ r = 0 ∧ (mi9 61 15).toInt = (e : Int)) ∨ (∃ (D9 : List (Nat × Nat)) (q : Nat), pcS (tX (mi 64) N) D p = Sum.inr (D9, q) ∧ r = 1 ∧ (mi9 61 15).toInt = (q : Int) ∧ (mi9 61 18).toInt = (D9.length : Int) ∧ drR mi9 D9)))) noX := by
  refine Ct_of (ini := false) pn_X6 hfl (fun h => nomatch h) (Nat.le_of_ble_eq_true rfl) ?_
  show E l RX6 cX6_readCarrier 3 (some .boolean) false [] (rmE 3 0 0) (wl mi ml) (TgM (wl mi ml) 0 0 (QI (fun r mi9 ml9 => ml = ml9 ∧ Fr [61, 71] mi mi9 ∧ KF [15, 16, 18, 21] mi mi9 ∧ ((∃ e : Nat, pcS (tX (mi 64) N) D p = Sum.inl e ∧ r = 0 ∧ (mi9 61 15).toInt = (e : Int)) ∨ (∃ (D9 : List (Nat × Nat)) (q : Nat), pcS (tX (mi 64) N) D p = Sum.inr (D9, q) ∧ r = 1 ∧ (mi9 61 15).toInt = (q : Int) ∧ (mi9 61 18).toInt = (D9.length : Int) ∧ drR mi9 D9)))) noX) 0 0 0 [(0, .ref 61)] [] (wl mi ml)
  refine E_aload_n 0 dX6_readCarrier_0 rfl rfl ?_
  refine gf_X6_189 (mi 61 18) tw_61 rfl rfl dX6_readCarrier_1 ?_
  refine E_bipush 10 (by decide) dX6_readCarrier_4 ?_
  refine Z_ne (dc : Int) 10 hdc2 (show (10 : Int32).toInt = 10 from rfl) 11 dX6_readCarrier_6 (by decide) (fun c_6 => ?_) (fun c_6 => ?_)
  · skip
    refine E_aload_n 0 dX6_readCarrier_11 rfl rfl ?_
    refine E_dup rfl dX6_readCarrier_12 ?_
    refine gf_X6_177 (mi 61 15) tw_61 rfl rfl dX6_readCarrier_13 ?_
    refine E_iconst 1 (by decide) dX6_readCarrier_16 ?_
    refine E_iadd dX6_readCarrier_17 ?_
    refine pf_X6_177 tw_61 rfl dX6_readCarrier_18 ?_
    refine E_aload_n 0 dX6_readCarrier_21 rfl rfl ?_
    refine E_callV (c_X6_readNumber l hfl (u2 mi 61 15 ((mi 61 15) + 1)) ml N (p + 1) ((congrArg Int32.toInt ((u2_n (by omega)).trans rfl)).trans hN) (by omega) (((congrArg Int32.toInt (u2_s _ _ _ _)).trans (tI_add hp (show (1 : Int32).toInt = 1 from rfl) (by omega))).trans (by omega)) (by omega)) cw_X6_192 (As := []) (st := []) wi_yX6_readNumber we_yX6_readNumber (ci := 6) (q := (RX6, TX6, 23)) rfl rfl (wl_atO tw_61) rfl ⟨Nat.le_of_ble_eq_true rfl, Nat.le_of_ble_eq_true rfl, Nat.le_of_ble_eq_true rfl, Nat.le_of_ble_eq_true rfl⟩ (Nat.le_of_ble_eq_true rfl) dX6_readCarrier_22 (fun _ _ h => h) rfl (kI (fun r_22 mi_22 ml_22 h_22 => ?_))
    obtain ⟨hl9_22, hFr_22, hK_22, h15_22, h16_22, h21_22, hr_22⟩ := h_22
    subst hl9_22
    rw [show (u2 mi 61 15 ((mi 61 15) + 1)) 64 = mi 64 from (u2_p (by decide))] at h15_22 h16_22 hr_22
    subst hr_22
    obtain ⟨q_22, hq_22⟩ : ∃ q : Nat, q = (p + 1) + rdI (tX (mi 64) N) (p + 1) := ⟨_, rfl⟩
    obtain ⟨v_22, hv_22⟩ : ∃ v : Nat, v = rdV (tX (mi 64) N) (p + 1) (rdI (tX (mi 64) N) (p + 1)) := ⟨_, rfl⟩
    rw [← hq_22] at h15_22
    rw [← hv_22] at h16_22
    have hvb_22 : v_22 ≤ 99 := by rw [hv_22]; exact (rdV_le (rdI_le _ _) rdI_d).1
    have hqb_22 : (p + 1) ≤ q_22 ∧ q_22 ≤ (p + 1) + 2 := by have := rdI_le (tX (mi 64) N) (p + 1); omega
    have hqN_22 : (p + 1) ≤ N → q_22 ≤ N := fun h => by rw [hq_22]; exact rdI_N h
    refine B_ne 30 dX6_readCarrier_25 (by decide) (fun c_25 => ?_) (fun c_25 => ?_)
    · skip
      refine E_aload_n 0 dX6_readCarrier_30 rfl rfl ?_
      refine gf_X6_186 (mi_22 61 16) tw_61 rfl rfl dX6_readCarrier_31 ?_
      refine E_callS (c_X6_isChannel l hfl mi_22 ml (mi_22 61 16) (v_22 : Int) h16_22) cw_X6_61 (As := [.int (mi_22 61 16)]) (st := []) ws_yX6_isChannel rfl ⟨Nat.le_of_ble_eq_true rfl, Nat.le_of_ble_eq_true rfl, Nat.le_of_ble_eq_true rfl, Nat.le_of_ble_eq_true rfl⟩ (Nat.le_of_ble_eq_true rfl) dX6_readCarrier_34 (fun _ _ h => h) rfl (kE ?_)
      refine B_ne 44 dX6_readCarrier_37 (by decide) (fun c_37 => ?_) (fun c_37 => ?_)
      · skip
        refine E_iconst 0 (by decide) dX6_readCarrier_44 ?_
        refine E_istore_n [(1, .int 0), (0, .ref 61)] dX6_readCarrier_45 rfl (by decide) rfl ?_
        refine E_iconst 0 (by decide) dX6_readCarrier_46 ?_
        refine E_istore_n [(2, .int 0), (1, .int 0), (0, .ref 61)] dX6_readCarrier_47 rfl (by decide) rfl ?_
        have J48 : ∀ (Nm : Nat) (xt xi : Int32) (i : Nat), dc - i < Nm → xi.toInt = (i : Int) → i ≤ dc → xt = bI (tkP D v_22 i) → E l RX6 cX6_readCarrier 3 (some .boolean) false [] (rmE 3 0 0) (wl mi ml) (TgM (wl mi ml) 0 0 (QI (fun r mi9 ml9 => ml = ml9 ∧ Fr [61, 71] mi mi9 ∧ KF [15, 16, 18, 21] mi mi9 ∧ ((∃ e : Nat, pcS (tX (mi 64) N) D p = Sum.inl e ∧ r = 0 ∧ (mi9 61 15).toInt = (e : Int)) ∨ (∃ (D9 : List (Nat × Nat)) (q : Nat), pcS (tX (mi 64) N) D p = Sum.inr (D9, q) ∧ r = 1 ∧ (mi9 61 15).toInt = (q : Int) ∧ (mi9 61 18).toInt = (D9.length : Int) ∧ drR mi9 D9)))) noX) 0 0 48 [(0, .ref 61), (1, .int xt), (2, .int xi)] [] (wl mi_22 ml) := by
          intro Nm
          induction Nm with
          | zero => intros; omega
          | succ Nm ih48 =>
            intro xt xi i hN48 hxi hi ht
            refine E_iload_n 2 dX6_readCarrier_48 rfl rfl ?_
            refine E_aload_n 0 dX6_readCarrier_49 rfl rfl ?_
            refine gf_X6_189 (mi 61 18) tw_61 rfl ((hK_22 18 (by decide)).trans ((u2_n (by omega)).trans rfl)) dX6_readCarrier_50 ?_
            refine Z_ge (i : Int) (dc : Int) hxi hdc2 87 dX6_readCarrier_53 (by decide) (fun c_53 => ?_) (fun c_53 => ?_)
            · skip
              have htk : xt = bI (63 < v_22 ∨ ∃ d, d ∈ D ∧ d.1 = v_22) := by rw [ht]; unfold tkP; rw [show i = dc by omega, ← hdc, List.take_length]
              refine E_aload_n 0 dX6_readCarrier_87 rfl rfl ?_
              refine E_iload_n 1 dX6_readCarrier_88 rfl rfl ?_
              refine E_callV (c_X6_refuseb l hfl mi_22 ml (63 < v_22 ∨ ∃ d, d ∈ D ∧ d.1 = v_22) xt htk) cw_X6_196 (As := [.int xt]) (st := []) wi_yX6_refuse we_yX6_refuse (ci := 6) (q := (RX6, TX6, 23)) rfl rfl (wl_atO tw_61) rfl ⟨Nat.le_of_ble_eq_true rfl, Nat.le_of_ble_eq_true rfl, Nat.le_of_ble_eq_true rfl, Nat.le_of_ble_eq_true rfl⟩ (Nat.le_of_ble_eq_true rfl) dX6_readCarrier_89 (fun _ _ h => h) rfl (kI (fun r_89 mi_89 ml_89 h_89 => ?_))
              obtain ⟨hl9_89, hFr_89, hK_89, hr_89, hy9_89, hn9_89⟩ := h_89
              subst hl9_89
              subst hr_89
              obtain ⟨q_89, h15_89, hQ_89⟩ := rf_q (m := (p + 1)) (n := q_22) hy9_89 hn9_89 ((congrArg Int32.toInt h21_22).trans (((congrArg Int32.toInt (u2_s _ _ _ _)).trans (tI_add hp (show (1 : Int32).toInt = 1 from rfl) (by omega))).trans (by omega))) h15_22
              clear hy9_89 hn9_89
              refine B_eq 97 dX6_readCarrier_92 (by decide) (fun c_92 => ?_) (fun c_92 => ?_)
              · skip
                have hnt : ¬ (63 < v_22 ∨ ∃ d, d ∈ D ∧ d.1 = v_22) := c_92
                have he89 : q_89 = q_22 := hQ_89.2 c_92
                refine E_aload_n 0 dX6_readCarrier_97 rfl rfl ?_
                refine gf_X6_37 tw_61 rfl dX6_readCarrier_98 ?_
                refine E_iconst 2 (by decide) dX6_readCarrier_101 ?_
                refine E_aload_n 0 dX6_readCarrier_102 rfl rfl ?_
                refine gf_X6_189 (mi 61 18) tw_61 rfl ((hK_89 18 (by decide)).trans ((hK_22 18 (by decide)).trans ((u2_n (by omega)).trans rfl))) dX6_readCarrier_103 ?_
                refine E_imul dX6_readCarrier_106 ?_
                refine E_aload_n 0 dX6_readCarrier_107 rfl rfl ?_
                refine gf_X6_186 (mi_22 61 16) tw_61 rfl (hK_89 16 (by decide)) dX6_readCarrier_108 ?_
                refine S_iast (2 * dc) tw_71 ((tI_mul (show (2 : Int32).toInt = 2 from rfl) hdc2 (by omega)).trans (by omega)) (by omega) dX6_readCarrier_111 ?_
                refine E_aload_n 0 dX6_readCarrier_112 rfl rfl ?_
                refine E_bipush 44 (by decide) dX6_readCarrier_113 ?_
                refine E_callV (c_X6_takes l hfl (u2 mi_89 71 (2 * dc) (mi_22 61 16)) ml N q_89 ((congrArg Int32.toInt ((u2_n (by omega)).trans ((hK_89 4 (by decide)).trans ((hK_22 4 (by decide)).trans ((u2_n (by omega)).trans rfl))))).trans hN) (by omega) (((congrArg Int32.toInt ((u2_n (by omega)).trans rfl)).trans h15_89).trans (by omega)) (by omega) 44 44 (show (44 : Int32).toInt = 44 from rfl)) cw_X6_200 (As := [.int 44]) (st := []) wi_yX6_takes we_yX6_takes (ci := 6) (q := (RX6, TX6, 23)) rfl rfl (wl_atO tw_61) rfl ⟨Nat.le_of_ble_eq_true rfl, Nat.le_of_ble_eq_true rfl, Nat.le_of_ble_eq_true rfl, Nat.le_of_ble_eq_true rfl⟩ (Nat.le_of_ble_eq_true rfl) dX6_readCarrier_115 (fun _ _ h => h) rfl (kI (fun r_115 mi_115 ml_115 h_115 => ?_))
                obtain ⟨hl9_115, hFr_115, hK_115, hr_115, q_115, h15_115, hQ_115⟩ := h_115
                subst hl9_115
                rw [show (u2 mi_89 71 (2 * dc) (mi_22 61 16)) 64 = mi 64 from ((u2_p (by decide)).trans ((hFr_89 64 (by decide)).trans ((hFr_22 64 (by decide)).trans (u2_p (by decide)))))] at hr_115 hQ_115
                replace hQ_115 : RfQ (tX (mi 64) N q_89 = 44) q_115 (q_89 + 1) q_89 := hQ_115
                subst hr_115
                refine B_eq 149 dX6_readCarrier_118 (by decide) (fun c_118 => ?_) (fun c_118 => ?_)
                · skip
                  refine E_iconst 0 (by decide) dX6_readCarrier_149 ?_
                  refine E_zret rfl rfl (Nat.le_of_ble_eq_true rfl) (Nat.le_of_ble_eq_true rfl) dX6_readCarrier_150 ?_
                  exact okQI ⟨rfl, (Fr.trans (F := [61, 71]) (G := [61]) (H := [61, 71]) ((Fr.trans (F := [61, 71]) (G := [61]) (H := [61, 71]) (Fr.trans (F := [61, 71]) (G := [61]) (H := [61, 71]) (Fr.rfl'.u (by decide)) hFr_22 (by decide) (by decide)) hFr_89 (by decide) (by decide)).u (by decide)) hFr_115 (by decide) (by decide)), (KF.t (L := [15, 16, 18, 21]) (M := [15]) (N := [15, 16, 18, 21]) ((KF.t (L := [15, 16, 18, 21]) (M := [15]) (N := [15, 16, 18, 21]) (KF.t (L := [15, 16, 18, 21]) (M := [15, 16, 21]) (N := [15, 16, 18, 21]) (KF.r.u (by decide)) hK_22 (by decide) (by decide)) hK_89 (by decide) (by decide)).p (by decide)) hK_115 (by decide) (by decide)), Or.inl ⟨_, pc_4 (by omega) hq_22 hv_22 c_25 hnt (by rw [← he89]; exact c_118), rfl, h15_115.trans (by rw [hQ_115.2 c_118, he89])⟩⟩
                · skip
                  have ht44 : tX (mi 64) N q_22 = 44 := by rw [← he89]; exact c_118
                  have he115 : q_115 = q_22 + 1 := by rw [hQ_115.1 c_118, he89]
                  refine E_aload_n 0 dX6_readCarrier_121 rfl rfl ?_
                  refine E_callV (c_X6_readNumber l hfl mi_115 ml N q_115 ((congrArg Int32.toInt ((hK_115 4 (by decide)).trans ((u2_n (by omega)).trans ((hK_89 4 (by decide)).trans ((hK_22 4 (by decide)).trans ((u2_n (by omega)).trans rfl)))))).trans hN) (by omega) (h15_115.trans (by omega)) (by omega)) cw_X6_192 (As := []) (st := []) wi_yX6_readNumber we_yX6_readNumber (ci := 6) (q := (RX6, TX6, 23)) rfl rfl (wl_atO tw_61) rfl ⟨Nat.le_of_ble_eq_true rfl, Nat.le_of_ble_eq_true rfl, Nat.le_of_ble_eq_true rfl, Nat.le_of_ble_eq_true rfl⟩ (Nat.le_of_ble_eq_true rfl) dX6_readCarrier_122 (fun _ _ h => h) rfl (kI (fun r_122 mi_122 ml_122 h_122 => ?_))
                  obtain ⟨hl9_122, hFr_122, hK_122, h15_122, h16_122, h21_122, hr_122⟩ := h_122
                  subst hl9_122
                  rw [show mi_115 64 = mi 64 from ((hFr_115 64 (by decide)).trans ((u2_p (by decide)).trans ((hFr_89 64 (by decide)).trans ((hFr_22 64 (by decide)).trans (u2_p (by decide))))))] at h15_122 h16_122 hr_122
                  subst hr_122
                  obtain ⟨q_122, hq_122⟩ : ∃ q : Nat, q = q_115 + rdI (tX (mi 64) N) q_115 := ⟨_, rfl⟩
                  obtain ⟨v_122, hv_122⟩ : ∃ v : Nat, v = rdV (tX (mi 64) N) q_115 (rdI (tX (mi 64) N) q_115) := ⟨_, rfl⟩
                  rw [← hq_122] at h15_122
                  rw [← hv_122] at h16_122
                  have hvb_122 : v_122 ≤ 99 := by rw [hv_122]; exact (rdV_le (rdI_le _ _) rdI_d).1
                  have hqb_122 : q_115 ≤ q_122 ∧ q_122 ≤ q_115 + 2 := by have := rdI_le (tX (mi 64) N) q_115; omega
                  have hqN_122 : q_115 ≤ N → q_122 ≤ N := fun h => by rw [hq_122]; exact rdI_N h
                  refine B_eq 149 dX6_readCarrier_125 (by decide) (fun c_125 => ?_) (fun c_125 => ?_)
                  · skip
                    refine E_iconst 0 (by decide) dX6_readCarrier_149 ?_
                    refine E_zret rfl rfl (Nat.le_of_ble_eq_true rfl) (Nat.le_of_ble_eq_true rfl) dX6_readCarrier_150 ?_
                    exact okQI ⟨rfl, (Fr.trans (F := [61, 71]) (G := [61]) (H := [61, 71]) (Fr.trans (F := [61, 71]) (G := [61]) (H := [61, 71]) ((Fr.trans (F := [61, 71]) (G := [61]) (H := [61, 71]) (Fr.trans (F := [61, 71]) (G := [61]) (H := [61, 71]) (Fr.rfl'.u (by decide)) hFr_22 (by decide) (by decide)) hFr_89 (by decide) (by decide)).u (by decide)) hFr_115 (by decide) (by decide)) hFr_122 (by decide) (by decide)), (KF.t (L := [15, 16, 18, 21]) (M := [15, 16, 21]) (N := [15, 16, 18, 21]) (KF.t (L := [15, 16, 18, 21]) (M := [15]) (N := [15, 16, 18, 21]) ((KF.t (L := [15, 16, 18, 21]) (M := [15]) (N := [15, 16, 18, 21]) (KF.t (L := [15, 16, 18, 21]) (M := [15, 16, 21]) (N := [15, 16, 18, 21]) (KF.r.u (by decide)) hK_22 (by decide) (by decide)) hK_89 (by decide) (by decide)).p (by decide)) hK_115 (by decide) (by decide)) hK_122 (by decide) (by decide)), Or.inl ⟨q_122, pc_5 (q := q_22) (v := v_22) (q2 := q_122) (by omega) hq_22 hv_22 c_25 hnt ht44 (by rw [hq_122, he115]) (by rw [← he115]; exact c_125), rfl, h15_122⟩⟩
                  · skip
                    refine E_aload_n 0 dX6_readCarrier_128 rfl rfl ?_
                    refine E_aload_n 0 dX6_readCarrier_129 rfl rfl ?_
                    refine gf_X6_186 (mi_122 61 16) tw_61 rfl rfl dX6_readCarrier_130 ?_
                    refine E_bipush 60 (by decide) dX6_readCarrier_133 ?_
                    refine Z_le (v_122 : Int) 60 h16_122 (show (60 : Int32).toInt = 60 from rfl) 142 dX6_readCarrier_135 (by decide) (fun c_135 => ?_) (fun c_135 => ?_)
                    · skip
                      refine E_iconst 0 (by decide) dX6_readCarrier_142 ?_
                      refine E_callV (c_X6_refuseb l hfl mi_122 ml (False) 0 (b0 not_false)) cw_X6_196 (As := [.int 0]) (st := []) wi_yX6_refuse we_yX6_refuse (ci := 6) (q := (RX6, TX6, 23)) rfl rfl (wl_atO tw_61) rfl ⟨Nat.le_of_ble_eq_true rfl, Nat.le_of_ble_eq_true rfl, Nat.le_of_ble_eq_true rfl, Nat.le_of_ble_eq_true rfl⟩ (Nat.le_of_ble_eq_true rfl) dX6_readCarrier_143 (fun _ _ h => h) rfl (kI (fun r_143 mi_143 ml_143 h_143 => ?_))
                      obtain ⟨hl9_143, hFr_143, hK_143, hr_143, hy9_143, hn9_143⟩ := h_143
                      subst hl9_143
                      subst hr_143
                      obtain ⟨q_143, h15_143, hQ_143⟩ := rf_q (m := q_115) (n := q_122) hy9_143 hn9_143 ((congrArg Int32.toInt h21_122).trans (h15_115.trans (by omega))) h15_122
                      clear hy9_143 hn9_143
                      refine B_eq 151 dX6_readCarrier_146 (by decide) (fun c_146 => ?_) (fun c_146 => ?_)
                      · skip
                        have hz18 : (mi_143 61 18).toInt = (dc : Int) := ((congrArg Int32.toInt ((hK_143 18 (by decide)).trans ((hK_122 18 (by decide)).trans ((hK_115 18 (by decide)).trans ((u2_n (by omega)).trans ((hK_89 18 (by decide)).trans ((hK_22 18 (by decide)).trans ((u2_n (by omega)).trans rfl)))))))).trans hdc2)
                        have hz16 : (mi_143 61 16).toInt = (v_122 : Int) := ((congrArg Int32.toInt (hK_143 16 (by decide))).trans h16_122)
                        have hz71 : mi_143 71 = (u2 mi_89 71 (2 * dc) (mi_22 61 16)) 71 := (hFr_143 71 (by decide)).trans ((hFr_122 71 (by decide)).trans (hFr_115 71 (by decide)))
                        have hy71 : mi_89 71 = mi 71 := (hFr_89 71 (by decide)).trans ((hFr_22 71 (by decide)).trans (u2_p (by decide)))
                        refine E_aload_n 0 dX6_readCarrier_151 rfl rfl ?_
                        refine gf_X6_37 tw_61 rfl dX6_readCarrier_152 ?_
                        refine E_iconst 2 (by decide) dX6_readCarrier_155 ?_
                        refine E_aload_n 0 dX6_readCarrier_156 rfl rfl ?_
                        refine gf_X6_189 (mi 61 18) tw_61 rfl ((hK_143 18 (by decide)).trans ((hK_122 18 (by decide)).trans ((hK_115 18 (by decide)).trans ((u2_n (by omega)).trans ((hK_89 18 (by decide)).trans ((hK_22 18 (by decide)).trans ((u2_n (by omega)).trans rfl))))))) dX6_readCarrier_157 ?_
                        refine E_imul dX6_readCarrier_160 ?_
                        refine E_iconst 1 (by decide) dX6_readCarrier_161 ?_
                        refine E_iadd dX6_readCarrier_162 ?_
                        refine E_aload_n 0 dX6_readCarrier_163 rfl rfl ?_
                        refine gf_X6_186 (mi_122 61 16) tw_61 rfl (hK_143 16 (by decide)) dX6_readCarrier_164 ?_
                        refine S_iast ((2 * dc) + 1) tw_71 ((tI_add (tI_mul (show (2 : Int32).toInt = 2 from rfl) hdc2 (by omega)) (show (1 : Int32).toInt = 1 from rfl) (by omega)).trans (by omega)) (by omega) dX6_readCarrier_167 ?_
                        refine E_aload_n 0 dX6_readCarrier_168 rfl rfl ?_
                        refine E_dup rfl dX6_readCarrier_169 ?_
                        refine gf_X6_189 (mi 61 18) tw_61 rfl ((u2_n (by omega)).trans ((hK_143 18 (by decide)).trans ((hK_122 18 (by decide)).trans ((hK_115 18 (by decide)).trans ((u2_n (by omega)).trans ((hK_89 18 (by decide)).trans ((hK_22 18 (by decide)).trans ((u2_n (by omega)).trans rfl)))))))) dX6_readCarrier_170 ?_
                        refine E_iconst 1 (by decide) dX6_readCarrier_173 ?_
                        refine E_iadd dX6_readCarrier_174 ?_
                        refine pf_X6_189 tw_61 rfl dX6_readCarrier_175 ?_
                        refine E_iconst 1 (by decide) dX6_readCarrier_178 ?_
                        refine E_zret rfl rfl (Nat.le_of_ble_eq_true rfl) (Nat.le_of_ble_eq_true rfl) dX6_readCarrier_179 ?_
                        exact okQI ⟨rfl, ((Fr.trans (F := [61, 71]) (G := [61]) (H := [61, 71]) (Fr.trans (F := [61, 71]) (G := [61]) (H := [61, 71]) (Fr.trans (F := [61, 71]) (G := [61]) (H := [61, 71]) ((Fr.trans (F := [61, 71]) (G := [61]) (H := [61, 71]) (Fr.trans (F := [61, 71]) (G := [61]) (H := [61, 71]) (Fr.rfl'.u (by decide)) hFr_22 (by decide) (by decide)) hFr_89 (by decide) (by decide)).u (by decide)) hFr_115 (by decide) (by decide)) hFr_122 (by decide) (by decide)) hFr_143 (by decide) (by decide)).u (by decide)).u (by decide), ((KF.t (L := [15, 16, 18, 21]) (M := [15]) (N := [15, 16, 18, 21]) (KF.t (L := [15, 16, 18, 21]) (M := [15, 16, 21]) (N := [15, 16, 18, 21]) (KF.t (L := [15, 16, 18, 21]) (M := [15]) (N := [15, 16, 18, 21]) ((KF.t (L := [15, 16, 18, 21]) (M := [15]) (N := [15, 16, 18, 21]) (KF.t (L := [15, 16, 18, 21]) (M := [15, 16, 21]) (N := [15, 16, 18, 21]) (KF.r.u (by decide)) hK_22 (by decide) (by decide)) hK_89 (by decide) (by decide)).p (by decide)) hK_115 (by decide) (by decide)) hK_122 (by decide) (by decide)) hK_143 (by decide) (by decide)).p (by decide)).u (by decide), Or.inr ⟨_, q_122, pc_7 (q := q_22) (v := v_22) (q2 := q_122) (w := v_122) (by omega) hq_22 hv_22 c_25 hnt ht44 (by rw [hq_122, he115]) (by rw [hv_122, he115]) (by rw [← he115]; exact c_125) (by first | omega | exact absurd trivial c_146), rfl, by rw [u2_n (by omega), u2_n (by omega)]; exact h15_143.trans (by rw [hQ_143.2 (by first | exact c_146 | exact not_false)]), by rw [u2_s, List.length_append, hdc]; exact (tI_add hdc2 (show (1 : Int32).toInt = 1 from rfl) (by omega)).trans (by show (dc : Int) + 1 = ((dc + 1 : Nat) : Int); omega), drR_add hD hdc (fun k hk => by rw [u2_n (by omega), u2_n (by omega), hz71, u2_n (by omega), hy71]) (by rw [u2_n (by omega), u2_n (by omega), hz71, u2_s]; exact h16_22) (by rw [u2_n (by omega), u2_s]; exact h16_122)⟩⟩
                      · skip
                        refine E_iconst 0 (by decide) dX6_readCarrier_149 ?_
                        refine E_zret rfl rfl (Nat.le_of_ble_eq_true rfl) (Nat.le_of_ble_eq_true rfl) dX6_readCarrier_150 ?_
                        exact okQI ⟨rfl, (Fr.trans (F := [61, 71]) (G := [61]) (H := [61, 71]) (Fr.trans (F := [61, 71]) (G := [61]) (H := [61, 71]) (Fr.trans (F := [61, 71]) (G := [61]) (H := [61, 71]) ((Fr.trans (F := [61, 71]) (G := [61]) (H := [61, 71]) (Fr.trans (F := [61, 71]) (G := [61]) (H := [61, 71]) (Fr.rfl'.u (by decide)) hFr_22 (by decide) (by decide)) hFr_89 (by decide) (by decide)).u (by decide)) hFr_115 (by decide) (by decide)) hFr_122 (by decide) (by decide)) hFr_143 (by decide) (by decide)), (KF.t (L := [15, 16, 18, 21]) (M := [15]) (N := [15, 16, 18, 21]) (KF.t (L := [15, 16, 18, 21]) (M := [15, 16, 21]) (N := [15, 16, 18, 21]) (KF.t (L := [15, 16, 18, 21]) (M := [15]) (N := [15, 16, 18, 21]) ((KF.t (L := [15, 16, 18, 21]) (M := [15]) (N := [15, 16, 18, 21]) (KF.t (L := [15, 16, 18, 21]) (M := [15, 16, 21]) (N := [15, 16, 18, 21]) (KF.r.u (by decide)) hK_22 (by decide) (by decide)) hK_89 (by decide) (by decide)).p (by decide)) hK_115 (by decide) (by decide)) hK_122 (by decide) (by decide)) hK_143 (by decide) (by decide)), Or.inl ⟨_, pc_6 (q := q_22) (v := v_22) (q2 := q_122) (w := v_122) (by omega) hq_22 hv_22 c_25 hnt ht44 (by rw [hq_122, he115]) (by rw [hv_122, he115]) (by rw [← he115]; exact c_125) (by first | omega | exact False.elim c_146), rfl, h15_143.trans (by rw [hQ_143.1 (by first | exact c_146 | trivial), he115])⟩⟩
                    · skip
                      refine E_iconst 1 (by decide) dX6_readCarrier_138 ?_
                      refine E_goto 143 dX6_readCarrier_139 (by decide) ?_
                      refine E_callV (c_X6_refuseb l hfl mi_122 ml (True) 1 (b1 trivial)) cw_X6_196 (As := [.int 1]) (st := []) wi_yX6_refuse we_yX6_refuse (ci := 6) (q := (RX6, TX6, 23)) rfl rfl (wl_atO tw_61) rfl ⟨Nat.le_of_ble_eq_true rfl, Nat.le_of_ble_eq_true rfl, Nat.le_of_ble_eq_true rfl, Nat.le_of_ble_eq_true rfl⟩ (Nat.le_of_ble_eq_true rfl) dX6_readCarrier_143 (fun _ _ h => h) rfl (kI (fun r_143 mi_143 ml_143 h_143 => ?_))
                      obtain ⟨hl9_143, hFr_143, hK_143, hr_143, hy9_143, hn9_143⟩ := h_143
                      subst hl9_143
                      subst hr_143
                      obtain ⟨q_143, h15_143, hQ_143⟩ := rf_q (m := q_115) (n := q_122) hy9_143 hn9_143 ((congrArg Int32.toInt h21_122).trans (h15_115.trans (by omega))) h15_122
                      clear hy9_143 hn9_143
                      refine B_eq 151 dX6_readCarrier_146 (by decide) (fun c_146 => ?_) (fun c_146 => ?_)
                      · skip
                        have hz18 : (mi_143 61 18).toInt = (dc : Int) := ((congrArg Int32.toInt ((hK_143 18 (by decide)).trans ((hK_122 18 (by decide)).trans ((hK_115 18 (by decide)).trans ((u2_n (by omega)).trans ((hK_89 18 (by decide)).trans ((hK_22 18 (by decide)).trans ((u2_n (by omega)).trans rfl)))))))).trans hdc2)
                        have hz16 : (mi_143 61 16).toInt = (v_122 : Int) := ((congrArg Int32.toInt (hK_143 16 (by decide))).trans h16_122)
                        have hz71 : mi_143 71 = (u2 mi_89 71 (2 * dc) (mi_22 61 16)) 71 := (hFr_143 71 (by decide)).trans ((hFr_122 71 (by decide)).trans (hFr_115 71 (by decide)))
                        have hy71 : mi_89 71 = mi 71 := (hFr_89 71 (by decide)).trans ((hFr_22 71 (by decide)).trans (u2_p (by decide)))
                        refine E_aload_n 0 dX6_readCarrier_151 rfl rfl ?_
                        refine gf_X6_37 tw_61 rfl dX6_readCarrier_152 ?_
                        refine E_iconst 2 (by decide) dX6_readCarrier_155 ?_
                        refine E_aload_n 0 dX6_readCarrier_156 rfl rfl ?_
                        refine gf_X6_189 (mi 61 18) tw_61 rfl ((hK_143 18 (by decide)).trans ((hK_122 18 (by decide)).trans ((hK_115 18 (by decide)).trans ((u2_n (by omega)).trans ((hK_89 18 (by decide)).trans ((hK_22 18 (by decide)).trans ((u2_n (by omega)).trans rfl))))))) dX6_readCarrier_157 ?_
                        refine E_imul dX6_readCarrier_160 ?_
                        refine E_iconst 1 (by decide) dX6_readCarrier_161 ?_
                        refine E_iadd dX6_readCarrier_162 ?_
                        refine E_aload_n 0 dX6_readCarrier_163 rfl rfl ?_
                        refine gf_X6_186 (mi_122 61 16) tw_61 rfl (hK_143 16 (by decide)) dX6_readCarrier_164 ?_
                        refine S_iast ((2 * dc) + 1) tw_71 ((tI_add (tI_mul (show (2 : Int32).toInt = 2 from rfl) hdc2 (by omega)) (show (1 : Int32).toInt = 1 from rfl) (by omega)).trans (by omega)) (by omega) dX6_readCarrier_167 ?_
                        refine E_aload_n 0 dX6_readCarrier_168 rfl rfl ?_
                        refine E_dup rfl dX6_readCarrier_169 ?_
                        refine gf_X6_189 (mi 61 18) tw_61 rfl ((u2_n (by omega)).trans ((hK_143 18 (by decide)).trans ((hK_122 18 (by decide)).trans ((hK_115 18 (by decide)).trans ((u2_n (by omega)).trans ((hK_89 18 (by decide)).trans ((hK_22 18 (by decide)).trans ((u2_n (by omega)).trans rfl)))))))) dX6_readCarrier_170 ?_
                        refine E_iconst 1 (by decide) dX6_readCarrier_173 ?_
                        refine E_iadd dX6_readCarrier_174 ?_
                        refine pf_X6_189 tw_61 rfl dX6_readCarrier_175 ?_
                        refine E_iconst 1 (by decide) dX6_readCarrier_178 ?_
                        refine E_zret rfl rfl (Nat.le_of_ble_eq_true rfl) (Nat.le_of_ble_eq_true rfl) dX6_readCarrier_179 ?_
                        exact okQI ⟨rfl, ((Fr.trans (F := [61, 71]) (G := [61]) (H := [61, 71]) (Fr.trans (F := [61, 71]) (G := [61]) (H := [61, 71]) (Fr.trans (F := [61, 71]) (G := [61]) (H := [61, 71]) ((Fr.trans (F := [61, 71]) (G := [61]) (H := [61, 71]) (Fr.trans (F := [61, 71]) (G := [61]) (H := [61, 71]) (Fr.rfl'.u (by decide)) hFr_22 (by decide) (by decide)) hFr_89 (by decide) (by decide)).u (by decide)) hFr_115 (by decide) (by decide)) hFr_122 (by decide) (by decide)) hFr_143 (by decide) (by decide)).u (by decide)).u (by decide), ((KF.t (L := [15, 16, 18, 21]) (M := [15]) (N := [15, 16, 18, 21]) (KF.t (L := [15, 16, 18, 21]) (M := [15, 16, 21]) (N := [15, 16, 18, 21]) (KF.t (L := [15, 16, 18, 21]) (M := [15]) (N := [15, 16, 18, 21]) ((KF.t (L := [15, 16, 18, 21]) (M := [15]) (N := [15, 16, 18, 21]) (KF.t (L := [15, 16, 18, 21]) (M := [15, 16, 21]) (N := [15, 16, 18, 21]) (KF.r.u (by decide)) hK_22 (by decide) (by decide)) hK_89 (by decide) (by decide)).p (by decide)) hK_115 (by decide) (by decide)) hK_122 (by decide) (by decide)) hK_143 (by decide) (by decide)).p (by decide)).u (by decide), Or.inr ⟨_, q_122, pc_7 (q := q_22) (v := v_22) (q2 := q_122) (w := v_122) (by omega) hq_22 hv_22 c_25 hnt ht44 (by rw [hq_122, he115]) (by rw [hv_122, he115]) (by rw [← he115]; exact c_125) (by first | omega | exact absurd trivial c_146), rfl, by rw [u2_n (by omega), u2_n (by omega)]; exact h15_143.trans (by rw [hQ_143.2 (by first | exact c_146 | exact not_false)]), by rw [u2_s, List.length_append, hdc]; exact (tI_add hdc2 (show (1 : Int32).toInt = 1 from rfl) (by omega)).trans (by show (dc : Int) + 1 = ((dc + 1 : Nat) : Int); omega), drR_add hD hdc (fun k hk => by rw [u2_n (by omega), u2_n (by omega), hz71, u2_n (by omega), hy71]) (by rw [u2_n (by omega), u2_n (by omega), hz71, u2_s]; exact h16_22) (by rw [u2_n (by omega), u2_s]; exact h16_122)⟩⟩
                      · skip
                        refine E_iconst 0 (by decide) dX6_readCarrier_149 ?_
                        refine E_zret rfl rfl (Nat.le_of_ble_eq_true rfl) (Nat.le_of_ble_eq_true rfl) dX6_readCarrier_150 ?_
                        exact okQI ⟨rfl, (Fr.trans (F := [61, 71]) (G := [61]) (H := [61, 71]) (Fr.trans (F := [61, 71]) (G := [61]) (H := [61, 71]) (Fr.trans (F := [61, 71]) (G := [61]) (H := [61, 71]) ((Fr.trans (F := [61, 71]) (G := [61]) (H := [61, 71]) (Fr.trans (F := [61, 71]) (G := [61]) (H := [61, 71]) (Fr.rfl'.u (by decide)) hFr_22 (by decide) (by decide)) hFr_89 (by decide) (by decide)).u (by decide)) hFr_115 (by decide) (by decide)) hFr_122 (by decide) (by decide)) hFr_143 (by decide) (by decide)), (KF.t (L := [15, 16, 18, 21]) (M := [15]) (N := [15, 16, 18, 21]) (KF.t (L := [15, 16, 18, 21]) (M := [15, 16, 21]) (N := [15, 16, 18, 21]) (KF.t (L := [15, 16, 18, 21]) (M := [15]) (N := [15, 16, 18, 21]) ((KF.t (L := [15, 16, 18, 21]) (M := [15]) (N := [15, 16, 18, 21]) (KF.t (L := [15, 16, 18, 21]) (M := [15, 16, 21]) (N := [15, 16, 18, 21]) (KF.r.u (by decide)) hK_22 (by decide) (by decide)) hK_89 (by decide) (by decide)).p (by decide)) hK_115 (by decide) (by decide)) hK_122 (by decide) (by decide)) hK_143 (by decide) (by decide)), Or.inl ⟨_, pc_6 (q := q_22) (v := v_22) (q2 := q_122) (w := v_122) (by omega) hq_22 hv_22 c_25 hnt ht44 (by rw [hq_122, he115]) (by rw [hv_122, he115]) (by rw [← he115]; exact c_125) (by first | omega | exact False.elim c_146), rfl, h15_143.trans (by rw [hQ_143.1 (by first | exact c_146 | trivial), he115])⟩⟩
              · skip
                refine E_iconst 0 (by decide) dX6_readCarrier_95 ?_
                refine E_zret rfl rfl (Nat.le_of_ble_eq_true rfl) (Nat.le_of_ble_eq_true rfl) dX6_readCarrier_96 ?_
                exact okQI ⟨rfl, (Fr.trans (F := [61, 71]) (G := [61]) (H := [61, 71]) (Fr.trans (F := [61, 71]) (G := [61]) (H := [61, 71]) (Fr.rfl'.u (by decide)) hFr_22 (by decide) (by decide)) hFr_89 (by decide) (by decide)), (KF.t (L := [15, 16, 18, 21]) (M := [15]) (N := [15, 16, 18, 21]) (KF.t (L := [15, 16, 18, 21]) (M := [15, 16, 21]) (N := [15, 16, 18, 21]) (KF.r.u (by decide)) hK_22 (by decide) (by decide)) hK_89 (by decide) (by decide)), Or.inl ⟨p + 1, pc_3 (by omega) hq_22 hv_22 c_25 c_92, rfl, h15_89.trans (by rw [hQ_89.1 c_92])⟩⟩
            · skip
              obtain ⟨d9, hd9⟩ : ∃ q, D[i]? = some q := ⟨_, List.getElem?_eq_getElem (by omega)⟩
              have hdv := (hD i d9 hd9).1
              refine E_iload_n 1 dX6_readCarrier_56 rfl rfl ?_
              refine Y_ne xt.toInt rfl 75 dX6_readCarrier_57 (by decide) (fun c_57 => ?_) (fun c_57 => ?_)
              · skip
                refine E_iconst 1 (by decide) dX6_readCarrier_75 ?_
                refine E_goto 80 dX6_readCarrier_76 (by decide) ?_
                refine E_istore_n [(1, .int 1), (0, .ref 61), (2, .int xi)] dX6_readCarrier_80 rfl (by decide) rfl ?_
                refine E_iinc 2 (xi + 1) [(2, .int (xi + 1)), (1, .int 1), (0, .ref 61)] dX6_readCarrier_81 rfl rfl (by decide) rfl ?_
                refine E_goto 48 dX6_readCarrier_84 (by decide) ?_
                refine E_sub [2, 1, 0] rfl ?_
                exact ih48 1 (xi + 1) (i + 1) (by omega) ((tI_add hxi (show (1 : Int32).toInt = 1 from rfl) (by omega)).trans (by omega)) (by omega) (by first | exact tk_1 ht c_57 hd9 | exact tk_2 hd9 (by omega) | exact tk_3 ht c_57 hd9 (by omega))
              · skip
                refine E_aload_n 0 dX6_readCarrier_60 rfl rfl ?_
                refine gf_X6_37 tw_61 rfl dX6_readCarrier_61 ?_
                refine E_iconst 2 (by decide) dX6_readCarrier_64 ?_
                refine E_iload_n 2 dX6_readCarrier_65 rfl rfl ?_
                refine E_imul dX6_readCarrier_66 ?_
                refine S_iald (2 * i) (mi 71 (2 * i)) tw_71 ((tI_mul (show (2 : Int32).toInt = 2 from rfl) hxi (by omega)).trans (by omega)) (by omega) ((congrFun (hFr_22 71 (by decide)) (2 * i)).trans (u2_n (by omega))) dX6_readCarrier_67 ?_
                refine E_aload_n 0 dX6_readCarrier_68 rfl rfl ?_
                refine gf_X6_186 (mi_22 61 16) tw_61 rfl rfl dX6_readCarrier_69 ?_
                refine Z_ne (d9.1 : Int) (v_22 : Int) hdv h16_22 79 dX6_readCarrier_72 (by decide) (fun c_72 => ?_) (fun c_72 => ?_)
                · skip
                  refine E_iconst 0 (by decide) dX6_readCarrier_79 ?_
                  refine E_istore_n [(1, .int 0), (0, .ref 61), (2, .int xi)] dX6_readCarrier_80 rfl (by decide) rfl ?_
                  refine E_iinc 2 (xi + 1) [(2, .int (xi + 1)), (1, .int 0), (0, .ref 61)] dX6_readCarrier_81 rfl rfl (by decide) rfl ?_
                  refine E_goto 48 dX6_readCarrier_84 (by decide) ?_
                  refine E_sub [2, 1, 0] rfl ?_
                  exact ih48 0 (xi + 1) (i + 1) (by omega) ((tI_add hxi (show (1 : Int32).toInt = 1 from rfl) (by omega)).trans (by omega)) (by omega) (by first | exact tk_1 ht c_57 hd9 | exact tk_2 hd9 (by omega) | exact tk_3 ht c_57 hd9 (by omega))
                · skip
                  refine E_iconst 1 (by decide) dX6_readCarrier_75 ?_
                  refine E_goto 80 dX6_readCarrier_76 (by decide) ?_
                  refine E_istore_n [(1, .int 1), (0, .ref 61), (2, .int xi)] dX6_readCarrier_80 rfl (by decide) rfl ?_
                  refine E_iinc 2 (xi + 1) [(2, .int (xi + 1)), (1, .int 1), (0, .ref 61)] dX6_readCarrier_81 rfl rfl (by decide) rfl ?_
                  refine E_goto 48 dX6_readCarrier_84 (by decide) ?_
                  refine E_sub [2, 1, 0] rfl ?_
                  exact ih48 1 (xi + 1) (i + 1) (by omega) ((tI_add hxi (show (1 : Int32).toInt = 1 from rfl) (by omega)).trans (by omega)) (by omega) (by first | exact tk_1 ht c_57 hd9 | exact tk_2 hd9 (by omega) | exact tk_3 ht c_57 hd9 (by omega))
        refine E_sub [2, 1, 0] rfl ?_
        exact J48 _ 0 0 0 (Nat.lt_succ_self _) (show (0 : Int32).toInt = 0 from rfl) (Nat.zero_le _) (b0 (fun q => q.elim (fun z => absurd z (by omega)) (fun z => by obtain ⟨d, hd, -⟩ := z; simp at hd)))
      · skip
        refine E_iconst 1 (by decide) dX6_readCarrier_40 ?_
        refine E_goto 45 dX6_readCarrier_41 (by decide) ?_
        refine E_istore_n [(1, .int 1), (0, .ref 61)] dX6_readCarrier_45 rfl (by decide) rfl ?_
        refine E_iconst 0 (by decide) dX6_readCarrier_46 ?_
        refine E_istore_n [(2, .int 0), (1, .int 1), (0, .ref 61)] dX6_readCarrier_47 rfl (by decide) rfl ?_
        have J48 : ∀ (Nm : Nat) (xt xi : Int32) (i : Nat), dc - i < Nm → xi.toInt = (i : Int) → i ≤ dc → xt = bI (tkP D v_22 i) → E l RX6 cX6_readCarrier 3 (some .boolean) false [] (rmE 3 0 0) (wl mi ml) (TgM (wl mi ml) 0 0 (QI (fun r mi9 ml9 => ml = ml9 ∧ Fr [61, 71] mi mi9 ∧ KF [15, 16, 18, 21] mi mi9 ∧ ((∃ e : Nat, pcS (tX (mi 64) N) D p = Sum.inl e ∧ r = 0 ∧ (mi9 61 15).toInt = (e : Int)) ∨ (∃ (D9 : List (Nat × Nat)) (q : Nat), pcS (tX (mi 64) N) D p = Sum.inr (D9, q) ∧ r = 1 ∧ (mi9 61 15).toInt = (q : Int) ∧ (mi9 61 18).toInt = (D9.length : Int) ∧ drR mi9 D9)))) noX) 0 0 48 [(0, .ref 61), (1, .int xt), (2, .int xi)] [] (wl mi_22 ml) := by
          intro Nm
          induction Nm with
          | zero => intros; omega
          | succ Nm ih48 =>
            intro xt xi i hN48 hxi hi ht
            refine E_iload_n 2 dX6_readCarrier_48 rfl rfl ?_
            refine E_aload_n 0 dX6_readCarrier_49 rfl rfl ?_
            refine gf_X6_189 (mi 61 18) tw_61 rfl ((hK_22 18 (by decide)).trans ((u2_n (by omega)).trans rfl)) dX6_readCarrier_50 ?_
            refine Z_ge (i : Int) (dc : Int) hxi hdc2 87 dX6_readCarrier_53 (by decide) (fun c_53 => ?_) (fun c_53 => ?_)
            · skip
              have htk : xt = bI (63 < v_22 ∨ ∃ d, d ∈ D ∧ d.1 = v_22) := by rw [ht]; unfold tkP; rw [show i = dc by omega, ← hdc, List.take_length]
              refine E_aload_n 0 dX6_readCarrier_87 rfl rfl ?_
              refine E_iload_n 1 dX6_readCarrier_88 rfl rfl ?_
              refine E_callV (c_X6_refuseb l hfl mi_22 ml (63 < v_22 ∨ ∃ d, d ∈ D ∧ d.1 = v_22) xt htk) cw_X6_196 (As := [.int xt]) (st := []) wi_yX6_refuse we_yX6_refuse (ci := 6) (q := (RX6, TX6, 23)) rfl rfl (wl_atO tw_61) rfl ⟨Nat.le_of_ble_eq_true rfl, Nat.le_of_ble_eq_true rfl, Nat.le_of_ble_eq_true rfl, Nat.le_of_ble_eq_true rfl⟩ (Nat.le_of_ble_eq_true rfl) dX6_readCarrier_89 (fun _ _ h => h) rfl (kI (fun r_89 mi_89 ml_89 h_89 => ?_))
              obtain ⟨hl9_89, hFr_89, hK_89, hr_89, hy9_89, hn9_89⟩ := h_89
              subst hl9_89
              subst hr_89
              obtain ⟨q_89, h15_89, hQ_89⟩ := rf_q (m := (p + 1)) (n := q_22) hy9_89 hn9_89 ((congrArg Int32.toInt h21_22).trans (((congrArg Int32.toInt (u2_s _ _ _ _)).trans (tI_add hp (show (1 : Int32).toInt = 1 from rfl) (by omega))).trans (by omega))) h15_22
              clear hy9_89 hn9_89
              refine B_eq 97 dX6_readCarrier_92 (by decide) (fun c_92 => ?_) (fun c_92 => ?_)
              · skip
                have hnt : ¬ (63 < v_22 ∨ ∃ d, d ∈ D ∧ d.1 = v_22) := c_92
                have he89 : q_89 = q_22 := hQ_89.2 c_92
                refine E_aload_n 0 dX6_readCarrier_97 rfl rfl ?_
                refine gf_X6_37 tw_61 rfl dX6_readCarrier_98 ?_
                refine E_iconst 2 (by decide) dX6_readCarrier_101 ?_
                refine E_aload_n 0 dX6_readCarrier_102 rfl rfl ?_
                refine gf_X6_189 (mi 61 18) tw_61 rfl ((hK_89 18 (by decide)).trans ((hK_22 18 (by decide)).trans ((u2_n (by omega)).trans rfl))) dX6_readCarrier_103 ?_
                refine E_imul dX6_readCarrier_106 ?_
                refine E_aload_n 0 dX6_readCarrier_107 rfl rfl ?_
                refine gf_X6_186 (mi_22 61 16) tw_61 rfl (hK_89 16 (by decide)) dX6_readCarrier_108 ?_
                refine S_iast (2 * dc) tw_71 ((tI_mul (show (2 : Int32).toInt = 2 from rfl) hdc2 (by omega)).trans (by omega)) (by omega) dX6_readCarrier_111 ?_
                refine E_aload_n 0 dX6_readCarrier_112 rfl rfl ?_
                refine E_bipush 44 (by decide) dX6_readCarrier_113 ?_
                refine E_callV (c_X6_takes l hfl (u2 mi_89 71 (2 * dc) (mi_22 61 16)) ml N q_89 ((congrArg Int32.toInt ((u2_n (by omega)).trans ((hK_89 4 (by decide)).trans ((hK_22 4 (by decide)).trans ((u2_n (by omega)).trans rfl))))).trans hN) (by omega) (((congrArg Int32.toInt ((u2_n (by omega)).trans rfl)).trans h15_89).trans (by omega)) (by omega) 44 44 (show (44 : Int32).toInt = 44 from rfl)) cw_X6_200 (As := [.int 44]) (st := []) wi_yX6_takes we_yX6_takes (ci := 6) (q := (RX6, TX6, 23)) rfl rfl (wl_atO tw_61) rfl ⟨Nat.le_of_ble_eq_true rfl, Nat.le_of_ble_eq_true rfl, Nat.le_of_ble_eq_true rfl, Nat.le_of_ble_eq_true rfl⟩ (Nat.le_of_ble_eq_true rfl) dX6_readCarrier_115 (fun _ _ h => h) rfl (kI (fun r_115 mi_115 ml_115 h_115 => ?_))
                obtain ⟨hl9_115, hFr_115, hK_115, hr_115, q_115, h15_115, hQ_115⟩ := h_115
                subst hl9_115
                rw [show (u2 mi_89 71 (2 * dc) (mi_22 61 16)) 64 = mi 64 from ((u2_p (by decide)).trans ((hFr_89 64 (by decide)).trans ((hFr_22 64 (by decide)).trans (u2_p (by decide)))))] at hr_115 hQ_115
                replace hQ_115 : RfQ (tX (mi 64) N q_89 = 44) q_115 (q_89 + 1) q_89 := hQ_115
                subst hr_115
                refine B_eq 149 dX6_readCarrier_118 (by decide) (fun c_118 => ?_) (fun c_118 => ?_)
                · skip
                  refine E_iconst 0 (by decide) dX6_readCarrier_149 ?_
                  refine E_zret rfl rfl (Nat.le_of_ble_eq_true rfl) (Nat.le_of_ble_eq_true rfl) dX6_readCarrier_150 ?_
                  exact okQI ⟨rfl, (Fr.trans (F := [61, 71]) (G := [61]) (H := [61, 71]) ((Fr.trans (F := [61, 71]) (G := [61]) (H := [61, 71]) (Fr.trans (F := [61, 71]) (G := [61]) (H := [61, 71]) (Fr.rfl'.u (by decide)) hFr_22 (by decide) (by decide)) hFr_89 (by decide) (by decide)).u (by decide)) hFr_115 (by decide) (by decide)), (KF.t (L := [15, 16, 18, 21]) (M := [15]) (N := [15, 16, 18, 21]) ((KF.t (L := [15, 16, 18, 21]) (M := [15]) (N := [15, 16, 18, 21]) (KF.t (L := [15, 16, 18, 21]) (M := [15, 16, 21]) (N := [15, 16, 18, 21]) (KF.r.u (by decide)) hK_22 (by decide) (by decide)) hK_89 (by decide) (by decide)).p (by decide)) hK_115 (by decide) (by decide)), Or.inl ⟨_, pc_4 (by omega) hq_22 hv_22 c_25 hnt (by rw [← he89]; exact c_118), rfl, h15_115.trans (by rw [hQ_115.2 c_118, he89])⟩⟩
                · skip
                  have ht44 : tX (mi 64) N q_22 = 44 := by rw [← he89]; exact c_118
                  have he115 : q_115 = q_22 + 1 := by rw [hQ_115.1 c_118, he89]
                  refine E_aload_n 0 dX6_readCarrier_121 rfl rfl ?_
                  refine E_callV (c_X6_readNumber l hfl mi_115 ml N q_115 ((congrArg Int32.toInt ((hK_115 4 (by decide)).trans ((u2_n (by omega)).trans ((hK_89 4 (by decide)).trans ((hK_22 4 (by decide)).trans ((u2_n (by omega)).trans rfl)))))).trans hN) (by omega) (h15_115.trans (by omega)) (by omega)) cw_X6_192 (As := []) (st := []) wi_yX6_readNumber we_yX6_readNumber (ci := 6) (q := (RX6, TX6, 23)) rfl rfl (wl_atO tw_61) rfl ⟨Nat.le_of_ble_eq_true rfl, Nat.le_of_ble_eq_true rfl, Nat.le_of_ble_eq_true rfl, Nat.le_of_ble_eq_true rfl⟩ (Nat.le_of_ble_eq_true rfl) dX6_readCarrier_122 (fun _ _ h => h) rfl (kI (fun r_122 mi_122 ml_122 h_122 => ?_))
                  obtain ⟨hl9_122, hFr_122, hK_122, h15_122, h16_122, h21_122, hr_122⟩ := h_122
                  subst hl9_122
                  rw [show mi_115 64 = mi 64 from ((hFr_115 64 (by decide)).trans ((u2_p (by decide)).trans ((hFr_89 64 (by decide)).trans ((hFr_22 64 (by decide)).trans (u2_p (by decide))))))] at h15_122 h16_122 hr_122
                  subst hr_122
                  obtain ⟨q_122, hq_122⟩ : ∃ q : Nat, q = q_115 + rdI (tX (mi 64) N) q_115 := ⟨_, rfl⟩
                  obtain ⟨v_122, hv_122⟩ : ∃ v : Nat, v = rdV (tX (mi 64) N) q_115 (rdI (tX (mi 64) N) q_115) := ⟨_, rfl⟩
                  rw [← hq_122] at h15_122
                  rw [← hv_122] at h16_122
                  have hvb_122 : v_122 ≤ 99 := by rw [hv_122]; exact (rdV_le (rdI_le _ _) rdI_d).1
                  have hqb_122 : q_115 ≤ q_122 ∧ q_122 ≤ q_115 + 2 := by have := rdI_le (tX (mi 64) N) q_115; omega
                  have hqN_122 : q_115 ≤ N → q_122 ≤ N := fun h => by rw [hq_122]; exact rdI_N h
                  refine B_eq 149 dX6_readCarrier_125 (by decide) (fun c_125 => ?_) (fun c_125 => ?_)
                  · skip
                    refine E_iconst 0 (by decide) dX6_readCarrier_149 ?_
                    refine E_zret rfl rfl (Nat.le_of_ble_eq_true rfl) (Nat.le_of_ble_eq_true rfl) dX6_readCarrier_150 ?_
                    exact okQI ⟨rfl, (Fr.trans (F := [61, 71]) (G := [61]) (H := [61, 71]) (Fr.trans (F := [61, 71]) (G := [61]) (H := [61, 71]) ((Fr.trans (F := [61, 71]) (G := [61]) (H := [61, 71]) (Fr.trans (F := [61, 71]) (G := [61]) (H := [61, 71]) (Fr.rfl'.u (by decide)) hFr_22 (by decide) (by decide)) hFr_89 (by decide) (by decide)).u (by decide)) hFr_115 (by decide) (by decide)) hFr_122 (by decide) (by decide)), (KF.t (L := [15, 16, 18, 21]) (M := [15, 16, 21]) (N := [15, 16, 18, 21]) (KF.t (L := [15, 16, 18, 21]) (M := [15]) (N := [15, 16, 18, 21]) ((KF.t (L := [15, 16, 18, 21]) (M := [15]) (N := [15, 16, 18, 21]) (KF.t (L := [15, 16, 18, 21]) (M := [15, 16, 21]) (N := [15, 16, 18, 21]) (KF.r.u (by decide)) hK_22 (by decide) (by decide)) hK_89 (by decide) (by decide)).p (by decide)) hK_115 (by decide) (by decide)) hK_122 (by decide) (by decide)), Or.inl ⟨q_122, pc_5 (q := q_22) (v := v_22) (q2 := q_122) (by omega) hq_22 hv_22 c_25 hnt ht44 (by rw [hq_122, he115]) (by rw [← he115]; exact c_125), rfl, h15_122⟩⟩
                  · skip
                    refine E_aload_n 0 dX6_readCarrier_128 rfl rfl ?_
                    refine E_aload_n 0 dX6_readCarrier_129 rfl rfl ?_
                    refine gf_X6_186 (mi_122 61 16) tw_61 rfl rfl dX6_readCarrier_130 ?_
                    refine E_bipush 60 (by decide) dX6_readCarrier_133 ?_
                    refine Z_le (v_122 : Int) 60 h16_122 (show (60 : Int32).toInt = 60 from rfl) 142 dX6_readCarrier_135 (by decide) (fun c_135 => ?_) (fun c_135 => ?_)
                    · skip
                      refine E_iconst 0 (by decide) dX6_readCarrier_142 ?_
                      refine E_callV (c_X6_refuseb l hfl mi_122 ml (False) 0 (b0 not_false)) cw_X6_196 (As := [.int 0]) (st := []) wi_yX6_refuse we_yX6_refuse (ci := 6) (q := (RX6, TX6, 23)) rfl rfl (wl_atO tw_61) rfl ⟨Nat.le_of_ble_eq_true rfl, Nat.le_of_ble_eq_true rfl, Nat.le_of_ble_eq_true rfl, Nat.le_of_ble_eq_true rfl⟩ (Nat.le_of_ble_eq_true rfl) dX6_readCarrier_143 (fun _ _ h => h) rfl (kI (fun r_143 mi_143 ml_143 h_143 => ?_))
                      obtain ⟨hl9_143, hFr_143, hK_143, hr_143, hy9_143, hn9_143⟩ := h_143
                      subst hl9_143
                      subst hr_143
                      obtain ⟨q_143, h15_143, hQ_143⟩ := rf_q (m := q_115) (n := q_122) hy9_143 hn9_143 ((congrArg Int32.toInt h21_122).trans (h15_115.trans (by omega))) h15_122
                      clear hy9_143 hn9_143
                      refine B_eq 151 dX6_readCarrier_146 (by decide) (fun c_146 => ?_) (fun c_146 => ?_)
                      · skip
                        have hz18 : (mi_143 61 18).toInt = (dc : Int) := ((congrArg Int32.toInt ((hK_143 18 (by decide)).trans ((hK_122 18 (by decide)).trans ((hK_115 18 (by decide)).trans ((u2_n (by omega)).trans ((hK_89 18 (by decide)).trans ((hK_22 18 (by decide)).trans ((u2_n (by omega)).trans rfl)))))))).trans hdc2)
                        have hz16 : (mi_143 61 16).toInt = (v_122 : Int) := ((congrArg Int32.toInt (hK_143 16 (by decide))).trans h16_122)
                        have hz71 : mi_143 71 = (u2 mi_89 71 (2 * dc) (mi_22 61 16)) 71 := (hFr_143 71 (by decide)).trans ((hFr_122 71 (by decide)).trans (hFr_115 71 (by decide)))
                        have hy71 : mi_89 71 = mi 71 := (hFr_89 71 (by decide)).trans ((hFr_22 71 (by decide)).trans (u2_p (by decide)))
                        refine E_aload_n 0 dX6_readCarrier_151 rfl rfl ?_
                        refine gf_X6_37 tw_61 rfl dX6_readCarrier_152 ?_
                        refine E_iconst 2 (by decide) dX6_readCarrier_155 ?_
                        refine E_aload_n 0 dX6_readCarrier_156 rfl rfl ?_
                        refine gf_X6_189 (mi 61 18) tw_61 rfl ((hK_143 18 (by decide)).trans ((hK_122 18 (by decide)).trans ((hK_115 18 (by decide)).trans ((u2_n (by omega)).trans ((hK_89 18 (by decide)).trans ((hK_22 18 (by decide)).trans ((u2_n (by omega)).trans rfl))))))) dX6_readCarrier_157 ?_
                        refine E_imul dX6_readCarrier_160 ?_
                        refine E_iconst 1 (by decide) dX6_readCarrier_161 ?_
                        refine E_iadd dX6_readCarrier_162 ?_
                        refine E_aload_n 0 dX6_readCarrier_163 rfl rfl ?_
                        refine gf_X6_186 (mi_122 61 16) tw_61 rfl (hK_143 16 (by decide)) dX6_readCarrier_164 ?_
                        refine S_iast ((2 * dc) + 1) tw_71 ((tI_add (tI_mul (show (2 : Int32).toInt = 2 from rfl) hdc2 (by omega)) (show (1 : Int32).toInt = 1 from rfl) (by omega)).trans (by omega)) (by omega) dX6_readCarrier_167 ?_
                        refine E_aload_n 0 dX6_readCarrier_168 rfl rfl ?_
                        refine E_dup rfl dX6_readCarrier_169 ?_
                        refine gf_X6_189 (mi 61 18) tw_61 rfl ((u2_n (by omega)).trans ((hK_143 18 (by decide)).trans ((hK_122 18 (by decide)).trans ((hK_115 18 (by decide)).trans ((u2_n (by omega)).trans ((hK_89 18 (by decide)).trans ((hK_22 18 (by decide)).trans ((u2_n (by omega)).trans rfl)))))))) dX6_readCarrier_170 ?_
                        refine E_iconst 1 (by decide) dX6_readCarrier_173 ?_
                        refine E_iadd dX6_readCarrier_174 ?_
                        refine pf_X6_189 tw_61 rfl dX6_readCarrier_175 ?_
                        refine E_iconst 1 (by decide) dX6_readCarrier_178 ?_
                        refine E_zret rfl rfl (Nat.le_of_ble_eq_true rfl) (Nat.le_of_ble_eq_true rfl) dX6_readCarrier_179 ?_
                        exact okQI ⟨rfl, ((Fr.trans (F := [61, 71]) (G := [61]) (H := [61, 71]) (Fr.trans (F := [61, 71]) (G := [61]) (H := [61, 71]) (Fr.trans (F := [61, 71]) (G := [61]) (H := [61, 71]) ((Fr.trans (F := [61, 71]) (G := [61]) (H := [61, 71]) (Fr.trans (F := [61, 71]) (G := [61]) (H := [61, 71]) (Fr.rfl'.u (by decide)) hFr_22 (by decide) (by decide)) hFr_89 (by decide) (by decide)).u (by decide)) hFr_115 (by decide) (by decide)) hFr_122 (by decide) (by decide)) hFr_143 (by decide) (by decide)).u (by decide)).u (by decide), ((KF.t (L := [15, 16, 18, 21]) (M := [15]) (N := [15, 16, 18, 21]) (KF.t (L := [15, 16, 18, 21]) (M := [15, 16, 21]) (N := [15, 16, 18, 21]) (KF.t (L := [15, 16, 18, 21]) (M := [15]) (N := [15, 16, 18, 21]) ((KF.t (L := [15, 16, 18, 21]) (M := [15]) (N := [15, 16, 18, 21]) (KF.t (L := [15, 16, 18, 21]) (M := [15, 16, 21]) (N := [15, 16, 18, 21]) (KF.r.u (by decide)) hK_22 (by decide) (by decide)) hK_89 (by decide) (by decide)).p (by decide)) hK_115 (by decide) (by decide)) hK_122 (by decide) (by decide)) hK_143 (by decide) (by decide)).p (by decide)).u (by decide), Or.inr ⟨_, q_122, pc_7 (q := q_22) (v := v_22) (q2 := q_122) (w := v_122) (by omega) hq_22 hv_22 c_25 hnt ht44 (by rw [hq_122, he115]) (by rw [hv_122, he115]) (by rw [← he115]; exact c_125) (by first | omega | exact absurd trivial c_146), rfl, by rw [u2_n (by omega), u2_n (by omega)]; exact h15_143.trans (by rw [hQ_143.2 (by first | exact c_146 | exact not_false)]), by rw [u2_s, List.length_append, hdc]; exact (tI_add hdc2 (show (1 : Int32).toInt = 1 from rfl) (by omega)).trans (by show (dc : Int) + 1 = ((dc + 1 : Nat) : Int); omega), drR_add hD hdc (fun k hk => by rw [u2_n (by omega), u2_n (by omega), hz71, u2_n (by omega), hy71]) (by rw [u2_n (by omega), u2_n (by omega), hz71, u2_s]; exact h16_22) (by rw [u2_n (by omega), u2_s]; exact h16_122)⟩⟩
                      · skip
                        refine E_iconst 0 (by decide) dX6_readCarrier_149 ?_
                        refine E_zret rfl rfl (Nat.le_of_ble_eq_true rfl) (Nat.le_of_ble_eq_true rfl) dX6_readCarrier_150 ?_
                        exact okQI ⟨rfl, (Fr.trans (F := [61, 71]) (G := [61]) (H := [61, 71]) (Fr.trans (F := [61, 71]) (G := [61]) (H := [61, 71]) (Fr.trans (F := [61, 71]) (G := [61]) (H := [61, 71]) ((Fr.trans (F := [61, 71]) (G := [61]) (H := [61, 71]) (Fr.trans (F := [61, 71]) (G := [61]) (H := [61, 71]) (Fr.rfl'.u (by decide)) hFr_22 (by decide) (by decide)) hFr_89 (by decide) (by decide)).u (by decide)) hFr_115 (by decide) (by decide)) hFr_122 (by decide) (by decide)) hFr_143 (by decide) (by decide)), (KF.t (L := [15, 16, 18, 21]) (M := [15]) (N := [15, 16, 18, 21]) (KF.t (L := [15, 16, 18, 21]) (M := [15, 16, 21]) (N := [15, 16, 18, 21]) (KF.t (L := [15, 16, 18, 21]) (M := [15]) (N := [15, 16, 18, 21]) ((KF.t (L := [15, 16, 18, 21]) (M := [15]) (N := [15, 16, 18, 21]) (KF.t (L := [15, 16, 18, 21]) (M := [15, 16, 21]) (N := [15, 16, 18, 21]) (KF.r.u (by decide)) hK_22 (by decide) (by decide)) hK_89 (by decide) (by decide)).p (by decide)) hK_115 (by decide) (by decide)) hK_122 (by decide) (by decide)) hK_143 (by decide) (by decide)), Or.inl ⟨_, pc_6 (q := q_22) (v := v_22) (q2 := q_122) (w := v_122) (by omega) hq_22 hv_22 c_25 hnt ht44 (by rw [hq_122, he115]) (by rw [hv_122, he115]) (by rw [← he115]; exact c_125) (by first | omega | exact False.elim c_146), rfl, h15_143.trans (by rw [hQ_143.1 (by first | exact c_146 | trivial), he115])⟩⟩
                    · skip
                      refine E_iconst 1 (by decide) dX6_readCarrier_138 ?_
                      refine E_goto 143 dX6_readCarrier_139 (by decide) ?_
                      refine E_callV (c_X6_refuseb l hfl mi_122 ml (True) 1 (b1 trivial)) cw_X6_196 (As := [.int 1]) (st := []) wi_yX6_refuse we_yX6_refuse (ci := 6) (q := (RX6, TX6, 23)) rfl rfl (wl_atO tw_61) rfl ⟨Nat.le_of_ble_eq_true rfl, Nat.le_of_ble_eq_true rfl, Nat.le_of_ble_eq_true rfl, Nat.le_of_ble_eq_true rfl⟩ (Nat.le_of_ble_eq_true rfl) dX6_readCarrier_143 (fun _ _ h => h) rfl (kI (fun r_143 mi_143 ml_143 h_143 => ?_))
                      obtain ⟨hl9_143, hFr_143, hK_143, hr_143, hy9_143, hn9_143⟩ := h_143
                      subst hl9_143
                      subst hr_143
                      obtain ⟨q_143, h15_143, hQ_143⟩ := rf_q (m := q_115) (n := q_122) hy9_143 hn9_143 ((congrArg Int32.toInt h21_122).trans (h15_115.trans (by omega))) h15_122
                      clear hy9_143 hn9_143
                      refine B_eq 151 dX6_readCarrier_146 (by decide) (fun c_146 => ?_) (fun c_146 => ?_)
                      · skip
                        have hz18 : (mi_143 61 18).toInt = (dc : Int) := ((congrArg Int32.toInt ((hK_143 18 (by decide)).trans ((hK_122 18 (by decide)).trans ((hK_115 18 (by decide)).trans ((u2_n (by omega)).trans ((hK_89 18 (by decide)).trans ((hK_22 18 (by decide)).trans ((u2_n (by omega)).trans rfl)))))))).trans hdc2)
                        have hz16 : (mi_143 61 16).toInt = (v_122 : Int) := ((congrArg Int32.toInt (hK_143 16 (by decide))).trans h16_122)
                        have hz71 : mi_143 71 = (u2 mi_89 71 (2 * dc) (mi_22 61 16)) 71 := (hFr_143 71 (by decide)).trans ((hFr_122 71 (by decide)).trans (hFr_115 71 (by decide)))
                        have hy71 : mi_89 71 = mi 71 := (hFr_89 71 (by decide)).trans ((hFr_22 71 (by decide)).trans (u2_p (by decide)))
                        refine E_aload_n 0 dX6_readCarrier_151 rfl rfl ?_
                        refine gf_X6_37 tw_61 rfl dX6_readCarrier_152 ?_
                        refine E_iconst 2 (by decide) dX6_readCarrier_155 ?_
                        refine E_aload_n 0 dX6_readCarrier_156 rfl rfl ?_
                        refine gf_X6_189 (mi 61 18) tw_61 rfl ((hK_143 18 (by decide)).trans ((hK_122 18 (by decide)).trans ((hK_115 18 (by decide)).trans ((u2_n (by omega)).trans ((hK_89 18 (by decide)).trans ((hK_22 18 (by decide)).trans ((u2_n (by omega)).trans rfl))))))) dX6_readCarrier_157 ?_
                        refine E_imul dX6_readCarrier_160 ?_
                        refine E_iconst 1 (by decide) dX6_readCarrier_161 ?_
                        refine E_iadd dX6_readCarrier_162 ?_
                        refine E_aload_n 0 dX6_readCarrier_163 rfl rfl ?_
                        refine gf_X6_186 (mi_122 61 16) tw_61 rfl (hK_143 16 (by decide)) dX6_readCarrier_164 ?_
                        refine S_iast ((2 * dc) + 1) tw_71 ((tI_add (tI_mul (show (2 : Int32).toInt = 2 from rfl) hdc2 (by omega)) (show (1 : Int32).toInt = 1 from rfl) (by omega)).trans (by omega)) (by omega) dX6_readCarrier_167 ?_
                        refine E_aload_n 0 dX6_readCarrier_168 rfl rfl ?_
                        refine E_dup rfl dX6_readCarrier_169 ?_
                        refine gf_X6_189 (mi 61 18) tw_61 rfl ((u2_n (by omega)).trans ((hK_143 18 (by decide)).trans ((hK_122 18 (by decide)).trans ((hK_115 18 (by decide)).trans ((u2_n (by omega)).trans ((hK_89 18 (by decide)).trans ((hK_22 18 (by decide)).trans ((u2_n (by omega)).trans rfl)))))))) dX6_readCarrier_170 ?_
                        refine E_iconst 1 (by decide) dX6_readCarrier_173 ?_
                        refine E_iadd dX6_readCarrier_174 ?_
                        refine pf_X6_189 tw_61 rfl dX6_readCarrier_175 ?_
                        refine E_iconst 1 (by decide) dX6_readCarrier_178 ?_
                        refine E_zret rfl rfl (Nat.le_of_ble_eq_true rfl) (Nat.le_of_ble_eq_true rfl) dX6_readCarrier_179 ?_
                        exact okQI ⟨rfl, ((Fr.trans (F := [61, 71]) (G := [61]) (H := [61, 71]) (Fr.trans (F := [61, 71]) (G := [61]) (H := [61, 71]) (Fr.trans (F := [61, 71]) (G := [61]) (H := [61, 71]) ((Fr.trans (F := [61, 71]) (G := [61]) (H := [61, 71]) (Fr.trans (F := [61, 71]) (G := [61]) (H := [61, 71]) (Fr.rfl'.u (by decide)) hFr_22 (by decide) (by decide)) hFr_89 (by decide) (by decide)).u (by decide)) hFr_115 (by decide) (by decide)) hFr_122 (by decide) (by decide)) hFr_143 (by decide) (by decide)).u (by decide)).u (by decide), ((KF.t (L := [15, 16, 18, 21]) (M := [15]) (N := [15, 16, 18, 21]) (KF.t (L := [15, 16, 18, 21]) (M := [15, 16, 21]) (N := [15, 16, 18, 21]) (KF.t (L := [15, 16, 18, 21]) (M := [15]) (N := [15, 16, 18, 21]) ((KF.t (L := [15, 16, 18, 21]) (M := [15]) (N := [15, 16, 18, 21]) (KF.t (L := [15, 16, 18, 21]) (M := [15, 16, 21]) (N := [15, 16, 18, 21]) (KF.r.u (by decide)) hK_22 (by decide) (by decide)) hK_89 (by decide) (by decide)).p (by decide)) hK_115 (by decide) (by decide)) hK_122 (by decide) (by decide)) hK_143 (by decide) (by decide)).p (by decide)).u (by decide), Or.inr ⟨_, q_122, pc_7 (q := q_22) (v := v_22) (q2 := q_122) (w := v_122) (by omega) hq_22 hv_22 c_25 hnt ht44 (by rw [hq_122, he115]) (by rw [hv_122, he115]) (by rw [← he115]; exact c_125) (by first | omega | exact absurd trivial c_146), rfl, by rw [u2_n (by omega), u2_n (by omega)]; exact h15_143.trans (by rw [hQ_143.2 (by first | exact c_146 | exact not_false)]), by rw [u2_s, List.length_append, hdc]; exact (tI_add hdc2 (show (1 : Int32).toInt = 1 from rfl) (by omega)).trans (by show (dc : Int) + 1 = ((dc + 1 : Nat) : Int); omega), drR_add hD hdc (fun k hk => by rw [u2_n (by omega), u2_n (by omega), hz71, u2_n (by omega), hy71]) (by rw [u2_n (by omega), u2_n (by omega), hz71, u2_s]; exact h16_22) (by rw [u2_n (by omega), u2_s]; exact h16_122)⟩⟩
                      · skip
                        refine E_iconst 0 (by decide) dX6_readCarrier_149 ?_
                        refine E_zret rfl rfl (Nat.le_of_ble_eq_true rfl) (Nat.le_of_ble_eq_true rfl) dX6_readCarrier_150 ?_
                        exact okQI ⟨rfl, (Fr.trans (F := [61, 71]) (G := [61]) (H := [61, 71]) (Fr.trans (F := [61, 71]) (G := [61]) (H := [61, 71]) (Fr.trans (F := [61, 71]) (G := [61]) (H := [61, 71]) ((Fr.trans (F := [61, 71]) (G := [61]) (H := [61, 71]) (Fr.trans (F := [61, 71]) (G := [61]) (H := [61, 71]) (Fr.rfl'.u (by decide)) hFr_22 (by decide) (by decide)) hFr_89 (by decide) (by decide)).u (by decide)) hFr_115 (by decide) (by decide)) hFr_122 (by decide) (by decide)) hFr_143 (by decide) (by decide)), (KF.t (L := [15, 16, 18, 21]) (M := [15]) (N := [15, 16, 18, 21]) (KF.t (L := [15, 16, 18, 21]) (M := [15, 16, 21]) (N := [15, 16, 18, 21]) (KF.t (L := [15, 16, 18, 21]) (M := [15]) (N := [15, 16, 18, 21]) ((KF.t (L := [15, 16, 18, 21]) (M := [15]) (N := [15, 16, 18, 21]) (KF.t (L := [15, 16, 18, 21]) (M := [15, 16, 21]) (N := [15, 16, 18, 21]) (KF.r.u (by decide)) hK_22 (by decide) (by decide)) hK_89 (by decide) (by decide)).p (by decide)) hK_115 (by decide) (by decide)) hK_122 (by decide) (by decide)) hK_143 (by decide) (by decide)), Or.inl ⟨_, pc_6 (q := q_22) (v := v_22) (q2 := q_122) (w := v_122) (by omega) hq_22 hv_22 c_25 hnt ht44 (by rw [hq_122, he115]) (by rw [hv_122, he115]) (by rw [← he115]; exact c_125) (by first | omega | exact False.elim c_146), rfl, h15_143.trans (by rw [hQ_143.1 (by first | exact c_146 | trivial), he115])⟩⟩
              · skip
                refine E_iconst 0 (by decide) dX6_readCarrier_95 ?_
                refine E_zret rfl rfl (Nat.le_of_ble_eq_true rfl) (Nat.le_of_ble_eq_true rfl) dX6_readCarrier_96 ?_
                exact okQI ⟨rfl, (Fr.trans (F := [61, 71]) (G := [61]) (H := [61, 71]) (Fr.trans (F := [61, 71]) (G := [61]) (H := [61, 71]) (Fr.rfl'.u (by decide)) hFr_22 (by decide) (by decide)) hFr_89 (by decide) (by decide)), (KF.t (L := [15, 16, 18, 21]) (M := [15]) (N := [15, 16, 18, 21]) (KF.t (L := [15, 16, 18, 21]) (M := [15, 16, 21]) (N := [15, 16, 18, 21]) (KF.r.u (by decide)) hK_22 (by decide) (by decide)) hK_89 (by decide) (by decide)), Or.inl ⟨p + 1, pc_3 (by omega) hq_22 hv_22 c_25 c_92, rfl, h15_89.trans (by rw [hQ_89.1 c_92])⟩⟩
            · skip
              obtain ⟨d9, hd9⟩ : ∃ q, D[i]? = some q := ⟨_, List.getElem?_eq_getElem (by omega)⟩
              have hdv := (hD i d9 hd9).1
              refine E_iload_n 1 dX6_readCarrier_56 rfl rfl ?_
              refine Y_ne xt.toInt rfl 75 dX6_readCarrier_57 (by decide) (fun c_57 => ?_) (fun c_57 => ?_)
              · skip
                refine E_iconst 1 (by decide) dX6_readCarrier_75 ?_
                refine E_goto 80 dX6_readCarrier_76 (by decide) ?_
                refine E_istore_n [(1, .int 1), (0, .ref 61), (2, .int xi)] dX6_readCarrier_80 rfl (by decide) rfl ?_
                refine E_iinc 2 (xi + 1) [(2, .int (xi + 1)), (1, .int 1), (0, .ref 61)] dX6_readCarrier_81 rfl rfl (by decide) rfl ?_
                refine E_goto 48 dX6_readCarrier_84 (by decide) ?_
                refine E_sub [2, 1, 0] rfl ?_
                exact ih48 1 (xi + 1) (i + 1) (by omega) ((tI_add hxi (show (1 : Int32).toInt = 1 from rfl) (by omega)).trans (by omega)) (by omega) (by first | exact tk_1 ht c_57 hd9 | exact tk_2 hd9 (by omega) | exact tk_3 ht c_57 hd9 (by omega))
              · skip
                refine E_aload_n 0 dX6_readCarrier_60 rfl rfl ?_
                refine gf_X6_37 tw_61 rfl dX6_readCarrier_61 ?_
                refine E_iconst 2 (by decide) dX6_readCarrier_64 ?_
                refine E_iload_n 2 dX6_readCarrier_65 rfl rfl ?_
                refine E_imul dX6_readCarrier_66 ?_
                refine S_iald (2 * i) (mi 71 (2 * i)) tw_71 ((tI_mul (show (2 : Int32).toInt = 2 from rfl) hxi (by omega)).trans (by omega)) (by omega) ((congrFun (hFr_22 71 (by decide)) (2 * i)).trans (u2_n (by omega))) dX6_readCarrier_67 ?_
                refine E_aload_n 0 dX6_readCarrier_68 rfl rfl ?_
                refine gf_X6_186 (mi_22 61 16) tw_61 rfl rfl dX6_readCarrier_69 ?_
                refine Z_ne (d9.1 : Int) (v_22 : Int) hdv h16_22 79 dX6_readCarrier_72 (by decide) (fun c_72 => ?_) (fun c_72 => ?_)
                · skip
                  refine E_iconst 0 (by decide) dX6_readCarrier_79 ?_
                  refine E_istore_n [(1, .int 0), (0, .ref 61), (2, .int xi)] dX6_readCarrier_80 rfl (by decide) rfl ?_
                  refine E_iinc 2 (xi + 1) [(2, .int (xi + 1)), (1, .int 0), (0, .ref 61)] dX6_readCarrier_81 rfl rfl (by decide) rfl ?_
                  refine E_goto 48 dX6_readCarrier_84 (by decide) ?_
                  refine E_sub [2, 1, 0] rfl ?_
                  exact ih48 0 (xi + 1) (i + 1) (by omega) ((tI_add hxi (show (1 : Int32).toInt = 1 from rfl) (by omega)).trans (by omega)) (by omega) (by first | exact tk_1 ht c_57 hd9 | exact tk_2 hd9 (by omega) | exact tk_3 ht c_57 hd9 (by omega))
                · skip
                  refine E_iconst 1 (by decide) dX6_readCarrier_75 ?_
                  refine E_goto 80 dX6_readCarrier_76 (by decide) ?_
                  refine E_istore_n [(1, .int 1), (0, .ref 61), (2, .int xi)] dX6_readCarrier_80 rfl (by decide) rfl ?_
                  refine E_iinc 2 (xi + 1) [(2, .int (xi + 1)), (1, .int 1), (0, .ref 61)] dX6_readCarrier_81 rfl rfl (by decide) rfl ?_
                  refine E_goto 48 dX6_readCarrier_84 (by decide) ?_
                  refine E_sub [2, 1, 0] rfl ?_
                  exact ih48 1 (xi + 1) (i + 1) (by omega) ((tI_add hxi (show (1 : Int32).toInt = 1 from rfl) (by omega)).trans (by omega)) (by omega) (by first | exact tk_1 ht c_57 hd9 | exact tk_2 hd9 (by omega) | exact tk_3 ht c_57 hd9 (by omega))
        refine E_sub [2, 1, 0] rfl ?_
        exact J48 _ 1 0 0 (Nat.lt_succ_self _) (show (0 : Int32).toInt = 0 from rfl) (Nat.zero_le _) (b1 (Or.inl (by omega)))
    · skip
      refine E_iconst 0 (by decide) dX6_readCarrier_28 ?_
      refine E_zret rfl rfl (Nat.le_of_ble_eq_true rfl) (Nat.le_of_ble_eq_true rfl) dX6_readCarrier_29 ?_
      exact okQI ⟨rfl, (Fr.trans (F := [61, 71]) (G := [61]) (H := [61, 71]) (Fr.rfl'.u (by decide)) hFr_22 (by decide) (by decide)), (KF.t (L := [15, 16, 18, 21]) (M := [15, 16, 21]) (N := [15, 16, 18, 21]) (KF.r.u (by decide)) hK_22 (by decide) (by decide)), Or.inl ⟨q_22, pc_2 (by omega) hq_22 c_25, rfl, h15_22⟩⟩
  · skip
    refine E_iconst 0 (by decide) dX6_readCarrier_9 ?_
    refine E_zret rfl rfl (Nat.le_of_ble_eq_true rfl) (Nat.le_of_ble_eq_true rfl) dX6_readCarrier_10 ?_
    exact okQI ⟨rfl, Fr.rfl', KF.r, Or.inl ⟨p, pc_1 (by omega), rfl, hp⟩⟩
end MO21
