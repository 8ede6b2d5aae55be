section MO10
/-- carriers that stay when those of s go -/
def keepL (n s : Nat) : List Nat := (List.range n).filter (fun c => !s.testBit c)
theorem keepL_s {n s : Nat} : keepL (n + 1) s = keepL n s ++ (if s.testBit n then [] else [n]) := by
  unfold keepL
  rw [List.range_succ, List.filter_append]
  congr 1
  by_cases h : s.testBit n = true <;> simp [h]
theorem keepL_t {n s : Nat} (h : s.testBit n = true) : keepL (n + 1) s = keepL n s := by rw [keepL_s, if_pos h, List.append_nil]
theorem keepL_f {n s : Nat} (h : ¬ s.testBit n = true) : keepL (n + 1) s = keepL n s ++ [n] := by rw [keepL_s, if_neg h]
theorem keepL_len (n s : Nat) : (keepL n s).length ≤ n := by
  have h := List.length_filter_le (fun c => !s.testBit c) (List.range n)
  simpa [keepL] using h
theorem keepL_in {n s c : Nat} (h : c ∈ keepL n s) : c < n := List.mem_range.mp (List.mem_filter.mp h).1
/-- rows by a list of carriers -/
def DVL (V : Nat → Int32) (L : List Nat) : RD := ((V 0).toInt.toNat, (V 1).toInt, (V 2).toInt, (fun k => (V (6 + 2 * L.getD k 0)).toInt), (fun k => (V (7 + 2 * L.getD k 0)).toInt))
def rowsL (mi : MI) (V : Nat → Int32) (L : List Nat) : Prop := ∀ k c, L[k]? = some c → mi 65 k = V (6 + 2 * c) ∧ mi 66 k = V (7 + 2 * c)
theorem RowM_L {mj : MI} {V : Nat → Int32} {n : Nat} {L : List Nat} (hw : WFV V) (hn : (V 5).toInt = (n : Int)) (hL : ∀ c, c ∈ L → c < n) (h : rowsL mj V L) : RowM mj (DVL V L) L.length := by
  intro k hk
  have hc : L[k]? = some (L[k]) := List.getElem?_eq_getElem hk
  have h0 := hL _ (List.mem_of_getElem? hc)
  have h1 := hw.2.2.1 (L[k]) (by omega)
  have e : L.getD k 0 = L[k] := by rw [List.getD_eq_getElem?_getD, hc]; rfl
  have h2 := h k _ hc
  refine ⟨⟨?_, ?_⟩, ⟨?_, ?_⟩⟩
  · show (mj 65 k).toInt = (V (6 + 2 * L.getD k 0)).toInt
    rw [e, h2.1]
  · show 0 ≤ (V (6 + 2 * L.getD k 0)).toInt ∧ (V (6 + 2 * L.getD k 0)).toInt ≤ 63
    rw [e]; exact h1.1
  · show (mj 66 k).toInt = (V (7 + 2 * L.getD k 0)).toInt
    rw [e, h2.2]
  · show 0 ≤ (V (7 + 2 * L.getD k 0)).toInt ∧ (V (7 + 2 * L.getD k 0)).toInt ≤ 60
    rw [e]; exact h1.2
theorem SetM_e {mj : MI} {D D' : RD} (h1 : D'.1 = D.1) (h2 : D'.2.1 = D.2.1) (h3 : D'.2.2.1 = D.2.2.1) (h : SetM mj D) : SetM mj D' := by
  unfold SetM at h ⊢
  rw [h1, h2, h3]
  exact h
theorem SetM_L {mj : MI} {V : Nat → Int32} {L : List Nat} (h : SetM mj (DV V)) : SetM mj (DVL V L) := SetM_e (by simp only [DV, DVL]) (by simp only [DV, DVL]) (by simp only [DV, DVL]) h
theorem rowsL_add {mi : MI} {V : Nat → Int32} {L : List Nat} {c : Nat} (h : rowsL mi V L) : rowsL (u2 (u2 mi 65 L.length (V (6 + 2 * c))) 66 L.length (V (7 + 2 * c))) V (L ++ [c]) := by
  intro k x hx
  rcases Nat.lt_or_ge k L.length with hl | hl
  · rw [List.getElem?_append_left hl] at hx
    rw [u2_n (by omega), u2_n (by omega), u2_n (by omega), u2_n (by omega)]
    exact h k x hx
  · rw [List.getElem?_append_right hl] at hx
    have h1 : k - L.length < 1 := (List.getElem?_eq_some_iff.mp hx).1
    have h2 : k = L.length := by omega
    subst h2
    rw [Nat.sub_self] at hx
    cases hx
    rw [u2_n (by omega), u2_s, u2_s]
    exact ⟨rfl, rfl⟩
/-- the least positive value over a set of pairs, -1 without one -/
def mnP (f : Nat → Nat → Int) (S : Nat → Nat → Prop) (x : Int) : Prop := (x = -1 ∧ ∀ a b, S a b → f a b ≤ 0) ∨ ((∃ a b, S a b ∧ 0 < f a b ∧ x = f a b) ∧ ∀ a b, S a b → 0 < f a b → x ≤ f a b)
theorem mnP_y {f : Nat → Nat → Int} {S S' : Nat → Nat → Prop} {x : Int} {a b : Nat} (h : mnP f S x) (hS : ∀ a1 b1, S' a1 b1 ↔ S a1 b1 ∨ (a1 = a ∧ b1 = b)) (h1 : 0 < f a b) (h2 : x = -1 ∨ f a b < x) : mnP f S' (f a b) := by
  refine Or.inr ⟨⟨a, b, (hS a b).mpr (Or.inr ⟨rfl, rfl⟩), h1, rfl⟩, fun a1 b1 hs h3 => ?_⟩
  rcases (hS a1 b1).mp hs with q | ⟨rfl, rfl⟩
  · rcases h with z | z
    · have := z.2 a1 b1 q; omega
    · have := z.2 a1 b1 q h3; obtain ⟨⟨a2, b2, -, h5, h6⟩, -⟩ := z; omega
  · exact Int.le_refl _
theorem mnP_n {f : Nat → Nat → Int} {S S' : Nat → Nat → Prop} {x : Int} {a b : Nat} (h : mnP f S x) (hS : ∀ a1 b1, S' a1 b1 ↔ S a1 b1 ∨ (a1 = a ∧ b1 = b)) (h1 : f a b ≤ 0 ∨ (x ≠ -1 ∧ x ≤ f a b)) : mnP f S' x := by
  rcases h with z | z
  · refine Or.inl ⟨z.1, fun a1 b1 hs => ?_⟩
    rcases (hS a1 b1).mp hs with q | ⟨rfl, rfl⟩
    · exact z.2 a1 b1 q
    · have := z.1; omega
  · obtain ⟨⟨a2, b2, h4, h5, h6⟩, h7⟩ := z
    refine Or.inr ⟨⟨a2, b2, (hS _ _).mpr (Or.inl h4), h5, h6⟩, fun a1 b1 hs h3 => ?_⟩
    rcases (hS a1 b1).mp hs with q | ⟨rfl, rfl⟩
    · exact h7 a1 b1 q h3
    · omega
theorem mnP_c {f : Nat → Nat → Int} {S S' : Nat → Nat → Prop} {x : Int} (h : mnP f S x) (hS : ∀ a b, S' a b ↔ S a b) : mnP f S' x := by
  have e : S' = S := by funext a b; exact propext (hS a b)
  rw [e]; exact h
set_option maxHeartbeats 1600000 in
set_option maxRecDepth 100000 in
theorem c_X6_isClean (l : Launch) (hfl : l.stackTraces = false) (mi : MI) (ml : MJ) (n : Nat) (hn : (mi 62 5).toInt = (n : Int)) (h10 : n ≤ 10) (hwf : WFV (mi 62)) : Ct l yX6_isClean (.code yX6_isClean cX6_isClean 1 (some .boolean)) 4 0 0 [.ref 61] (wl mi ml) (QI (fun r mi9 ml9 => ml = ml9 ∧ SM 0 mi mi9 ∧ r = bI (ClR (DV (mi 62)) (mi 62 3).toInt (mi 62 4).toInt n))) noX := by
  refine Ct_of (ini := false) pn_X6 hfl (fun h => nomatch h) (Nat.le_of_ble_eq_true rfl) ?_
  show E l RX6 cX6_isClean 1 (some .boolean) false [] (rmE 4 0 0) (wl mi ml) (TgM (wl mi ml) 0 0 (QI (fun r mi9 ml9 => ml = ml9 ∧ SM 0 mi mi9 ∧ r = bI (ClR (DV (mi 62)) (mi 62 3).toInt (mi 62 4).toInt n))) noX) 0 0 0 [(0, .ref 61)] [] (wl mi ml)
  refine E_aload_n 0 dX6_isClean_0 rfl rfl ?_
  refine E_iconst 0 (by decide) dX6_isClean_1 ?_
  refine pf_X6_43 tw_61 rfl dX6_isClean_2 ?_
  refine E_aload_n 0 dX6_isClean_5 rfl rfl ?_
  refine E_callV (c_X6_rowsOfAll l hfl (u2 mi 61 5 0) ml n ((congrArg Int32.toInt ((u2_n (by omega)).trans rfl)).trans hn) (by omega)) cw_X6_98 (As := []) (st := []) wi_yX6_rowsOfAll we_yX6_rowsOfAll (ci := 6) (q := (RX6, TX6, 23)) rfl rfl (wl_atO tw_61) rfl ⟨Nat.le_of_ble_eq_true rfl, Nat.le_of_ble_eq_true rfl, Nat.le_of_ble_eq_true rfl, Nat.le_of_ble_eq_true rfl⟩ (Nat.le_of_ble_eq_true rfl) dX6_isClean_6 (fun _ _ h => h) rfl (kV (fun mi_6 ml_6 h_6 => ?_))
  obtain ⟨rfl, hFr_6, hrw_6⟩ := h_6
  have h_6 := And.intro True.intro (And.intro hFr_6 hrw_6)
  have h62 : mi_6 62 = mi 62 := (hFr_6 62 (by decide)).trans (u2_p (by decide))
  have hrow6 : RowM mi_6 (DV (mi 62)) n := RowM_of hwf hn (fun c hc => ⟨(hrw_6 c hc).1.trans (u2_n (by omega)), (hrw_6 c hc).2.trans (u2_n (by omega))⟩)
  refine E_aload_n 0 dX6_isClean_9 rfl rfl ?_
  refine E_aload_n 0 dX6_isClean_10 rfl rfl ?_
  refine gf_X6_7 tw_61 rfl dX6_isClean_11 ?_
  refine E_iconst 5 (by decide) dX6_isClean_14 ?_
  refine S_iald 5 (mi 62 5) tw_62 rfl (by decide) ((congrFun (h_6.2.1 62 (by decide)) 5).trans ((u2_n (by omega)).trans rfl)) dX6_isClean_15 ?_
  refine E_callV (c_X6_isRowClean l hfl mi_6 ml (mi 62 0).toInt.toNat (mi 62 1).toInt (mi 62 2).toInt (fun k => (mi 62 (6 + 2 * k)).toInt) (fun k => (mi 62 (7 + 2 * k)).toInt) n ((SetM_of hwf).c h62) hrow6 (by omega) (mi 62 3).toInt (mi 62 4).toInt (by rw [h62]) hwf.1.2.2.2.1 (by rw [h62]) hwf.1.2.2.2.2 (mi 62 5) hn) cw_X6_132 (As := [.int (mi 62 5)]) (st := []) wi_yX6_isRowClean we_yX6_isRowClean (ci := 6) (q := (RX6, TX6, 23)) rfl rfl (wl_atO tw_61) rfl ⟨Nat.le_of_ble_eq_true rfl, Nat.le_of_ble_eq_true rfl, Nat.le_of_ble_eq_true rfl, Nat.le_of_ble_eq_true rfl⟩ (Nat.le_of_ble_eq_true rfl) dX6_isClean_16 (fun _ _ h => h) rfl (kE ?_)
  refine E_zret rfl nbI (Nat.le_of_ble_eq_true rfl) (Nat.le_of_ble_eq_true rfl) dX6_isClean_19 ?_
  exact okQI ⟨rfl, ⟨(Fr.trans (F := [61]) (Fr.rfl'.u (by decide)) hFr_6 (by decide) (by decide)), by rw [hFr_6 61 (by decide), u2_n (by omega)], by rw [hFr_6 61 (by decide), u2_n (by omega)], by rw [hFr_6 61 (by decide), u2_s]⟩, rfl⟩
set_option maxHeartbeats 1600000 in
set_option maxRecDepth 100000 in
theorem c_X6_closest (l : Launch) (hfl : l.stackTraces = false) (mi : MI) (ml : MJ) (n : Nat) (hn : (mi 62 5).toInt = (n : Int)) (h10 : n ≤ 10) (hwf : WFV (mi 62)) : Ct l yX6_closest (.code yX6_closest cX6_closest 5 (some .int)) 1 0 0 [.ref 61] (wl mi ml) (QI (fun r mi9 ml9 => ml = ml9 ∧ SM 0 mi mi9 ∧ mnP (fun a b => (mi 62 (6 + 2 * a)).toInt - (mi 62 (6 + 2 * b)).toInt) (fun a1 b1 => a1 < n ∧ b1 < n) r.toInt)) noX := by
  refine Ct_of (ini := false) pn_X6 hfl (fun h => nomatch h) (Nat.le_of_ble_eq_true rfl) ?_
  show E l RX6 cX6_closest 5 (some .int) false [] (rmE 1 0 0) (wl mi ml) (TgM (wl mi ml) 0 0 (QI (fun r mi9 ml9 => ml = ml9 ∧ SM 0 mi mi9 ∧ mnP (fun a b => (mi 62 (6 + 2 * a)).toInt - (mi 62 (6 + 2 * b)).toInt) (fun a1 b1 => a1 < n ∧ b1 < n) r.toInt)) noX) 0 0 0 [(0, .ref 61)] [] (wl mi ml)
  refine E_aload_n 0 dX6_closest_0 rfl rfl ?_
  refine E_iconst 0 (by decide) dX6_closest_1 ?_
  refine pf_X6_43 tw_61 rfl dX6_closest_2 ?_
  refine E_iconst (-1) (by decide) dX6_closest_5 ?_
  refine E_istore_n [(1, .int (-1)), (0, .ref 61)] dX6_closest_6 rfl (by decide) rfl ?_
  refine E_iconst 0 (by decide) dX6_closest_7 ?_
  refine E_istore_n [(2, .int 0), (1, .int (-1)), (0, .ref 61)] dX6_closest_8 rfl (by decide) rfl ?_
  have J9 : ∀ (Nm : Nat) (xa xl : Int32) (a : Nat), n - a < Nm → xa.toInt = (a : Int) → a ≤ n → mnP (fun a b => (mi 62 (6 + 2 * a)).toInt - (mi 62 (6 + 2 * b)).toInt) (fun a1 b1 => a1 < n ∧ b1 < n ∧ (a1 < a ∨ (a1 = a ∧ b1 < 0))) xl.toInt → E l RX6 cX6_closest 5 (some .int) false [] (rmE 1 0 0) (wl mi ml) (TgM (wl mi ml) 0 0 (QI (fun r mi9 ml9 => ml = ml9 ∧ SM 0 mi mi9 ∧ mnP (fun a b => (mi 62 (6 + 2 * a)).toInt - (mi 62 (6 + 2 * b)).toInt) (fun a1 b1 => a1 < n ∧ b1 < n) r.toInt)) noX) 0 0 9 [(0, .ref 61), (1, .int xl), (2, .int xa)] [] (wl (u2 mi 61 5 0) ml) := by
    intro Nm
    induction Nm with
    | zero => intros; omega
    | succ Nm ih9 =>
      intro xa xl a hN9 hxa ha hm
      refine E_iload_n 2 dX6_closest_9 rfl rfl ?_
      refine E_aload_n 0 dX6_closest_10 rfl rfl ?_
      refine gf_X6_7 tw_61 rfl dX6_closest_11 ?_
      refine E_iconst 5 (by decide) dX6_closest_14 ?_
      refine S_iald 5 (mi 62 5) tw_62 rfl (by decide) ((u2_n (by omega)).trans rfl) dX6_closest_15 ?_
      refine Z_ge (a : Int) (n : Int) hxa hn 79 dX6_closest_16 (by decide) (fun c_16 => ?_) (fun c_16 => ?_)
      · skip
        refine E_iload_n 1 dX6_closest_79 rfl rfl ?_
        refine E_iret rfl (Nat.le_of_ble_eq_true rfl) (Nat.le_of_ble_eq_true rfl) dX6_closest_80 ?_
        exact okQI ⟨rfl, SM_0, mnP_c hm (fun a1 b1 => by omega)⟩
      · skip
        refine E_iconst 0 (by decide) dX6_closest_19 ?_
        refine E_istore_n [(3, .int 0), (0, .ref 61), (1, .int xl), (2, .int xa)] dX6_closest_20 rfl (by decide) rfl ?_
        have J21 : ∀ (Nm : Nat) (xb xm : Int32) (b : Nat), n - b < Nm → xb.toInt = (b : Int) → b ≤ n → mnP (fun a b => (mi 62 (6 + 2 * a)).toInt - (mi 62 (6 + 2 * b)).toInt) (fun a1 b1 => a1 < n ∧ b1 < n ∧ (a1 < a ∨ (a1 = a ∧ b1 < b))) xm.toInt → E l RX6 cX6_closest 5 (some .int) false [] (rmE 1 0 0) (wl mi ml) (TgM (wl mi ml) 0 0 (QI (fun r mi9 ml9 => ml = ml9 ∧ SM 0 mi mi9 ∧ mnP (fun a b => (mi 62 (6 + 2 * a)).toInt - (mi 62 (6 + 2 * b)).toInt) (fun a1 b1 => a1 < n ∧ b1 < n) r.toInt)) noX) 0 0 21 [(0, .ref 61), (1, .int xm), (2, .int xa), (3, .int xb)] [] (wl (u2 mi 61 5 0) ml) := by
          intro Nm
          induction Nm with
          | zero => intros; omega
          | succ Nm ih21 =>
            intro xb xm b hN21 hxb hb hm2
            refine E_iload_n 3 dX6_closest_21 rfl rfl ?_
            refine E_aload_n 0 dX6_closest_22 rfl rfl ?_
            refine gf_X6_7 tw_61 rfl dX6_closest_23 ?_
            refine E_iconst 5 (by decide) dX6_closest_26 ?_
            refine S_iald 5 (mi 62 5) tw_62 rfl (by decide) ((u2_n (by omega)).trans rfl) dX6_closest_27 ?_
            refine Z_ge (b : Int) (n : Int) hxb hn 73 dX6_closest_28 (by decide) (fun c_28 => ?_) (fun c_28 => ?_)
            · skip
              refine E_iinc 2 (xa + 1) [(2, .int (xa + 1)), (0, .ref 61), (1, .int xm), (3, .int xb)] dX6_closest_73 rfl rfl (by decide) rfl ?_
              refine E_goto 9 dX6_closest_76 (by decide) ?_
              refine E_sub [1, 2, 0] rfl ?_
              exact ih9 (xa + 1) xm (a + 1) (by omega) ((tI_add hxa (show (1 : Int32).toInt = 1 from rfl) (by omega)).trans (by omega)) (by omega) (mnP_c hm2 (fun a1 b1 => by omega))
            · skip
              have bc := (hwf.2.2.1 a (by omega)).1
              have bd := (hwf.2.2.1 b (by omega)).1
              have hd9 : (mi 62 (6 + 2 * a) - mi 62 (6 + 2 * b)).toInt = (mi 62 (6 + 2 * a)).toInt - (mi 62 (6 + 2 * b)).toInt := tI_sub rfl rfl (by omega)
              refine E_aload_n 0 dX6_closest_31 rfl rfl ?_
              refine E_iload_n 2 dX6_closest_32 rfl rfl ?_
              refine E_callV (c_X6_channelOf l hfl (u2 mi 61 5 0) ml xa a (hxa.trans (by omega)) (by omega)) cw_X6_57 (As := [.int xa]) (st := []) wi_yX6_channelOf we_yX6_channelOf (ci := 6) (q := (RX6, TX6, 23)) rfl rfl (wl_atO tw_61) rfl ⟨Nat.le_of_ble_eq_true rfl, Nat.le_of_ble_eq_true rfl, Nat.le_of_ble_eq_true rfl, Nat.le_of_ble_eq_true rfl⟩ (Nat.le_of_ble_eq_true rfl) dX6_closest_33 (fun _ _ h => h) rfl (kE ?_)
              rw [show (u2 mi 61 5 0) 62 (6 + 2 * a) = (mi 62 (6 + 2 * a)) from ((u2_n (by omega)).trans rfl)]
              refine E_aload_n 0 dX6_closest_36 rfl rfl ?_
              refine E_iload_n 3 dX6_closest_37 rfl rfl ?_
              refine E_callV (c_X6_channelOf l hfl (u2 mi 61 5 0) ml xb b (hxb.trans (by omega)) (by omega)) cw_X6_57 (As := [.int xb]) (st := [.int (mi 62 (6 + 2 * a))]) wi_yX6_channelOf we_yX6_channelOf (ci := 6) (q := (RX6, TX6, 23)) rfl rfl (wl_atO tw_61) rfl ⟨Nat.le_of_ble_eq_true rfl, Nat.le_of_ble_eq_true rfl, Nat.le_of_ble_eq_true rfl, Nat.le_of_ble_eq_true rfl⟩ (Nat.le_of_ble_eq_true rfl) dX6_closest_38 (fun _ _ h => h) rfl (kE ?_)
              rw [show (u2 mi 61 5 0) 62 (6 + 2 * b) = (mi 62 (6 + 2 * b)) from ((u2_n (by omega)).trans rfl)]
              refine E_isub dX6_closest_41 ?_
              refine E_istore [(4, .int ((mi 62 (6 + 2 * a)) - (mi 62 (6 + 2 * b)))), (0, .ref 61), (1, .int xm), (2, .int xa), (3, .int xb)] dX6_closest_42 (by decide) rfl ?_
              refine E_iload 0 dX6_closest_44 rfl ?_
              refine Y_le ((mi 62 (6 + 2 * a)).toInt - (mi 62 (6 + 2 * b)).toInt) (tI_sub rfl rfl (by omega)) 65 dX6_closest_46 (by decide) (fun c_46 => ?_) (fun c_46 => ?_)
              · skip
                refine E_iload_n 2 dX6_closest_65 rfl rfl ?_
                refine E_istore_n [(1, .int xm), (4, .int ((mi 62 (6 + 2 * a)) - (mi 62 (6 + 2 * b)))), (0, .ref 61), (2, .int xa), (3, .int xb)] dX6_closest_66 rfl (by decide) rfl ?_
                refine E_iinc 4 (xb + 1) [(3, .int (xb + 1)), (1, .int xm), (4, .int ((mi 62 (6 + 2 * a)) - (mi 62 (6 + 2 * b)))), (0, .ref 61), (2, .int xa)] dX6_closest_67 rfl rfl (by decide) rfl ?_
                refine E_goto 21 dX6_closest_70 (by decide) ?_
                refine E_sub [3, 1, 4, 0] rfl ?_
                exact ih21 (xb + 1) xm (b + 1) (by omega) ((tI_add hxb (show (1 : Int32).toInt = 1 from rfl) (by omega)).trans (by omega)) (by omega) (mnP_n (a := a) (b := b) hm2 (fun a1 b1 => by omega) (by omega))
              · skip
                refine E_iload_n 2 dX6_closest_49 rfl rfl ?_
                refine E_iconst (-1) (by decide) dX6_closest_50 ?_
                refine Z_eq xm.toInt (-1) rfl (show ((-1) : Int32).toInt = (-1) from rfl) 60 dX6_closest_51 (by decide) (fun c_51 => ?_) (fun c_51 => ?_)
                · skip
                  refine E_iload 0 dX6_closest_60 rfl ?_
                  refine E_goto 66 dX6_closest_62 (by decide) ?_
                  refine E_istore_n [(1, .int ((mi 62 (6 + 2 * a)) - (mi 62 (6 + 2 * b)))), (4, .int ((mi 62 (6 + 2 * a)) - (mi 62 (6 + 2 * b)))), (0, .ref 61), (2, .int xa), (3, .int xb)] dX6_closest_66 rfl (by decide) rfl ?_
                  refine E_iinc 4 (xb + 1) [(3, .int (xb + 1)), (1, .int ((mi 62 (6 + 2 * a)) - (mi 62 (6 + 2 * b)))), (4, .int ((mi 62 (6 + 2 * a)) - (mi 62 (6 + 2 * b)))), (0, .ref 61), (2, .int xa)] dX6_closest_67 rfl rfl (by decide) rfl ?_
                  refine E_goto 21 dX6_closest_70 (by decide) ?_
                  refine E_sub [3, 1, 4, 0] rfl ?_
                  exact ih21 (xb + 1) ((mi 62 (6 + 2 * a)) - (mi 62 (6 + 2 * b))) (b + 1) (by omega) ((tI_add hxb (show (1 : Int32).toInt = 1 from rfl) (by omega)).trans (by omega)) (by omega) (by rw [hd9]; exact mnP_y (a := a) (b := b) hm2 (fun a1 b1 => by omega) (by omega) (by omega))
                · skip
                  refine E_iload 0 dX6_closest_54 rfl ?_
                  refine E_iload_n 2 dX6_closest_56 rfl rfl ?_
                  refine Z_ge ((mi 62 (6 + 2 * a)).toInt - (mi 62 (6 + 2 * b)).toInt) xm.toInt (tI_sub rfl rfl (by omega)) rfl 65 dX6_closest_57 (by decide) (fun c_57 => ?_) (fun c_57 => ?_)
                  · skip
                    refine E_iload_n 2 dX6_closest_65 rfl rfl ?_
                    refine E_istore_n [(1, .int xm), (4, .int ((mi 62 (6 + 2 * a)) - (mi 62 (6 + 2 * b)))), (0, .ref 61), (2, .int xa), (3, .int xb)] dX6_closest_66 rfl (by decide) rfl ?_
                    refine E_iinc 4 (xb + 1) [(3, .int (xb + 1)), (1, .int xm), (4, .int ((mi 62 (6 + 2 * a)) - (mi 62 (6 + 2 * b)))), (0, .ref 61), (2, .int xa)] dX6_closest_67 rfl rfl (by decide) rfl ?_
                    refine E_goto 21 dX6_closest_70 (by decide) ?_
                    refine E_sub [3, 1, 4, 0] rfl ?_
                    exact ih21 (xb + 1) xm (b + 1) (by omega) ((tI_add hxb (show (1 : Int32).toInt = 1 from rfl) (by omega)).trans (by omega)) (by omega) (mnP_n (a := a) (b := b) hm2 (fun a1 b1 => by omega) (by omega))
                  · skip
                    refine E_iload 0 dX6_closest_60 rfl ?_
                    refine E_goto 66 dX6_closest_62 (by decide) ?_
                    refine E_istore_n [(1, .int ((mi 62 (6 + 2 * a)) - (mi 62 (6 + 2 * b)))), (4, .int ((mi 62 (6 + 2 * a)) - (mi 62 (6 + 2 * b)))), (0, .ref 61), (2, .int xa), (3, .int xb)] dX6_closest_66 rfl (by decide) rfl ?_
                    refine E_iinc 4 (xb + 1) [(3, .int (xb + 1)), (1, .int ((mi 62 (6 + 2 * a)) - (mi 62 (6 + 2 * b)))), (4, .int ((mi 62 (6 + 2 * a)) - (mi 62 (6 + 2 * b)))), (0, .ref 61), (2, .int xa)] dX6_closest_67 rfl rfl (by decide) rfl ?_
                    refine E_goto 21 dX6_closest_70 (by decide) ?_
                    refine E_sub [3, 1, 4, 0] rfl ?_
                    exact ih21 (xb + 1) ((mi 62 (6 + 2 * a)) - (mi 62 (6 + 2 * b))) (b + 1) (by omega) ((tI_add hxb (show (1 : Int32).toInt = 1 from rfl) (by omega)).trans (by omega)) (by omega) (by rw [hd9]; exact mnP_y (a := a) (b := b) hm2 (fun a1 b1 => by omega) (by omega) (by omega))
        refine E_sub [1, 2, 3, 0] rfl ?_
        exact J21 _ 0 xl 0 (Nat.lt_succ_self _) (show (0 : Int32).toInt = 0 from rfl) (Nat.zero_le _) hm
  refine E_sub [2, 1, 0] rfl ?_
  exact J9 _ 0 (-1) 0 (Nat.lt_succ_self _) (show (0 : Int32).toInt = 0 from rfl) (Nat.zero_le _) (Or.inl ⟨rfl, fun a1 b1 h => by omega⟩)
set_option maxHeartbeats 1600000 in
set_option maxRecDepth 100000 in
theorem c_X6_isCleanWithout (l : Launch) (hfl : l.stackTraces = false) (mi : MI) (ml : MJ) (n : Nat) (hn : (mi 62 5).toInt = (n : Int)) (h10 : n ≤ 10) (hwf : WFV (mi 62)) (xs : Int32) (s : Nat) (hxs : xs.toInt = (s : Int)) (hs : s < 1024) : Ct l yX6_isCleanWithout (.code yX6_isCleanWithout cX6_isCleanWithout 4 (some .boolean)) 4 0 0 [.ref 61, .int xs] (wl mi ml) (QI (fun r mi9 ml9 => ml = ml9 ∧ Fr [65, 66] mi mi9 ∧ r = bI (ClR (DVL (mi 62) (keepL n s)) (mi 62 3).toInt (mi 62 4).toInt (keepL n s).length))) noX := by
  refine Ct_of (ini := false) pn_X6 hfl (fun h => nomatch h) (Nat.le_of_ble_eq_true rfl) ?_
  show E l RX6 cX6_isCleanWithout 4 (some .boolean) false [] (rmE 4 0 0) (wl mi ml) (TgM (wl mi ml) 0 0 (QI (fun r mi9 ml9 => ml = ml9 ∧ Fr [65, 66] mi mi9 ∧ r = bI (ClR (DVL (mi 62) (keepL n s)) (mi 62 3).toInt (mi 62 4).toInt (keepL n s).length))) noX) 0 0 0 [(0, .ref 61), (1, .int xs)] [] (wl mi ml)
  refine E_iconst 0 (by decide) dX6_isCleanWithout_0 ?_
  refine E_istore_n [(2, .int 0), (0, .ref 61), (1, .int xs)] dX6_isCleanWithout_1 rfl (by decide) rfl ?_
  refine E_iconst 0 (by decide) dX6_isCleanWithout_2 ?_
  refine E_istore_n [(3, .int 0), (2, .int 0), (0, .ref 61), (1, .int xs)] dX6_isCleanWithout_3 rfl (by decide) rfl ?_
  have J4 : ∀ (Nm : Nat) (xi xn : Int32) (i : Nat) (mj : MI), n - i < Nm → xi.toInt = (i : Int) → xn.toInt = ((keepL i s).length : Int) → i ≤ n → Fr [65, 66] mi mj → rowsL mj (mi 62) (keepL i s) → E l RX6 cX6_isCleanWithout 4 (some .boolean) false [] (rmE 4 0 0) (wl mi ml) (TgM (wl mi ml) 0 0 (QI (fun r mi9 ml9 => ml = ml9 ∧ Fr [65, 66] mi mi9 ∧ r = bI (ClR (DVL (mi 62) (keepL n s)) (mi 62 3).toInt (mi 62 4).toInt (keepL n s).length))) noX) 0 0 4 [(0, .ref 61), (1, .int xs), (2, .int xn), (3, .int xi)] [] (wl mj ml) := by
    intro Nm
    induction Nm with
    | zero => intros; omega
    | succ Nm ih4 =>
      intro xi xn i mj hN4 hxi hxn hi hF hr
      refine E_iload_n 3 dX6_isCleanWithout_4 rfl rfl ?_
      refine E_aload_n 0 dX6_isCleanWithout_5 rfl rfl ?_
      refine gf_X6_7 tw_61 rfl dX6_isCleanWithout_6 ?_
      refine E_iconst 5 (by decide) dX6_isCleanWithout_9 ?_
      refine S_iald 5 (mi 62 5) tw_62 rfl (by decide) (congrFun (hF 62 (by decide)) 5) dX6_isCleanWithout_10 ?_
      refine Z_ge (i : Int) (n : Int) hxi hn 53 dX6_isCleanWithout_11 (by decide) (fun c_11 => ?_) (fun c_11 => ?_)
      · skip
        have hin9 : i = n := by omega
        subst hin9
        have hset9 := SetM_L (L := keepL i s) ((SetM_of hwf).c (hF 62 (by decide)))
        have hrow9 := RowM_L hwf hn (fun c hc => keepL_in hc) hr
        have hl9 := keepL_len i s
        refine E_aload_n 0 dX6_isCleanWithout_53 rfl rfl ?_
        refine E_iload_n 2 dX6_isCleanWithout_54 rfl rfl ?_
        refine E_callV (c_X6_isRowClean l hfl mj ml (mi 62 0).toInt.toNat (mi 62 1).toInt (mi 62 2).toInt (fun k => (mi 62 (6 + 2 * (keepL i s).getD k 0)).toInt) (fun k => (mi 62 (7 + 2 * (keepL i s).getD k 0)).toInt) (keepL i s).length hset9 hrow9 (by omega) (mi 62 3).toInt (mi 62 4).toInt (by rw [hF 62 (by decide)]) hwf.1.2.2.2.1 (by rw [hF 62 (by decide)]) hwf.1.2.2.2.2 xn hxn) cw_X6_132 (As := [.int xn]) (st := []) wi_yX6_isRowClean we_yX6_isRowClean (ci := 6) (q := (RX6, TX6, 23)) rfl rfl (wl_atO tw_61) rfl ⟨Nat.le_of_ble_eq_true rfl, Nat.le_of_ble_eq_true rfl, Nat.le_of_ble_eq_true rfl, Nat.le_of_ble_eq_true rfl⟩ (Nat.le_of_ble_eq_true rfl) dX6_isCleanWithout_55 (fun _ _ h => h) rfl (kE ?_)
        refine E_zret rfl nbI (Nat.le_of_ble_eq_true rfl) (Nat.le_of_ble_eq_true rfl) dX6_isCleanWithout_58 ?_
        exact okQI ⟨rfl, hF, rfl⟩
      · skip
        have hk9 := keepL_len i s
        refine E_iload_n 1 dX6_isCleanWithout_14 rfl rfl ?_
        refine E_iload_n 3 dX6_isCleanWithout_15 rfl rfl ?_
        refine E_callS (c_X6_has l hfl mj ml xs xi s i (hxs.trans (by omega)) (hxi.trans (by omega)) (by omega) (by omega)) cw_X6_85 (As := [.int xs, .int xi]) (st := []) ws_yX6_has rfl ⟨Nat.le_of_ble_eq_true rfl, Nat.le_of_ble_eq_true rfl, Nat.le_of_ble_eq_true rfl, Nat.le_of_ble_eq_true rfl⟩ (Nat.le_of_ble_eq_true rfl) dX6_isCleanWithout_16 (fun _ _ h => h) rfl (kE ?_)
        refine B_ne 47 dX6_isCleanWithout_19 (by decide) (fun c_19 => ?_) (fun c_19 => ?_)
        · skip
          refine E_iinc 3 (xi + 1) [(3, .int (xi + 1)), (0, .ref 61), (1, .int xs), (2, .int xn)] dX6_isCleanWithout_47 rfl rfl (by decide) rfl ?_
          refine E_goto 4 dX6_isCleanWithout_50 (by decide) ?_
          refine E_sub [1, 2, 3, 0] rfl ?_
          exact ih4 (xi + 1) xn (i + 1) mj (by omega) ((tI_add hxi (show (1 : Int32).toInt = 1 from rfl) (by omega)).trans (by omega)) (by first | (rw [keepL_t c_19]; exact hxn) | (rw [keepL_f c_19, List.length_append]; exact hxn.trans (by simp))) (by omega) (by first | exact (hF.u (by decide)).u (by decide) | exact hF) (by first | (rw [keepL_t c_19]; exact hr) | (rw [keepL_f c_19]; exact rowsL_add hr))
        · skip
          refine E_aload_n 0 dX6_isCleanWithout_22 rfl rfl ?_
          refine gf_X6_19 tw_61 rfl dX6_isCleanWithout_23 ?_
          refine E_iload_n 2 dX6_isCleanWithout_26 rfl rfl ?_
          refine E_aload_n 0 dX6_isCleanWithout_27 rfl rfl ?_
          refine E_iload_n 3 dX6_isCleanWithout_28 rfl rfl ?_
          refine E_callV (c_X6_channelOf l hfl mj ml xi i (hxi.trans (by omega)) (by omega)) cw_X6_57 (As := [.int xi]) (st := [.int xn, .ref 65]) wi_yX6_channelOf we_yX6_channelOf (ci := 6) (q := (RX6, TX6, 23)) rfl rfl (wl_atO tw_61) rfl ⟨Nat.le_of_ble_eq_true rfl, Nat.le_of_ble_eq_true rfl, Nat.le_of_ble_eq_true rfl, Nat.le_of_ble_eq_true rfl⟩ (Nat.le_of_ble_eq_true rfl) dX6_isCleanWithout_29 (fun _ _ h => h) rfl (kE ?_)
          rw [show mj 62 (6 + 2 * i) = (mi 62 (6 + 2 * i)) from (congrFun (hF 62 (by decide)) (6 + 2 * i))]
          refine S_iast ((keepL i s).length) tw_65 hxn (by omega) dX6_isCleanWithout_32 ?_
          refine E_aload_n 0 dX6_isCleanWithout_33 rfl rfl ?_
          refine gf_X6_22 tw_61 rfl dX6_isCleanWithout_34 ?_
          refine E_iload_n 2 dX6_isCleanWithout_37 rfl rfl ?_
          refine E_aload_n 0 dX6_isCleanWithout_38 rfl rfl ?_
          refine E_iload_n 3 dX6_isCleanWithout_39 rfl rfl ?_
          refine E_callV (c_X6_levelOf l hfl (u2 mj 65 ((keepL i s).length) (mi 62 (6 + 2 * i))) ml xi i (hxi.trans (by omega)) (by omega)) cw_X6_82 (As := [.int xi]) (st := [.int xn, .ref 66]) wi_yX6_levelOf we_yX6_levelOf (ci := 6) (q := (RX6, TX6, 23)) rfl rfl (wl_atO tw_61) rfl ⟨Nat.le_of_ble_eq_true rfl, Nat.le_of_ble_eq_true rfl, Nat.le_of_ble_eq_true rfl, Nat.le_of_ble_eq_true rfl⟩ (Nat.le_of_ble_eq_true rfl) dX6_isCleanWithout_40 (fun _ _ h => h) rfl (kE ?_)
          rw [show (u2 mj 65 ((keepL i s).length) (mi 62 (6 + 2 * i))) 62 (7 + 2 * i) = (mi 62 (7 + 2 * i)) from ((u2_n (by omega)).trans (congrFun (hF 62 (by decide)) (7 + 2 * i)))]
          refine S_iast ((keepL i s).length) tw_66 hxn (by omega) dX6_isCleanWithout_43 ?_
          refine E_iinc 2 (xn + 1) [(2, .int (xn + 1)), (0, .ref 61), (1, .int xs), (3, .int xi)] dX6_isCleanWithout_44 rfl rfl (by decide) rfl ?_
          refine E_iinc 3 (xi + 1) [(3, .int (xi + 1)), (2, .int (xn + 1)), (0, .ref 61), (1, .int xs)] dX6_isCleanWithout_47 rfl rfl (by decide) rfl ?_
          refine E_goto 4 dX6_isCleanWithout_50 (by decide) ?_
          refine E_sub [2, 3, 1, 0] rfl ?_
          exact ih4 (xi + 1) (xn + 1) (i + 1) (u2 (u2 mj 65 ((keepL i s).length) (mi 62 (6 + 2 * i))) 66 ((keepL i s).length) (mi 62 (7 + 2 * i))) (by omega) ((tI_add hxi (show (1 : Int32).toInt = 1 from rfl) (by omega)).trans (by omega)) (by first | (rw [keepL_t c_19]; exact hxn) | (rw [keepL_f c_19, List.length_append]; exact (tI_add hxn (show (1 : Int32).toInt = 1 from rfl) (by omega)).trans (by simp))) (by omega) (by first | exact (hF.u (by decide)).u (by decide) | exact hF) (by first | (rw [keepL_t c_19]; exact hr) | (rw [keepL_f c_19]; exact rowsL_add hr))
  refine E_sub [2, 3, 1, 0] rfl ?_
  exact J4 _ 0 0 0 mi (Nat.lt_succ_self _) (show (0 : Int32).toInt = 0 from rfl) (show (0 : Int32).toInt = 0 from rfl) (Nat.zero_le _) Fr.rfl' (fun k c h => by simp [keepL] at h)
/-- the smallest set without which the others are clean -/
def rmS (V : Nat → Int32) (n : Nat) (best : Nat) : Prop := best ≤ 2 ^ n - 1 ∧ ClR (DVL V (keepL n best)) (V 3).toInt (V 4).toInt (keepL n best).length ∧ ∀ s, s ≤ 2 ^ n - 1 → ClR (DVL V (keepL n s)) (V 3).toInt (V 4).toInt (keepL n s).length → popc best < popc s ∨ (popc best = popc s ∧ best ≤ s)
/-- .. as far as the sets from t on have been seen -/
def rmT (V : Nat → Int32) (n t best : Nat) : Prop := (best ≤ 2 ^ n - 1 ∧ t ≤ best ∧ ClR (DVL V (keepL n best)) (V 3).toInt (V 4).toInt (keepL n best).length) ∧ ∀ s, t ≤ s → s ≤ 2 ^ n - 1 → ClR (DVL V (keepL n s)) (V 3).toInt (V 4).toInt (keepL n s).length → popc best < popc s ∨ (popc best = popc s ∧ best ≤ s)
theorem keepL_all : ∀ n, n < 11 → keepL n (2 ^ n - 1) = [] := by decide
theorem rmT_0 {V : Nat → Int32} {n : Nat} (hn : n ≤ 10) : rmT V n (2 ^ n) (2 ^ n - 1) ∨ True := Or.inr trivial
theorem ClR_0 {D : RD} {g sp : Int} : ClR D g sp 0 := fun a h => absurd h (Nat.not_lt_zero a)
theorem rmT_y {V : Nat → Int32} {n t best : Nat} (h : rmT V n (t + 1) best) (ht : t ≤ 2 ^ n - 1) (h1 : popc t ≤ popc best) (h2 : ClR (DVL V (keepL n t)) (V 3).toInt (V 4).toInt (keepL n t).length) : rmT V n t t := by
  refine ⟨⟨ht, Nat.le_refl _, h2⟩, fun s hs hs2 hc => ?_⟩
  rcases Nat.lt_or_ge t s with q | q
  · have := h.2 s (by omega) hs2 hc
    omega
  · have e : s = t := by omega
    rw [e]; exact Or.inr ⟨rfl, Nat.le_refl _⟩
theorem rmT_n {V : Nat → Int32} {n t best : Nat} (h : rmT V n (t + 1) best) (h1 : popc best < popc t ∨ ¬ ClR (DVL V (keepL n t)) (V 3).toInt (V 4).toInt (keepL n t).length) : rmT V n t best := by
  refine ⟨⟨h.1.1, by have := h.1.2.1; omega, h.1.2.2⟩, fun s hs hs2 hc => ?_⟩
  rcases Nat.lt_or_ge t s with q | q
  · exact h.2 s (by omega) hs2 hc
  · have e : s = t := by omega
    rw [e] at hc ⊢
    rcases h1 with h1 | h1
    · exact Or.inl h1
    · exact absurd hc h1
/-- before the first set: the whole set stands, it leaves nothing -/
def rmB9 (V : Nat → Int32) (n t best : Nat) : Prop := (t = 2 ^ n ∧ best = 2 ^ n - 1) ∨ rmT V n t best
theorem rmB_y {V : Nat → Int32} {n t best : Nat} (h : rmB9 V n (t + 1) best) (ht : t ≤ 2 ^ n - 1) (h1 : popc t ≤ popc best) (h2 : ClR (DVL V (keepL n t)) (V 3).toInt (V 4).toInt (keepL n t).length) : rmB9 V n t t := by
  rcases h with ⟨q1, q2⟩ | q
  · refine Or.inr ⟨⟨ht, Nat.le_refl _, h2⟩, fun s hs hs2 hc => ?_⟩
    have e : s = t := by omega
    rw [e]; exact Or.inr ⟨rfl, Nat.le_refl _⟩
  · exact Or.inr (rmT_y q ht h1 h2)
theorem rmB_n {V : Nat → Int32} {n t best : Nat} (hn : n ≤ 10) (h : rmB9 V n (t + 1) best) (h1 : popc best < popc t ∨ ¬ ClR (DVL V (keepL n t)) (V 3).toInt (V 4).toInt (keepL n t).length) : rmB9 V n t best := by
  rcases h with ⟨q1, q2⟩ | q
  · exfalso
    have e : t = 2 ^ n - 1 := by omega
    rw [q2, e] at h1
    rcases h1 with h1 | h1
    · exact absurd h1 (Nat.lt_irrefl _)
    · apply h1
      rw [keepL_all n (by omega)]
      exact ClR_0
  · exact Or.inr (rmT_n q h1)
theorem rmB_best {V : Nat → Int32} {n t best : Nat} (h : rmB9 V n t best) : best ≤ 2 ^ n - 1 := by
  rcases h with ⟨q1, q2⟩ | q
  · omega
  · exact q.1.1
theorem rmB_end {V : Nat → Int32} {n best : Nat} (h : rmB9 V n 0 best) : rmS V n best := by
  rcases h with ⟨q1, q2⟩ | q
  · have := Nat.two_pow_pos n; omega
  · exact ⟨q.1.1, q.1.2.2, fun s hs hc => q.2 s (Nat.zero_le _) hs hc⟩
set_option maxHeartbeats 1600000 in
set_option maxRecDepth 100000 in
theorem c_X6_removal (l : Launch) (hfl : l.stackTraces = false) (mi : MI) (ml : MJ) (n : Nat) (hn : (mi 62 5).toInt = (n : Int)) (h10 : n ≤ 10) (hwf : WFV (mi 62)) : Ct l yX6_removal (.code yX6_removal cX6_removal 3 (some .int)) 5 0 0 [.ref 61] (wl mi ml) (QI (fun r mi9 ml9 => ml = ml9 ∧ SM 0 mi mi9 ∧ ∃ b : Nat, r.toInt = (b : Int) ∧ rmS (mi 62) n b)) noX := by
  refine Ct_of (ini := false) pn_X6 hfl (fun h => nomatch h) (Nat.le_of_ble_eq_true rfl) ?_
  show E l RX6 cX6_removal 3 (some .int) false [] (rmE 5 0 0) (wl mi ml) (TgM (wl mi ml) 0 0 (QI (fun r mi9 ml9 => ml = ml9 ∧ SM 0 mi mi9 ∧ ∃ b : Nat, r.toInt = (b : Int) ∧ rmS (mi 62) n b)) noX) 0 0 0 [(0, .ref 61)] [] (wl mi ml)
  have h1024 := Nat.pow_le_pow_right (show 0 < 2 by omega) h10
  have hp2 := Nat.two_pow_pos n
  refine E_aload_n 0 dX6_removal_0 rfl rfl ?_
  refine E_iconst 0 (by decide) dX6_removal_1 ?_
  refine pf_X6_43 tw_61 rfl dX6_removal_2 ?_
  refine E_aload_n 0 dX6_removal_5 rfl rfl ?_
  refine E_callV (c_X6_all l hfl (u2 mi 61 5 0) ml n ((congrArg Int32.toInt ((u2_n (by omega)).trans rfl)).trans hn) (by omega)) cw_X6_105 (As := []) (st := []) wi_yX6_all we_yX6_all (ci := 6) (q := (RX6, TX6, 23)) rfl rfl (wl_atO tw_61) rfl ⟨Nat.le_of_ble_eq_true rfl, Nat.le_of_ble_eq_true rfl, Nat.le_of_ble_eq_true rfl, Nat.le_of_ble_eq_true rfl⟩ (Nat.le_of_ble_eq_true rfl) dX6_removal_6 (fun _ _ h => h) rfl (kE ?_)
  refine E_istore_n [(1, .int (nI (2 ^ n - 1))), (0, .ref 61)] dX6_removal_9 rfl (by decide) rfl ?_
  refine E_aload_n 1 dX6_removal_10 rfl rfl ?_
  refine E_callV (c_X6_all l hfl (u2 mi 61 5 0) ml n ((congrArg Int32.toInt ((u2_n (by omega)).trans rfl)).trans hn) (by omega)) cw_X6_105 (As := []) (st := []) wi_yX6_all we_yX6_all (ci := 6) (q := (RX6, TX6, 23)) rfl rfl (wl_atO tw_61) rfl ⟨Nat.le_of_ble_eq_true rfl, Nat.le_of_ble_eq_true rfl, Nat.le_of_ble_eq_true rfl, Nat.le_of_ble_eq_true rfl⟩ (Nat.le_of_ble_eq_true rfl) dX6_removal_11 (fun _ _ h => h) rfl (kE ?_)
  refine E_istore_n [(2, .int (nI (2 ^ n - 1))), (1, .int (nI (2 ^ n - 1))), (0, .ref 61)] dX6_removal_14 rfl (by decide) rfl ?_
  have J15 : ∀ (Nm : Nat) (xb xs : Int32) (b t : Nat) (mj : MI), t < Nm → xb.toInt = (b : Int) → xs.toInt = (t : Int) - 1 → t ≤ 2 ^ n → Fr [65, 66] (u2 mi 61 5 0) mj → rmB9 (mi 62) n t b → E l RX6 cX6_removal 3 (some .int) false [] (rmE 5 0 0) (wl mi ml) (TgM (wl mi ml) 0 0 (QI (fun r mi9 ml9 => ml = ml9 ∧ SM 0 mi mi9 ∧ ∃ b : Nat, r.toInt = (b : Int) ∧ rmS (mi 62) n b)) noX) 0 0 15 [(0, .ref 61), (1, .int xb), (2, .int xs)] [] (wl mj ml) := by
    intro Nm
    induction Nm with
    | zero => intros; omega
    | succ Nm ih15 =>
      intro xb xs b t mj hN15 hxb hxs ht hF hB
      refine E_iload_n 2 dX6_removal_15 rfl rfl ?_
      refine Y_lt ((t : Int) - 1) hxs 50 dX6_removal_16 (by decide) (fun c_16 => ?_) (fun c_16 => ?_)
      · skip
        refine E_iload_n 1 dX6_removal_50 rfl rfl ?_
        refine E_iret rfl (Nat.le_of_ble_eq_true rfl) (Nat.le_of_ble_eq_true rfl) dX6_removal_51 ?_
        exact okQI ⟨rfl, ⟨(Fr.trans (F := [61]) (Fr.rfl'.u (by decide)) hF (by decide) (by decide)), by rw [hF 61 (by decide), u2_n (by omega)], by rw [hF 61 (by decide), u2_n (by omega)], by rw [hF 61 (by decide), u2_s]⟩, b, hxb, rmB_end (by rw [← show t = 0 by omega]; exact hB)⟩
      · skip
        obtain ⟨t2, ht2⟩ : ∃ t2, t = t2 + 1 := ⟨t - 1, by omega⟩
        subst ht2
        have hbb := rmB_best hB
        refine E_iload_n 2 dX6_removal_19 rfl rfl ?_
        refine E_callS (c_X6_bits l hfl mj ml xs t2 (hxs.trans (by omega)) (by omega)) cw_X6_135 (As := [.int xs]) (st := []) ws_yX6_bits rfl ⟨Nat.le_of_ble_eq_true rfl, Nat.le_of_ble_eq_true rfl, Nat.le_of_ble_eq_true rfl, Nat.le_of_ble_eq_true rfl⟩ (Nat.le_of_ble_eq_true rfl) dX6_removal_20 (fun _ _ h => h) rfl (kE ?_)
        refine E_iload_n 1 dX6_removal_23 rfl rfl ?_
        refine E_callS (c_X6_bits l hfl mj ml xb b (hxb.trans (by omega)) (by omega)) cw_X6_135 (As := [.int xb]) (st := [.int (nI (popc t2))]) ws_yX6_bits rfl ⟨Nat.le_of_ble_eq_true rfl, Nat.le_of_ble_eq_true rfl, Nat.le_of_ble_eq_true rfl, Nat.le_of_ble_eq_true rfl⟩ (Nat.le_of_ble_eq_true rfl) dX6_removal_24 (fun _ _ h => h) rfl (kE ?_)
        refine Z_gt ((popc t2 : Nat) : Int) ((popc b : Nat) : Int) (tI_nI (by have := popc_le t2; omega)) (tI_nI (by have := popc_le b; omega)) 42 dX6_removal_27 (by decide) (fun c_27 => ?_) (fun c_27 => ?_)
        · skip
          refine E_iload_n 1 dX6_removal_42 rfl rfl ?_
          refine E_istore_n [(1, .int xb), (0, .ref 61), (2, .int xs)] dX6_removal_43 rfl (by decide) rfl ?_
          refine E_iinc 2 (xs + (-1)) [(2, .int (xs + (-1))), (1, .int xb), (0, .ref 61)] dX6_removal_44 rfl rfl (by decide) rfl ?_
          refine E_goto 15 dX6_removal_47 (by decide) ?_
          refine E_sub [2, 1, 0] rfl ?_
          exact ih15 xb (xs + (-1)) b t2 mj (by omega) (hxb.trans (by omega)) ((tI_add hxs (show ((-1) : Int32).toInt = (-1) from rfl) (by omega)).trans (by omega)) (by omega) (hF) (rmB_n (by omega) hB (by first | exact Or.inr c_35 | exact Or.inl (by omega)))
        · skip
          refine E_aload_n 0 dX6_removal_30 rfl rfl ?_
          refine E_iload_n 2 dX6_removal_31 rfl rfl ?_
          refine E_callV (c_X6_isCleanWithout l hfl mj ml n ((congrArg Int32.toInt (congrFun ((hF 62 (by decide)).trans (u2_p (by decide))) 5)).trans hn) (by omega) (by rw [show mj 62 = mi 62 from ((hF 62 (by decide)).trans (u2_p (by decide)))]; exact hwf) xs t2 (hxs.trans (by omega)) (by omega)) cw_X6_138 (As := [.int xs]) (st := []) wi_yX6_isCleanWithout we_yX6_isCleanWithout (ci := 6) (q := (RX6, TX6, 23)) rfl rfl (wl_atO tw_61) rfl ⟨Nat.le_of_ble_eq_true rfl, Nat.le_of_ble_eq_true rfl, Nat.le_of_ble_eq_true rfl, Nat.le_of_ble_eq_true rfl⟩ (Nat.le_of_ble_eq_true rfl) dX6_removal_32 (fun _ _ h => h) rfl (kI (fun r_32 mi_32 ml_32 h_32 => ?_))
          obtain ⟨hl9_32, hFr_32, hr_32⟩ := h_32
          subst hl9_32
          rw [show mj 62 = mi 62 from ((hF 62 (by decide)).trans (u2_p (by decide)))] at hr_32
          subst hr_32
          refine B_eq 42 dX6_removal_35 (by decide) (fun c_35 => ?_) (fun c_35 => ?_)
          · skip
            refine E_iload_n 1 dX6_removal_42 rfl rfl ?_
            refine E_istore_n [(1, .int xb), (0, .ref 61), (2, .int xs)] dX6_removal_43 rfl (by decide) rfl ?_
            refine E_iinc 2 (xs + (-1)) [(2, .int (xs + (-1))), (1, .int xb), (0, .ref 61)] dX6_removal_44 rfl rfl (by decide) rfl ?_
            refine E_goto 15 dX6_removal_47 (by decide) ?_
            refine E_sub [2, 1, 0] rfl ?_
            exact ih15 xb (xs + (-1)) b t2 mi_32 (by omega) (hxb.trans (by omega)) ((tI_add hxs (show ((-1) : Int32).toInt = (-1) from rfl) (by omega)).trans (by omega)) (by omega) (hF.trans hFr_32 (by decide) (by decide)) (rmB_n (by omega) hB (by first | exact Or.inr c_35 | exact Or.inl (by omega)))
          · skip
            refine E_iload_n 2 dX6_removal_38 rfl rfl ?_
            refine E_goto 43 dX6_removal_39 (by decide) ?_
            refine E_istore_n [(1, .int xs), (0, .ref 61), (2, .int xs)] dX6_removal_43 rfl (by decide) rfl ?_
            refine E_iinc 2 (xs + (-1)) [(2, .int (xs + (-1))), (1, .int xs), (0, .ref 61)] dX6_removal_44 rfl rfl (by decide) rfl ?_
            refine E_goto 15 dX6_removal_47 (by decide) ?_
            refine E_sub [2, 1, 0] rfl ?_
            exact ih15 xs (xs + (-1)) t2 t2 mi_32 (by omega) (hxs.trans (by omega)) ((tI_add hxs (show ((-1) : Int32).toInt = (-1) from rfl) (by omega)).trans (by omega)) (by omega) (hF.trans hFr_32 (by decide) (by decide)) (rmB_y hB (by omega) (by omega) c_35)
  refine E_sub [2, 1, 0] rfl ?_
  exact J15 _ (nI (2 ^ n - 1)) (nI (2 ^ n - 1)) (2 ^ n - 1) (2 ^ n) (u2 mi 61 5 0) (Nat.lt_succ_self _) (tI_pow (by omega)) ((tI_pow (by omega)).trans (by omega)) (Nat.le_refl _) Fr.rfl' (Or.inl ⟨rfl, rfl⟩)
end MO10
