section MO8
/-- what a reading call of the model leaves: its code, its scratch rows -/
def SM (c : Int32) (mi mi9 : MI) : Prop := Fr [61, 65, 66, 67, 68, 69, 70, 71, 72] mi mi9 ∧ mi9 61 2 = mi 61 2 ∧ mi9 61 4 = mi 61 4 ∧ mi9 61 5 = c
theorem Fr.w {F G : List Nat} {a b : MI} (h : Fr F a b) (hF : ∀ p, p ∈ F → p ∈ G) : Fr G a b := fun p hp => h p (fun q => hp (hF p q))
theorem SM_0 {mi : MI} {c : Int32} : SM c mi (u2 mi 61 5 c) := ⟨Fr.rfl'.u (by decide), u2_n (by omega), u2_n (by omega), u2_s _ _ _ _⟩
theorem SM_l {mi mj : MI} {c : Int32} (h : Fr [61, 65, 66, 67] (u2 mi 61 5 c) mj) (h2 : ∀ k, k ≠ 9 → mj 61 k = (u2 mi 61 5 c) 61 k) : SM c mi mj :=
  ⟨(Fr.trans (F := [61]) (Fr.rfl'.u (by decide)) h (by decide) (by decide)), by rw [h2 2 (by decide), u2_n (by omega)], by rw [h2 4 (by decide), u2_n (by omega)], by rw [h2 5 (by decide), u2_s]⟩
/-- the products of a block -/
noncomputable def prV (V : Nat → Int32) (s n : Nat) : List Q4 := stK (DV V) s n 3
theorem prV_len {V : Nat → Int32} {s n : Nat} (hn : n ≤ 10) : (prV V s n).length ≤ 540 := Nat.le_trans (stK_len _ _ _ _) (cK_le n (by omega))
theorem stC_in {D : RD} {s kd a b : Nat} : ∀ {c : Nat} {q : Q4}, q ∈ stC D s kd a b c → Sg D q.1 q.2.1 q.2.2.1 q.2.2.2
  | 0, q, h => by simp [stC] at h
  | c + 1, q, h => by
    rw [stC] at h
    rcases List.mem_append.mp h with h | h
    · exact stC_in h
    · rcases Classical.em (vC s kd a b c ∧ Sg D kd a b c) with z | z
      · rw [ifp_t z] at h
        rw [List.mem_singleton.mp h]
        exact z.2
      · rw [ifp_f z] at h
        cases h
theorem stB_in {D : RD} {s n kd a : Nat} : ∀ {b : Nat} {q : Q4}, q ∈ stB D s n kd a b → Sg D q.1 q.2.1 q.2.2.1 q.2.2.2
  | 0, q, h => by simp [stB] at h
  | b + 1, q, h => by
    rw [stB] at h
    rcases List.mem_append.mp h with h | h
    · exact stB_in h
    · rcases Classical.em (vB s kd a b) with z | z
      · rw [ifp_t z] at h
        exact stC_in h
      · rw [ifp_f z] at h
        cases h
theorem stA_in {D : RD} {s n kd : Nat} : ∀ {a : Nat} {q : Q4}, q ∈ stA D s n kd a → Sg D q.1 q.2.1 q.2.2.1 q.2.2.2
  | 0, q, h => by simp [stA] at h
  | a + 1, q, h => by
    rw [stA] at h
    rcases List.mem_append.mp h with h | h
    · exact stA_in h
    · exact stB_in h
theorem stK_in {D : RD} {s n : Nat} : ∀ {kd : Nat} {q : Q4}, q ∈ stK D s n kd → Sg D q.1 q.2.1 q.2.2.1 q.2.2.2
  | 0, q, h => by simp [stK] at h
  | kd + 1, q, h => by
    rw [stK] at h
    rcases List.mem_append.mp h with h | h
    · exact stK_in h
    · exact stA_in h
theorem prV_in {V : Nat → Int32} {s n : Nat} : ∀ (i : Nat) (q : Q4), (prV V s n)[i]? = some q → 0 ≤ pCh (DV V) q.1 q.2.1 q.2.2.1 q.2.2.2 ∧ pCh (DV V) q.1 q.2.1 q.2.2.1 q.2.2.2 ≤ 63 := fun i q h => (stK_in (List.mem_of_getElem? h)).1
/-- the channels of products as bits -/
noncomputable def foL (D : RD) : List Q4 → Int64
  | [] => 0
  | q :: L => ((1 : Int64) <<< ((Int32.ofInt (pCh D q.1 q.2.1 q.2.2.1 q.2.2.2)).toInt64 &&& 63)) ||| foL D L
noncomputable def foA (D : RD) (L : List Q4) : Nat → Int64
  | 0 => 0
  | i + 1 => foA D L i ||| ((1 : Int64) <<< ((Int32.ofInt (match L[i]? with | some q => pCh D q.1 q.2.1 q.2.2.1 q.2.2.2 | none => 0)).toInt64 &&& 63))
theorem foA_s {D : RD} {L : List Q4} {i : Nat} {q : Q4} {x : Int32} (h : L[i]? = some q) (hx : x.toInt = pCh D q.1 q.2.1 q.2.2.1 q.2.2.2) : foA D L (i + 1) = foA D L i ||| ((1 : Int64) <<< (x.toInt64 &&& 63)) := by
  rw [foA, h]
  simp only [← hx, Int32.ofInt_toInt]
/-- how many products lie near a channel -/
noncomputable def hcA (D : RD) (g x : Int) (L : List Q4) : Nat → Nat
  | 0 => 0
  | i + 1 => hcA D g x L i + (match L[i]? with | some q => ifp (-g ≤ pCh D q.1 q.2.1 q.2.2.1 q.2.2.2 - x ∧ pCh D q.1 q.2.1 q.2.2.1 q.2.2.2 - x ≤ g) 1 0 | none => 0)
theorem hcA_t {D : RD} {g x : Int} {L : List Q4} {i : Nat} {q : Q4} (h : L[i]? = some q) (hc : -g ≤ pCh D q.1 q.2.1 q.2.2.1 q.2.2.2 - x ∧ pCh D q.1 q.2.1 q.2.2.1 q.2.2.2 - x ≤ g) : hcA D g x L (i + 1) = hcA D g x L i + 1 := by rw [hcA, h]; simp only [ifp_t hc]
theorem hcA_f {D : RD} {g x : Int} {L : List Q4} {i : Nat} {q : Q4} (h : L[i]? = some q) (hc : ¬ (-g ≤ pCh D q.1 q.2.1 q.2.2.1 q.2.2.2 - x ∧ pCh D q.1 q.2.1 q.2.2.1 q.2.2.2 - x ≤ g)) : hcA D g x L (i + 1) = hcA D g x L i + 0 := by rw [hcA, h]; simp only [ifp_f hc]
theorem hcA_le {D : RD} {g x : Int} {L : List Q4} : ∀ i, hcA D g x L i ≤ i
  | 0 => Nat.le_refl _
  | i + 1 => by
    have ih := hcA_le (D := D) (g := g) (x := x) (L := L) i
    cases h : L[i]? with
    | none => rw [hcA, h]; simp only []; omega
    | some q =>
      rcases Classical.em (-g ≤ pCh D q.1 q.2.1 q.2.2.1 q.2.2.2 - x ∧ pCh D q.1 q.2.1 q.2.2.1 q.2.2.2 - x ≤ g) with z | z
      · rw [hcA_t h z]; omega
      · rw [hcA_f h z]; omega
/-- hits on the first carriers -/
noncomputable def hsA (V : Nat → Int32) (L : List Q4) : Nat → Nat
  | 0 => 0
  | c + 1 => hsA V L c + hcA (DV V) (V 3).toInt (V (6 + 2 * c)).toInt L L.length
theorem hsA_le {V : Nat → Int32} {L : List Q4} (hL : L.length ≤ 540) : ∀ c, hsA V L c ≤ 540 * c
  | 0 => Nat.le_refl _
  | c + 1 => by
    have ih := hsA_le (V := V) hL c
    have h := hcA_le (D := DV V) (g := (V 3).toInt) (x := (V (6 + 2 * c)).toInt) (L := L) L.length
    rw [hsA]; omega
set_option maxHeartbeats 1600000 in
set_option maxRecDepth 100000 in
theorem c_X6_products (l : Launch) (hfl : l.stackTraces = false) (mi : MI) (ml : MJ) (n : Nat) (hn : (mi 62 5).toInt = (n : Int)) (h10 : n ≤ 10) (hwf : WFV (mi 62)) : Ct l yX6_products (.code yX6_products cX6_products 1 (some .int)) 5 0 0 [.ref 61] (wl mi ml) (QI (fun r mi9 ml9 => ml = ml9 ∧ SM 0 mi mi9 ∧ r.toInt = ((prV (mi 62) (2 ^ n - 1) n).length : Int))) noX := by
  refine Ct_of (ini := false) pn_X6 hfl (fun h => nomatch h) (Nat.le_of_ble_eq_true rfl) ?_
  show E l RX6 cX6_products 1 (some .int) false [] (rmE 5 0 0) (wl mi ml) (TgM (wl mi ml) 0 0 (QI (fun r mi9 ml9 => ml = ml9 ∧ SM 0 mi mi9 ∧ r.toInt = ((prV (mi 62) (2 ^ n - 1) n).length : Int))) noX) 0 0 0 [(0, .ref 61)] [] (wl mi ml)
  refine E_aload_n 0 dX6_products_0 rfl rfl ?_
  refine E_iconst 0 (by decide) dX6_products_1 ?_
  refine pf_X6_43 tw_61 rfl dX6_products_2 ?_
  refine E_aload_n 0 dX6_products_5 rfl rfl ?_
  refine E_aload_n 0 dX6_products_6 rfl rfl ?_
  refine E_callV (c_X6_all l hfl (u2 mi 61 5 0) ml n ((congrArg Int32.toInt ((u2_n (by omega)).trans rfl)).trans hn) (by omega)) cw_X6_105 (As := []) (st := [.ref 61]) wi_yX6_all we_yX6_all (ci := 6) (q := (RX6, TX6, 23)) rfl rfl (wl_atO tw_61) rfl ⟨Nat.le_of_ble_eq_true rfl, Nat.le_of_ble_eq_true rfl, Nat.le_of_ble_eq_true rfl, Nat.le_of_ble_eq_true rfl⟩ (Nat.le_of_ble_eq_true rfl) dX6_products_7 (fun _ _ h => h) rfl (kE ?_)
  refine E_callV (c_X6_listAll l hfl (u2 mi 61 5 0) ml n ((congrArg Int32.toInt ((u2_n (by omega)).trans rfl)).trans hn) (by omega) (by rw [show (u2 mi 61 5 0) 62 = mi 62 from (u2_p (by decide))]; exact hwf) (nI (2 ^ n - 1)) (2 ^ n - 1) ((tI_pow (by omega)).trans (by omega)) (by have := Nat.pow_le_pow_right (show 0 < 2 by omega) h10; omega)) cw_X6_109 (As := [.int (nI (2 ^ n - 1))]) (st := []) wi_yX6_listAll we_yX6_listAll (ci := 6) (q := (RX6, TX6, 23)) rfl rfl (wl_atO tw_61) rfl ⟨Nat.le_of_ble_eq_true rfl, Nat.le_of_ble_eq_true rfl, Nat.le_of_ble_eq_true rfl, Nat.le_of_ble_eq_true rfl⟩ (Nat.le_of_ble_eq_true rfl) dX6_products_10 (fun _ _ h => h) rfl (kV (fun mi_10 ml_10 h_10 => ?_))
  obtain ⟨hl9_10, hFr_10, h61_10, hln_10, hen_10⟩ := h_10
  subst hl9_10
  rw [show (u2 mi 61 5 0) 62 = mi 62 from (u2_p (by decide))] at hln_10 hen_10
  have hle_10 := prV_len (V := mi 62) (s := (2 ^ n - 1)) (n := n) (by omega)
  refine E_aload_n 0 dX6_products_13 rfl rfl ?_
  refine gf_X6_95 (mi_10 61 9) tw_61 rfl rfl dX6_products_14 ?_
  refine E_iret rfl (Nat.le_of_ble_eq_true rfl) (Nat.le_of_ble_eq_true rfl) dX6_products_17 ?_
  exact okQI ⟨rfl, SM_l hFr_10 h61_10, hln_10⟩
theorem SM_l2 {mi mj : MI} {c : Int32} (h : Fr [61, 65, 66, 67] mi mj) (h2 : ∀ k, k ≠ 9 → mj 61 k = mi 61 k) : SM c mi (u2 mj 61 5 c) :=
  ⟨(h.w (by decide)).u (by decide), by rw [u2_n (by omega), h2 2 (by decide)], by rw [u2_n (by omega), h2 4 (by decide)], u2_s _ _ _ _⟩
set_option maxHeartbeats 1600000 in
set_option maxRecDepth 100000 in
theorem c_X6_product (l : Launch) (hfl : l.stackTraces = false) (mi : MI) (ml : MJ) (n : Nat) (hn : (mi 62 5).toInt = (n : Int)) (h10 : n ≤ 10) (hwf : WFV (mi 62)) (x a : Int32) (X A : Int) (hX : x.toInt = X) (hA : a.toInt = A) : Ct l yX6_product (.code yX6_product cX6_product 3 (some .int)) 5 0 0 [.ref 61, .int x, .int a] (wl mi ml) (QI (fun r mi9 ml9 => ml = ml9 ∧ ((¬ (0 ≤ X ∧ X < ((prV (mi 62) (2 ^ n - 1) n).length : Int)) ∧ SM 1 mi mi9) ∨ ((0 ≤ X ∧ X < ((prV (mi 62) (2 ^ n - 1) n).length : Int)) ∧ ¬ (0 ≤ A ∧ A ≤ 5) ∧ SM 2 mi mi9) ∨ (∃ (i j : Nat) (row : Nat → Int32), X = (i : Int) ∧ i < (prV (mi 62) (2 ^ n - 1) n).length ∧ A = (j : Int) ∧ j < 6 ∧ SM 0 mi mi9 ∧ encd (DV (mi 62)) row (prV (mi 62) (2 ^ n - 1) n) ∧ r = row (6 * i + j))))) noX := by
  refine Ct_of (ini := false) pn_X6 hfl (fun h => nomatch h) (Nat.le_of_ble_eq_true rfl) ?_
  show E l RX6 cX6_product 3 (some .int) false [] (rmE 5 0 0) (wl mi ml) (TgM (wl mi ml) 0 0 (QI (fun r mi9 ml9 => ml = ml9 ∧ ((¬ (0 ≤ X ∧ X < ((prV (mi 62) (2 ^ n - 1) n).length : Int)) ∧ SM 1 mi mi9) ∨ ((0 ≤ X ∧ X < ((prV (mi 62) (2 ^ n - 1) n).length : Int)) ∧ ¬ (0 ≤ A ∧ A ≤ 5) ∧ SM 2 mi mi9) ∨ (∃ (i j : Nat) (row : Nat → Int32), X = (i : Int) ∧ i < (prV (mi 62) (2 ^ n - 1) n).length ∧ A = (j : Int) ∧ j < 6 ∧ SM 0 mi mi9 ∧ encd (DV (mi 62)) row (prV (mi 62) (2 ^ n - 1) n) ∧ r = row (6 * i + j))))) noX) 0 0 0 [(0, .ref 61), (1, .int x), (2, .int a)] [] (wl mi ml)
  refine E_aload_n 0 dX6_product_0 rfl rfl ?_
  refine E_aload_n 0 dX6_product_1 rfl rfl ?_
  refine E_callV (c_X6_all l hfl mi ml n hn (by omega)) cw_X6_105 (As := []) (st := [.ref 61]) wi_yX6_all we_yX6_all (ci := 6) (q := (RX6, TX6, 23)) rfl rfl (wl_atO tw_61) rfl ⟨Nat.le_of_ble_eq_true rfl, Nat.le_of_ble_eq_true rfl, Nat.le_of_ble_eq_true rfl, Nat.le_of_ble_eq_true rfl⟩ (Nat.le_of_ble_eq_true rfl) dX6_product_2 (fun _ _ h => h) rfl (kE ?_)
  refine E_callV (c_X6_listAll l hfl mi ml n hn (by omega) hwf (nI (2 ^ n - 1)) (2 ^ n - 1) ((tI_pow (by omega)).trans (by omega)) (by have := Nat.pow_le_pow_right (show 0 < 2 by omega) h10; omega)) cw_X6_109 (As := [.int (nI (2 ^ n - 1))]) (st := []) wi_yX6_listAll we_yX6_listAll (ci := 6) (q := (RX6, TX6, 23)) rfl rfl (wl_atO tw_61) rfl ⟨Nat.le_of_ble_eq_true rfl, Nat.le_of_ble_eq_true rfl, Nat.le_of_ble_eq_true rfl, Nat.le_of_ble_eq_true rfl⟩ (Nat.le_of_ble_eq_true rfl) dX6_product_5 (fun _ _ h => h) rfl (kV (fun mi_5 ml_5 h_5 => ?_))
  obtain ⟨hl9_5, hFr_5, h61_5, hln_5, hen_5⟩ := h_5
  subst hl9_5
  have hle_5 := prV_len (V := mi 62) (s := (2 ^ n - 1)) (n := n) (by omega)
  refine E_aload_n 0 dX6_product_8 rfl rfl ?_
  refine E_iload_n 1 dX6_product_9 rfl rfl ?_
  refine E_iconst 0 (by decide) dX6_product_10 ?_
  refine E_aload_n 0 dX6_product_11 rfl rfl ?_
  refine gf_X6_95 (mi_5 61 9) tw_61 rfl rfl dX6_product_12 ?_
  refine E_iconst 1 (by decide) dX6_product_15 ?_
  refine E_isub dX6_product_16 ?_
  refine E_callS (c_X6_in l hfl mi_5 ml x 0 ((mi_5 61 9) - 1) X 0 (((prV (mi 62) (2 ^ n - 1) n).length : Int) - 1) hX (show (0 : Int32).toInt = 0 from rfl) (tI_sub hln_5 (show (1 : Int32).toInt = 1 from rfl) (by omega))) cw_X6_53 (As := [.int x, .int 0, .int ((mi_5 61 9) - 1)]) (st := [.ref 61]) ws_yX6_in rfl ⟨Nat.le_of_ble_eq_true rfl, Nat.le_of_ble_eq_true rfl, Nat.le_of_ble_eq_true rfl, Nat.le_of_ble_eq_true rfl⟩ (Nat.le_of_ble_eq_true rfl) dX6_product_17 (fun _ _ h => h) rfl (kE ?_)
  refine B_ne 27 dX6_product_20 (by decide) (fun c_20 => ?_) (fun c_20 => ?_)
  · skip
    refine E_iload_n 2 dX6_product_27 rfl rfl ?_
    refine E_iconst 0 (by decide) dX6_product_28 ?_
    refine E_iconst 5 (by decide) dX6_product_29 ?_
    refine E_callS (c_X6_in l hfl mi_5 ml a 0 5 A 0 5 hA (show (0 : Int32).toInt = 0 from rfl) (show (5 : Int32).toInt = 5 from rfl)) cw_X6_53 (As := [.int a, .int 0, .int 5]) (st := [.ref 61]) ws_yX6_in rfl ⟨Nat.le_of_ble_eq_true rfl, Nat.le_of_ble_eq_true rfl, Nat.le_of_ble_eq_true rfl, Nat.le_of_ble_eq_true rfl⟩ (Nat.le_of_ble_eq_true rfl) dX6_product_30 (fun _ _ h => h) rfl (kE ?_)
    refine B_ne 40 dX6_product_33 (by decide) (fun c_33 => ?_) (fun c_33 => ?_)
    · skip
      refine E_iconst 0 (by decide) dX6_product_40 ?_
      refine pf_X6_43 tw_61 rfl dX6_product_41 ?_
      refine E_aload_n 0 dX6_product_44 rfl rfl ?_
      refine gf_X6_43 0 tw_61 rfl (u2_s _ _ _ _) dX6_product_45 ?_
      refine Y_eq 0 (show (0 : Int32).toInt = 0 from rfl) 55 dX6_product_48 (by decide) (fun c_48 => ?_) (fun c_48 => ?_)
      · skip
        obtain ⟨i, hi9⟩ : ∃ i : Nat, X = (i : Int) := ⟨X.toNat, by omega⟩
        obtain ⟨j, hj9⟩ : ∃ j : Nat, A = (j : Int) := ⟨A.toNat, by omega⟩
        refine E_aload_n 0 dX6_product_55 rfl rfl ?_
        refine gf_X6_25 tw_61 rfl dX6_product_56 ?_
        refine E_bipush 6 (by decide) dX6_product_59 ?_
        refine E_iload_n 1 dX6_product_61 rfl rfl ?_
        refine E_imul dX6_product_62 ?_
        refine E_iload_n 2 dX6_product_63 rfl rfl ?_
        refine E_iadd dX6_product_64 ?_
        refine S_iald (6 * i + j) (mi_5 67 (6 * i + j)) tw_67 ((tI_add (tI_mul (show (6 : Int32).toInt = 6 from rfl) hX (by omega)) hA (by omega)).trans (by omega)) (by omega) ((u2_n (by omega)).trans rfl) dX6_product_65 ?_
        refine E_iret rfl (Nat.le_of_ble_eq_true rfl) (Nat.le_of_ble_eq_true rfl) dX6_product_66 ?_
        exact okQI ⟨rfl, Or.inr (Or.inr ⟨i, j, _, hi9, by omega, hj9, by omega, SM_l2 hFr_5 h61_5, hen_5, rfl⟩)⟩
      · exact absurd c_48 (by decide)
    · skip
      refine E_iconst 2 (by decide) dX6_product_36 ?_
      refine E_goto 41 dX6_product_37 (by decide) ?_
      refine pf_X6_43 tw_61 rfl dX6_product_41 ?_
      refine E_aload_n 0 dX6_product_44 rfl rfl ?_
      refine gf_X6_43 2 tw_61 rfl (u2_s _ _ _ _) dX6_product_45 ?_
      refine Y_eq 2 (show (2 : Int32).toInt = 2 from rfl) 55 dX6_product_48 (by decide) (fun c_48 => ?_) (fun c_48 => ?_)
      · exact absurd c_48 (by decide)
      · skip
        refine E_iconst 0 (by decide) dX6_product_51 ?_
        refine E_goto 66 dX6_product_52 (by decide) ?_
        refine E_iret rfl (Nat.le_of_ble_eq_true rfl) (Nat.le_of_ble_eq_true rfl) dX6_product_66 ?_
        exact okQI ⟨rfl, Or.inr (Or.inl ⟨by omega, c_33, SM_l2 hFr_5 h61_5⟩)⟩
  · skip
    refine E_iconst 1 (by decide) dX6_product_23 ?_
    refine E_goto 41 dX6_product_24 (by decide) ?_
    refine pf_X6_43 tw_61 rfl dX6_product_41 ?_
    refine E_aload_n 0 dX6_product_44 rfl rfl ?_
    refine gf_X6_43 1 tw_61 rfl (u2_s _ _ _ _) dX6_product_45 ?_
    refine Y_eq 1 (show (1 : Int32).toInt = 1 from rfl) 55 dX6_product_48 (by decide) (fun c_48 => ?_) (fun c_48 => ?_)
    · exact absurd c_48 (by decide)
    · skip
      refine E_iconst 0 (by decide) dX6_product_51 ?_
      refine E_goto 66 dX6_product_52 (by decide) ?_
      refine E_iret rfl (Nat.le_of_ble_eq_true rfl) (Nat.le_of_ble_eq_true rfl) dX6_product_66 ?_
      exact okQI ⟨rfl, Or.inl ⟨fun q => c_20 (by omega), SM_l2 hFr_5 h61_5⟩⟩
set_option maxHeartbeats 1600000 in
set_option maxRecDepth 100000 in
theorem c_X6_falloutOf (l : Launch) (hfl : l.stackTraces = false) (mi : MI) (ml : MJ) (n : Nat) (hn : (mi 62 5).toInt = (n : Int)) (h10 : n ≤ 10) (hwf : WFV (mi 62)) (xs : Int32) (s : Nat) (hxs : xs.toInt = (s : Int)) (hs : s < 1024) : Ct l yX6_falloutOf (.code yX6_falloutOf cX6_falloutOf 5 (some .long)) 5 0 0 [.ref 61, .int xs] (wl mi ml) (QJ (fun r mi9 ml9 => ml = ml9 ∧ Fr [61, 65, 66, 67] mi mi9 ∧ (∀ k, k ≠ 9 → mi9 61 k = mi 61 k) ∧ r = foA (DV (mi 62)) (prV (mi 62) s n) (prV (mi 62) s n).length)) noX := by
  refine Ct_of (ini := false) pn_X6 hfl (fun h => nomatch h) (Nat.le_of_ble_eq_true rfl) ?_
  show E l RX6 cX6_falloutOf 5 (some .long) false [] (rmE 5 0 0) (wl mi ml) (TgM (wl mi ml) 0 0 (QJ (fun r mi9 ml9 => ml = ml9 ∧ Fr [61, 65, 66, 67] mi mi9 ∧ (∀ k, k ≠ 9 → mi9 61 k = mi 61 k) ∧ r = foA (DV (mi 62)) (prV (mi 62) s n) (prV (mi 62) s n).length)) noX) 0 0 0 [(0, .ref 61), (1, .int xs)] [] (wl mi ml)
  refine E_aload_n 0 dX6_falloutOf_0 rfl rfl ?_
  refine E_iload_n 1 dX6_falloutOf_1 rfl rfl ?_
  refine E_callV (c_X6_listAll l hfl mi ml n hn (by omega) hwf xs s (hxs.trans (by omega)) (hs)) cw_X6_109 (As := [.int xs]) (st := []) wi_yX6_listAll we_yX6_listAll (ci := 6) (q := (RX6, TX6, 23)) rfl rfl (wl_atO tw_61) rfl ⟨Nat.le_of_ble_eq_true rfl, Nat.le_of_ble_eq_true rfl, Nat.le_of_ble_eq_true rfl, Nat.le_of_ble_eq_true rfl⟩ (Nat.le_of_ble_eq_true rfl) dX6_falloutOf_2 (fun _ _ h => h) rfl (kV (fun mi_2 ml_2 h_2 => ?_))
  obtain ⟨hl9_2, hFr_2, h61_2, hln_2, hen_2⟩ := h_2
  subst hl9_2
  have hle_2 := prV_len (V := mi 62) (s := s) (n := n) (by omega)
  refine E_lconst 0 rfl dX6_falloutOf_5 ?_
  refine E_lstore_n [(2, .long 0), (0, .ref 61), (1, .int xs)] dX6_falloutOf_6 rfl (by decide) rfl ?_
  refine E_iconst 0 (by decide) dX6_falloutOf_7 ?_
  refine E_istore [(4, .int 0), (2, .long 0), (0, .ref 61), (1, .int xs)] dX6_falloutOf_8 (by decide) rfl ?_
  have J10 : ∀ (N : Nat) (xi : Int32) (a : Int64) (i : Nat), (prV (mi 62) s n).length - i < N → xi.toInt = (i : Int) → i ≤ (prV (mi 62) s n).length → a = foA (DV (mi 62)) (prV (mi 62) s n) i → E l RX6 cX6_falloutOf 5 (some .long) false [] (rmE 5 0 0) (wl mi ml) (TgM (wl mi ml) 0 0 (QJ (fun r mi9 ml9 => ml = ml9 ∧ Fr [61, 65, 66, 67] mi mi9 ∧ (∀ k, k ≠ 9 → mi9 61 k = mi 61 k) ∧ r = foA (DV (mi 62)) (prV (mi 62) s n) (prV (mi 62) s n).length)) noX) 0 0 10 [(0, .ref 61), (2, .long a), (4, .int xi)] [] (wl mi_2 ml) := by
    intro N
    induction N with
    | zero => intros; omega
    | succ N ih10 =>
      intro xi a i hN10 hxi hi ha
      refine E_iload 2 dX6_falloutOf_10 rfl ?_
      refine E_aload_n 0 dX6_falloutOf_12 rfl rfl ?_
      refine gf_X6_95 (mi_2 61 9) tw_61 rfl rfl dX6_falloutOf_13 ?_
      refine Z_ge (i : Int) ((prV (mi 62) s n).length : Int) hxi hln_2 42 dX6_falloutOf_16 (by decide) (fun c_16 => ?_) (fun c_16 => ?_)
      · skip
        refine E_lload_n 1 dX6_falloutOf_42 rfl rfl ?_
        refine E_lret rfl (Nat.le_of_ble_eq_true rfl) (Nat.le_of_ble_eq_true rfl) dX6_falloutOf_43 ?_
        exact okQJ ⟨rfl, hFr_2, h61_2, by rw [ha, show i = (prV (mi 62) s n).length by omega]⟩
      · skip
        obtain ⟨q9, hq9⟩ : ∃ q, (prV (mi 62) s n)[i]? = some q := ⟨_, List.getElem?_eq_getElem (by omega)⟩
        refine E_lload_n 1 dX6_falloutOf_19 rfl rfl ?_
        refine E_lconst 1 rfl dX6_falloutOf_20 ?_
        refine E_aload_n 0 dX6_falloutOf_21 rfl rfl ?_
        refine gf_X6_25 tw_61 rfl dX6_falloutOf_22 ?_
        refine E_bipush 6 (by decide) dX6_falloutOf_25 ?_
        refine E_iload 2 dX6_falloutOf_27 rfl ?_
        refine E_imul dX6_falloutOf_29 ?_
        refine E_iconst 4 (by decide) dX6_falloutOf_30 ?_
        refine E_iadd dX6_falloutOf_31 ?_
        refine S_iald (6 * i + 4) (mi_2 67 (6 * i + 4)) tw_67 ((tI_add (tI_mul (show (6 : Int32).toInt = 6 from rfl) hxi (by omega)) (show (4 : Int32).toInt = 4 from rfl) (by omega)).trans (by omega)) (by omega) rfl dX6_falloutOf_32 ?_
        refine E_lshl dX6_falloutOf_33 ?_
        refine E_lor dX6_falloutOf_34 ?_
        refine E_lstore_n [(2, .long (a ||| (1 <<< ((mi_2 67 (6 * i + 4)).toInt64 &&& 63)))), (0, .ref 61), (4, .int xi)] dX6_falloutOf_35 rfl (by decide) rfl ?_
        refine E_iinc 2 (xi + 1) [(4, .int (xi + 1)), (2, .long (a ||| (1 <<< ((mi_2 67 (6 * i + 4)).toInt64 &&& 63)))), (0, .ref 61)] dX6_falloutOf_36 rfl rfl (by decide) rfl ?_
        refine E_goto 10 dX6_falloutOf_39 (by decide) ?_
        refine E_sub [2, 1, 0] rfl ?_
        exact ih10 (xi + 1) (a ||| (1 <<< ((mi_2 67 (6 * i + 4)).toInt64 &&& 63))) (i + 1) (by omega) ((tI_add hxi (show (1 : Int32).toInt = 1 from rfl) (by omega)).trans (by omega)) (by omega) (by rw [ha]; exact (foA_s hq9 (hen_2 i q9 hq9).2.2.2.2.1).symm)
  refine E_sub [2, 1, 0] rfl ?_
  exact J10 _ 0 0 0 (Nat.lt_succ_self _) (show (0 : Int32).toInt = 0 from rfl) (Nat.zero_le _) rfl
set_option maxHeartbeats 1600000 in
set_option maxRecDepth 100000 in
theorem c_X6_fallout (l : Launch) (hfl : l.stackTraces = false) (mi : MI) (ml : MJ) (n : Nat) (hn : (mi 62 5).toInt = (n : Int)) (h10 : n ≤ 10) (hwf : WFV (mi 62)) (a : Int32) (A : Int) (hA : a.toInt = A) : Ct l yX6_fallout (.code yX6_fallout cX6_fallout 2 (some .long)) 6 0 0 [.ref 61, .int a] (wl mi ml) (QJ (fun r mi9 ml9 => ml = ml9 ∧ ((¬ (0 ≤ A ∧ A ≤ ((2 ^ n - 1 : Nat) : Int)) ∧ SM 1 mi mi9) ∨ ((0 ≤ A ∧ A ≤ ((2 ^ n - 1 : Nat) : Int)) ∧ ∃ s : Nat, A = (s : Int) ∧ SM 0 mi mi9 ∧ r = foA (DV (mi 62)) (prV (mi 62) s n) (prV (mi 62) s n).length)))) noX := by
  refine Ct_of (ini := false) pn_X6 hfl (fun h => nomatch h) (Nat.le_of_ble_eq_true rfl) ?_
  show E l RX6 cX6_fallout 2 (some .long) false [] (rmE 6 0 0) (wl mi ml) (TgM (wl mi ml) 0 0 (QJ (fun r mi9 ml9 => ml = ml9 ∧ ((¬ (0 ≤ A ∧ A ≤ ((2 ^ n - 1 : Nat) : Int)) ∧ SM 1 mi mi9) ∨ ((0 ≤ A ∧ A ≤ ((2 ^ n - 1 : Nat) : Int)) ∧ ∃ s : Nat, A = (s : Int) ∧ SM 0 mi mi9 ∧ r = foA (DV (mi 62)) (prV (mi 62) s n) (prV (mi 62) s n).length)))) noX) 0 0 0 [(0, .ref 61), (1, .int a)] [] (wl mi ml)
  refine E_aload_n 0 dX6_fallout_0 rfl rfl ?_
  refine E_aload_n 0 dX6_fallout_1 rfl rfl ?_
  refine E_iload_n 1 dX6_fallout_2 rfl rfl ?_
  refine E_callV (c_X6_isSet l hfl mi ml n hn (by omega) a A hA) cw_X6_113 (As := [.int a]) (st := [.ref 61]) wi_yX6_isSet we_yX6_isSet (ci := 6) (q := (RX6, TX6, 23)) rfl rfl (wl_atO tw_61) rfl ⟨Nat.le_of_ble_eq_true rfl, Nat.le_of_ble_eq_true rfl, Nat.le_of_ble_eq_true rfl, Nat.le_of_ble_eq_true rfl⟩ (Nat.le_of_ble_eq_true rfl) dX6_fallout_3 (fun _ _ h => h) rfl (kE ?_)
  refine B_eq 13 dX6_fallout_6 (by decide) (fun c_6 => ?_) (fun c_6 => ?_)
  · skip
    refine E_iconst 1 (by decide) dX6_fallout_13 ?_
    refine pf_X6_43 tw_61 rfl dX6_fallout_14 ?_
    refine E_aload_n 0 dX6_fallout_17 rfl rfl ?_
    refine gf_X6_43 1 tw_61 rfl (u2_s _ _ _ _) dX6_fallout_18 ?_
    refine Y_eq 1 (show (1 : Int32).toInt = 1 from rfl) 28 dX6_fallout_21 (by decide) (fun c_21 => ?_) (fun c_21 => ?_)
    · exact absurd c_21 (by decide)
    · skip
      refine E_lconst 0 rfl dX6_fallout_24 ?_
      refine E_goto 33 dX6_fallout_25 (by decide) ?_
      refine E_lret rfl (Nat.le_of_ble_eq_true rfl) (Nat.le_of_ble_eq_true rfl) dX6_fallout_33 ?_
      exact okQJ ⟨rfl, Or.inl ⟨c_6, SM_0⟩⟩
  · skip
    refine E_iconst 0 (by decide) dX6_fallout_9 ?_
    refine E_goto 14 dX6_fallout_10 (by decide) ?_
    refine pf_X6_43 tw_61 rfl dX6_fallout_14 ?_
    refine E_aload_n 0 dX6_fallout_17 rfl rfl ?_
    refine gf_X6_43 0 tw_61 rfl (u2_s _ _ _ _) dX6_fallout_18 ?_
    refine Y_eq 0 (show (0 : Int32).toInt = 0 from rfl) 28 dX6_fallout_21 (by decide) (fun c_21 => ?_) (fun c_21 => ?_)
    · skip
      obtain ⟨s, hs9⟩ : ∃ s : Nat, A = (s : Int) := ⟨A.toNat, by omega⟩
      have hs10 : s < 1024 := by have := Nat.pow_le_pow_right (show 0 < 2 by omega) h10; omega
      refine E_aload_n 0 dX6_fallout_28 rfl rfl ?_
      refine E_iload_n 1 dX6_fallout_29 rfl rfl ?_
      refine E_callV (c_X6_falloutOf l hfl (u2 mi 61 5 0) ml n ((congrArg Int32.toInt ((u2_n (by omega)).trans rfl)).trans hn) (by omega) (by rw [show (u2 mi 61 5 0) 62 = mi 62 from (u2_p (by decide))]; exact hwf) a s (hA.trans (by omega)) hs10) cw_X6_116 (As := [.int a]) (st := []) wi_yX6_falloutOf we_yX6_falloutOf (ci := 6) (q := (RX6, TX6, 23)) rfl rfl (wl_atO tw_61) rfl ⟨Nat.le_of_ble_eq_true rfl, Nat.le_of_ble_eq_true rfl, Nat.le_of_ble_eq_true rfl, Nat.le_of_ble_eq_true rfl⟩ (Nat.le_of_ble_eq_true rfl) dX6_fallout_30 (fun _ _ h => h) rfl (kJ (fun r_30 mi_30 ml_30 h_30 => ?_))
      obtain ⟨hl9_30, hFr_30, h61_30, hfo_30⟩ := h_30
      subst hl9_30
      rw [show (u2 mi 61 5 0) 62 = mi 62 from (u2_p (by decide))] at hfo_30
      refine E_lret rfl (Nat.le_of_ble_eq_true rfl) (Nat.le_of_ble_eq_true rfl) dX6_fallout_33 ?_
      exact okQJ ⟨rfl, Or.inr ⟨c_6, s, hs9, SM_l hFr_30 h61_30, hfo_30⟩⟩
    · exact absurd c_21 (by decide)
set_option maxHeartbeats 1600000 in
set_option maxRecDepth 100000 in
theorem c_X6_isNear (l : Launch) (hfl : l.stackTraces = false) (mi : MI) (ml : MJ) (a b : Int32) (A B g : Int) (hA : a.toInt = A) (hB : b.toInt = B) (bA : 0 ≤ A ∧ A ≤ 63) (bB : 0 ≤ B ∧ B ≤ 63) (hg : (mi 62 3).toInt = g) (bg : 0 ≤ g ∧ g ≤ 5) : Ct l yX6_isNear (.code yX6_isNear cX6_isNear 3 (some .boolean)) 1 0 0 [.ref 61, .int a, .int b] (wl mi ml) (QP (some (.int (bI ((0 - g) ≤ (A - B) ∧ (A - B) ≤ g)))) (wl mi ml)) noX := by
  refine Ct_of (ini := false) pn_X6 hfl (fun h => nomatch h) (Nat.le_of_ble_eq_true rfl) ?_
  show E l RX6 cX6_isNear 3 (some .boolean) false [] (rmE 1 0 0) (wl mi ml) (TgM (wl mi ml) 0 0 (QP (some (.int (bI ((0 - g) ≤ (A - B) ∧ (A - B) ≤ g)))) (wl mi ml)) noX) 0 0 0 [(0, .ref 61), (1, .int a), (2, .int b)] [] (wl mi ml)
  refine E_iload_n 1 dX6_isNear_0 rfl rfl ?_
  refine E_iload_n 2 dX6_isNear_1 rfl rfl ?_
  refine E_isub dX6_isNear_2 ?_
  refine E_aload_n 0 dX6_isNear_3 rfl rfl ?_
  refine gf_X6_7 tw_61 rfl dX6_isNear_4 ?_
  refine E_iconst 3 (by decide) dX6_isNear_7 ?_
  refine S_iald 3 (mi 62 3) tw_62 rfl (by decide) rfl dX6_isNear_8 ?_
  refine E_ineg dX6_isNear_9 ?_
  refine E_aload_n 0 dX6_isNear_10 rfl rfl ?_
  refine gf_X6_7 tw_61 rfl dX6_isNear_11 ?_
  refine E_iconst 3 (by decide) dX6_isNear_14 ?_
  refine S_iald 3 (mi 62 3) tw_62 rfl (by decide) rfl dX6_isNear_15 ?_
  refine E_callS (c_X6_in l hfl mi ml (a - b) (0 - (mi 62 3)) (mi 62 3) (A - B) (0 - g) g (tI_sub hA hB (by omega)) (tI_sub (show (0 : Int32).toInt = 0 from rfl) hg (by omega)) hg) cw_X6_53 (As := [.int (a - b), .int (0 - (mi 62 3)), .int (mi 62 3)]) (st := []) ws_yX6_in rfl ⟨Nat.le_of_ble_eq_true rfl, Nat.le_of_ble_eq_true rfl, Nat.le_of_ble_eq_true rfl, Nat.le_of_ble_eq_true rfl⟩ (Nat.le_of_ble_eq_true rfl) dX6_isNear_16 (fun _ _ h => h) rfl (kE ?_)
  refine E_zret rfl nbI (Nat.le_of_ble_eq_true rfl) (Nat.le_of_ble_eq_true rfl) dX6_isNear_19 ?_
  exact okP rfl
set_option maxHeartbeats 1600000 in
set_option maxRecDepth 100000 in
theorem c_X6_hitsAt (l : Launch) (hfl : l.stackTraces = false) (mi : MI) (ml : MJ) (g : Int) (hg : (mi 62 3).toInt = g) (bg : 0 ≤ g ∧ g ≤ 5) (D : RD) (L : List Q4) (hen : encd D (mi 67) L) (hin : ∀ (i : Nat) (q : Q4), L[i]? = some q → 0 ≤ pCh D q.1 q.2.1 q.2.2.1 q.2.2.2 ∧ pCh D q.1 q.2.1 q.2.2.1 q.2.2.2 ≤ 63) (hL : L.length ≤ 540) (hln : (mi 61 9).toInt = (L.length : Int)) (a : Int32) (A : Int) (hA : a.toInt = A) (bA : 0 ≤ A ∧ A ≤ 63) : Ct l yX6_hitsAt (.code yX6_hitsAt cX6_hitsAt 4 (some .int)) 2 0 0 [.ref 61, .int a] (wl mi ml) (QP (some (.int (nI (hcA D g A L L.length)))) (wl mi ml)) noX := by
  refine Ct_of (ini := false) pn_X6 hfl (fun h => nomatch h) (Nat.le_of_ble_eq_true rfl) ?_
  show E l RX6 cX6_hitsAt 4 (some .int) false [] (rmE 2 0 0) (wl mi ml) (TgM (wl mi ml) 0 0 (QP (some (.int (nI (hcA D g A L L.length)))) (wl mi ml)) noX) 0 0 0 [(0, .ref 61), (1, .int a)] [] (wl mi ml)
  refine E_iconst 0 (by decide) dX6_hitsAt_0 ?_
  refine E_istore_n [(2, .int 0), (0, .ref 61), (1, .int a)] dX6_hitsAt_1 rfl (by decide) rfl ?_
  refine E_iconst 0 (by decide) dX6_hitsAt_2 ?_
  refine E_istore_n [(3, .int 0), (2, .int 0), (0, .ref 61), (1, .int a)] dX6_hitsAt_3 rfl (by decide) rfl ?_
  have J4 : ∀ (N : Nat) (xi xn : Int32) (i : Nat), L.length - i < N → xi.toInt = (i : Int) → xn.toInt = (hcA D g A L i : Int) → i ≤ L.length → E l RX6 cX6_hitsAt 4 (some .int) false [] (rmE 2 0 0) (wl mi ml) (TgM (wl mi ml) 0 0 (QP (some (.int (nI (hcA D g A L L.length)))) (wl mi ml)) noX) 0 0 4 [(0, .ref 61), (1, .int a), (2, .int xn), (3, .int xi)] [] (wl mi ml) := by
    intro N
    induction N with
    | zero => intros; omega
    | succ N ih4 =>
      intro xi xn i hN4 hxi hxn hi
      refine E_iload_n 3 dX6_hitsAt_4 rfl rfl ?_
      refine E_aload_n 0 dX6_hitsAt_5 rfl rfl ?_
      refine gf_X6_95 (mi 61 9) tw_61 rfl rfl dX6_hitsAt_6 ?_
      refine Z_ge (i : Int) (L.length : Int) hxi hln 45 dX6_hitsAt_9 (by decide) (fun c_9 => ?_) (fun c_9 => ?_)
      · skip
        refine E_iload_n 2 dX6_hitsAt_45 rfl rfl ?_
        refine E_iret rfl (Nat.le_of_ble_eq_true rfl) (Nat.le_of_ble_eq_true rfl) dX6_hitsAt_46 ?_
        exact okP (tI_nIx (hxn.trans (by rw [show i = L.length by omega])))
      · skip
        obtain ⟨q9, hq9⟩ : ∃ q, L[i]? = some q := ⟨_, List.getElem?_eq_getElem (by omega)⟩
        have hp9 := (hen i q9 hq9).2.2.2.2.1
        have hr9 := hin i q9 hq9
        have hc9 := hcA_le (D := D) (g := g) (x := A) (L := L) i
        refine E_iload_n 2 dX6_hitsAt_12 rfl rfl ?_
        refine E_aload_n 0 dX6_hitsAt_13 rfl rfl ?_
        refine E_aload_n 0 dX6_hitsAt_14 rfl rfl ?_
        refine gf_X6_25 tw_61 rfl dX6_hitsAt_15 ?_
        refine E_bipush 6 (by decide) dX6_hitsAt_18 ?_
        refine E_iload_n 3 dX6_hitsAt_20 rfl rfl ?_
        refine E_imul dX6_hitsAt_21 ?_
        refine E_iconst 4 (by decide) dX6_hitsAt_22 ?_
        refine E_iadd dX6_hitsAt_23 ?_
        refine S_iald (6 * i + 4) (mi 67 (6 * i + 4)) tw_67 ((tI_add (tI_mul (show (6 : Int32).toInt = 6 from rfl) hxi (by omega)) (show (4 : Int32).toInt = 4 from rfl) (by omega)).trans (by omega)) (by omega) rfl dX6_hitsAt_24 ?_
        refine E_iload_n 1 dX6_hitsAt_25 rfl rfl ?_
        refine E_callV (c_X6_isNear l hfl mi ml (mi 67 (6 * i + 4)) a (pCh D q9.1 q9.2.1 q9.2.2.1 q9.2.2.2) A g hp9 hA (by omega) (by omega) hg (by omega)) cw_X6_120 (As := [.int (mi 67 (6 * i + 4)), .int a]) (st := [.int xn]) wi_yX6_isNear we_yX6_isNear (ci := 6) (q := (RX6, TX6, 23)) rfl rfl (wl_atO tw_61) rfl ⟨Nat.le_of_ble_eq_true rfl, Nat.le_of_ble_eq_true rfl, Nat.le_of_ble_eq_true rfl, Nat.le_of_ble_eq_true rfl⟩ (Nat.le_of_ble_eq_true rfl) dX6_hitsAt_26 (fun _ _ h => h) rfl (kE ?_)
        refine B_eq 36 dX6_hitsAt_29 (by decide) (fun c_29 => ?_) (fun c_29 => ?_)
        · skip
          refine E_iconst 0 (by decide) dX6_hitsAt_36 ?_
          refine E_iadd dX6_hitsAt_37 ?_
          refine E_istore_n [(2, .int (xn + 0)), (0, .ref 61), (1, .int a), (3, .int xi)] dX6_hitsAt_38 rfl (by decide) rfl ?_
          refine E_iinc 3 (xi + 1) [(3, .int (xi + 1)), (2, .int (xn + 0)), (0, .ref 61), (1, .int a)] dX6_hitsAt_39 rfl rfl (by decide) rfl ?_
          refine E_goto 4 dX6_hitsAt_42 (by decide) ?_
          refine E_sub [2, 3, 1, 0] rfl ?_
          exact ih4 (xi + 1) (xn + 0) (i + 1) (by omega) ((tI_add hxi (show (1 : Int32).toInt = 1 from rfl) (by omega)).trans (by omega)) (by first | exact ((tI_add hxn (show (0 : Int32).toInt = 0 from rfl) (by omega)).trans (by rw [hcA_t hq9 (by omega)]; omega)) | exact ((tI_add hxn (show (0 : Int32).toInt = 0 from rfl) (by omega)).trans (by rw [hcA_f hq9 (by omega)]; omega))) (by omega)
        · skip
          refine E_iconst 1 (by decide) dX6_hitsAt_32 ?_
          refine E_goto 37 dX6_hitsAt_33 (by decide) ?_
          refine E_iadd dX6_hitsAt_37 ?_
          refine E_istore_n [(2, .int (xn + 1)), (0, .ref 61), (1, .int a), (3, .int xi)] dX6_hitsAt_38 rfl (by decide) rfl ?_
          refine E_iinc 3 (xi + 1) [(3, .int (xi + 1)), (2, .int (xn + 1)), (0, .ref 61), (1, .int a)] dX6_hitsAt_39 rfl rfl (by decide) rfl ?_
          refine E_goto 4 dX6_hitsAt_42 (by decide) ?_
          refine E_sub [2, 3, 1, 0] rfl ?_
          exact ih4 (xi + 1) (xn + 1) (i + 1) (by omega) ((tI_add hxi (show (1 : Int32).toInt = 1 from rfl) (by omega)).trans (by omega)) (by first | exact ((tI_add hxn (show (1 : Int32).toInt = 1 from rfl) (by omega)).trans (by rw [hcA_t hq9 (by omega)]; omega)) | exact ((tI_add hxn (show (1 : Int32).toInt = 1 from rfl) (by omega)).trans (by rw [hcA_f hq9 (by omega)]; omega))) (by omega)
  refine E_sub [2, 3, 1, 0] rfl ?_
  exact J4 _ 0 0 0 (Nat.lt_succ_self _) (show (0 : Int32).toInt = 0 from rfl) (show (0 : Int32).toInt = 0 from rfl) (Nat.zero_le _)
set_option maxHeartbeats 1600000 in
set_option maxRecDepth 100000 in
theorem c_X6_hitsAll (l : Launch) (hfl : l.stackTraces = false) (mi : MI) (ml : MJ) (n : Nat) (hn : (mi 62 5).toInt = (n : Int)) (h10 : n ≤ 10) (hwf : WFV (mi 62)) (g : Int) (hg : (mi 62 3).toInt = g) : Ct l yX6_hitsAll (.code yX6_hitsAll cX6_hitsAll 3 (some .int)) 5 0 0 [.ref 61] (wl mi ml) (QI (fun r mi9 ml9 => ml = ml9 ∧ Fr [61, 65, 66, 67] mi mi9 ∧ (∀ k, k ≠ 9 → mi9 61 k = mi 61 k) ∧ (mi9 61 9).toInt = ((prV (mi 62) (2 ^ n - 1) n).length : Int) ∧ r.toInt = (hsA (mi 62) (prV (mi 62) (2 ^ n - 1) n) n : Int))) noX := by
  refine Ct_of (ini := false) pn_X6 hfl (fun h => nomatch h) (Nat.le_of_ble_eq_true rfl) ?_
  show E l RX6 cX6_hitsAll 3 (some .int) false [] (rmE 5 0 0) (wl mi ml) (TgM (wl mi ml) 0 0 (QI (fun r mi9 ml9 => ml = ml9 ∧ Fr [61, 65, 66, 67] mi mi9 ∧ (∀ k, k ≠ 9 → mi9 61 k = mi 61 k) ∧ (mi9 61 9).toInt = ((prV (mi 62) (2 ^ n - 1) n).length : Int) ∧ r.toInt = (hsA (mi 62) (prV (mi 62) (2 ^ n - 1) n) n : Int))) noX) 0 0 0 [(0, .ref 61)] [] (wl mi ml)
  have bg := hwf.1.2.2.2.1
  refine E_aload_n 0 dX6_hitsAll_0 rfl rfl ?_
  refine E_aload_n 0 dX6_hitsAll_1 rfl rfl ?_
  refine E_callV (c_X6_all l hfl mi ml n hn (by omega)) cw_X6_105 (As := []) (st := [.ref 61]) wi_yX6_all we_yX6_all (ci := 6) (q := (RX6, TX6, 23)) rfl rfl (wl_atO tw_61) rfl ⟨Nat.le_of_ble_eq_true rfl, Nat.le_of_ble_eq_true rfl, Nat.le_of_ble_eq_true rfl, Nat.le_of_ble_eq_true rfl⟩ (Nat.le_of_ble_eq_true rfl) dX6_hitsAll_2 (fun _ _ h => h) rfl (kE ?_)
  refine E_callV (c_X6_listAll l hfl mi ml n hn (by omega) hwf (nI (2 ^ n - 1)) (2 ^ n - 1) ((tI_pow (by omega)).trans (by omega)) (by have := Nat.pow_le_pow_right (show 0 < 2 by omega) h10; omega)) cw_X6_109 (As := [.int (nI (2 ^ n - 1))]) (st := []) wi_yX6_listAll we_yX6_listAll (ci := 6) (q := (RX6, TX6, 23)) rfl rfl (wl_atO tw_61) rfl ⟨Nat.le_of_ble_eq_true rfl, Nat.le_of_ble_eq_true rfl, Nat.le_of_ble_eq_true rfl, Nat.le_of_ble_eq_true rfl⟩ (Nat.le_of_ble_eq_true rfl) dX6_hitsAll_5 (fun _ _ h => h) rfl (kV (fun mi_5 ml_5 h_5 => ?_))
  obtain ⟨hl9_5, hFr_5, h61_5, hln_5, hen_5⟩ := h_5
  subst hl9_5
  have hle_5 := prV_len (V := mi 62) (s := (2 ^ n - 1)) (n := n) (by omega)
  refine E_iconst 0 (by decide) dX6_hitsAll_8 ?_
  refine E_istore_n [(1, .int 0), (0, .ref 61)] dX6_hitsAll_9 rfl (by decide) rfl ?_
  refine E_iconst 0 (by decide) dX6_hitsAll_10 ?_
  refine E_istore_n [(2, .int 0), (1, .int 0), (0, .ref 61)] dX6_hitsAll_11 rfl (by decide) rfl ?_
  have J12 : ∀ (N : Nat) (xi xn : Int32) (i : Nat), n - i < N → xi.toInt = (i : Int) → xn.toInt = (hsA (mi 62) (prV (mi 62) (2 ^ n - 1) n) i : Int) → i ≤ n → E l RX6 cX6_hitsAll 3 (some .int) false [] (rmE 5 0 0) (wl mi ml) (TgM (wl mi ml) 0 0 (QI (fun r mi9 ml9 => ml = ml9 ∧ Fr [61, 65, 66, 67] mi mi9 ∧ (∀ k, k ≠ 9 → mi9 61 k = mi 61 k) ∧ (mi9 61 9).toInt = ((prV (mi 62) (2 ^ n - 1) n).length : Int) ∧ r.toInt = (hsA (mi 62) (prV (mi 62) (2 ^ n - 1) n) n : Int))) noX) 0 0 12 [(0, .ref 61), (1, .int xn), (2, .int xi)] [] (wl mi_5 ml) := by
    intro N
    induction N with
    | zero => intros; omega
    | succ N ih12 =>
      intro xi xn i hN12 hxi hxn hi
      refine E_iload_n 2 dX6_hitsAll_12 rfl rfl ?_
      refine E_aload_n 0 dX6_hitsAll_13 rfl rfl ?_
      refine gf_X6_7 tw_61 rfl dX6_hitsAll_14 ?_
      refine E_iconst 5 (by decide) dX6_hitsAll_17 ?_
      refine S_iald 5 (mi 62 5) tw_62 rfl (by decide) (congrFun (hFr_5 62 (by decide)) 5) dX6_hitsAll_18 ?_
      refine Z_ge (i : Int) (n : Int) hxi hn 40 dX6_hitsAll_19 (by decide) (fun c_19 => ?_) (fun c_19 => ?_)
      · skip
        refine E_iload_n 1 dX6_hitsAll_40 rfl rfl ?_
        refine E_iret rfl (Nat.le_of_ble_eq_true rfl) (Nat.le_of_ble_eq_true rfl) dX6_hitsAll_41 ?_
        exact okQI ⟨rfl, hFr_5, h61_5, hln_5, by rw [hxn, show i = n by omega]⟩
      · skip
        have hc9 := hcA_le (D := DV (mi 62)) (g := g) (x := (mi 62 (6 + 2 * i)).toInt) (L := (prV (mi 62) (2 ^ n - 1) n)) (prV (mi 62) (2 ^ n - 1) n).length
        have hs9 := hsA_le (V := mi 62) hle_5 i
        have bc := (hwf.2.2.1 i (by omega)).1
        refine E_iload_n 1 dX6_hitsAll_22 rfl rfl ?_
        refine E_aload_n 0 dX6_hitsAll_23 rfl rfl ?_
        refine E_aload_n 0 dX6_hitsAll_24 rfl rfl ?_
        refine E_iload_n 2 dX6_hitsAll_25 rfl rfl ?_
        refine E_callV (c_X6_channelOf l hfl mi_5 ml xi i (hxi.trans (by omega)) (by omega)) cw_X6_57 (As := [.int xi]) (st := [.ref 61, .int xn]) wi_yX6_channelOf we_yX6_channelOf (ci := 6) (q := (RX6, TX6, 23)) rfl rfl (wl_atO tw_61) rfl ⟨Nat.le_of_ble_eq_true rfl, Nat.le_of_ble_eq_true rfl, Nat.le_of_ble_eq_true rfl, Nat.le_of_ble_eq_true rfl⟩ (Nat.le_of_ble_eq_true rfl) dX6_hitsAll_26 (fun _ _ h => h) rfl (kE ?_)
        rw [show mi_5 62 (6 + 2 * i) = (mi 62 (6 + 2 * i)) from (congrFun (hFr_5 62 (by decide)) (6 + 2 * i))]
        refine E_callV (c_X6_hitsAt l hfl mi_5 ml g ((congrArg Int32.toInt (congrFun (hFr_5 62 (by decide)) 3)).trans hg) (by omega) (DV (mi 62)) (prV (mi 62) (2 ^ n - 1) n) hen_5 prV_in hle_5 hln_5 (mi 62 (6 + 2 * i)) ((mi 62 (6 + 2 * i)).toInt) rfl (by omega)) cw_X6_123 (As := [.int (mi 62 (6 + 2 * i))]) (st := [.int xn]) wi_yX6_hitsAt we_yX6_hitsAt (ci := 6) (q := (RX6, TX6, 23)) rfl rfl (wl_atO tw_61) rfl ⟨Nat.le_of_ble_eq_true rfl, Nat.le_of_ble_eq_true rfl, Nat.le_of_ble_eq_true rfl, Nat.le_of_ble_eq_true rfl⟩ (Nat.le_of_ble_eq_true rfl) dX6_hitsAll_29 (fun _ _ h => h) rfl (kE ?_)
        refine E_iadd dX6_hitsAll_32 ?_
        refine E_istore_n [(1, .int (xn + (nI (hcA (DV (mi 62)) g ((mi 62 (6 + 2 * i)).toInt) (prV (mi 62) (2 ^ n - 1) n) (prV (mi 62) (2 ^ n - 1) n).length)))), (0, .ref 61), (2, .int xi)] dX6_hitsAll_33 rfl (by decide) rfl ?_
        refine E_iinc 2 (xi + 1) [(2, .int (xi + 1)), (1, .int (xn + (nI (hcA (DV (mi 62)) g ((mi 62 (6 + 2 * i)).toInt) (prV (mi 62) (2 ^ n - 1) n) (prV (mi 62) (2 ^ n - 1) n).length)))), (0, .ref 61)] dX6_hitsAll_34 rfl rfl (by decide) rfl ?_
        refine E_goto 12 dX6_hitsAll_37 (by decide) ?_
        refine E_sub [2, 1, 0] rfl ?_
        exact ih12 (xi + 1) (xn + (nI (hcA (DV (mi 62)) g ((mi 62 (6 + 2 * i)).toInt) (prV (mi 62) (2 ^ n - 1) n) (prV (mi 62) (2 ^ n - 1) n).length))) (i + 1) (by omega) ((tI_add hxi (show (1 : Int32).toInt = 1 from rfl) (by omega)).trans (by omega)) ((tI_add hxn (tI_nI (Nat.lt_of_le_of_lt (hcA_le _) (Nat.lt_of_le_of_lt hle_5 (by omega)))) (by omega)).trans (by rw [hsA, hg]; omega)) (by omega)
  refine E_sub [2, 1, 0] rfl ?_
  exact J12 _ 0 0 0 (Nat.lt_succ_self _) (show (0 : Int32).toInt = 0 from rfl) (show (0 : Int32).toInt = 0 from rfl) (Nat.zero_le _)
end MO8
