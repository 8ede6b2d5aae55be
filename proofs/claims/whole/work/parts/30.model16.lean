section MO16
/-- Int64 by its bits -/
def lb (x : Int64) (i : Nat) : Bool := x.toBitVec.getLsbD i
theorem lb_ext {x y : Int64} (h : ∀ i, i < 64 → lb x i = lb y i) : x = y := Int64.toBitVec_inj.mp (BitVec.eq_of_getLsbD_eq (fun i hi => h i hi))
theorem lb_or (x y : Int64) (i : Nat) : lb (x ||| y) i = (lb x i || lb y i) := by unfold lb; rw [Int64.toBitVec_or, BitVec.getLsbD_or]
theorem lb_and (x y : Int64) (i : Nat) : lb (x &&& y) i = (lb x i && lb y i) := by unfold lb; rw [Int64.toBitVec_and, BitVec.getLsbD_and]
theorem lb_0 (i : Nat) : lb 0 i = false := BitVec.getLsbD_zero
theorem lb_1 : ∀ i, i < 64 → lb 1 i = decide (i = 0) := by decide +kernel
theorem lb_s : ∀ c, c < 64 → (((nI c).toInt64 &&& 63).toBitVec.smod 64).toNat = c := by decide +kernel
theorem lb_shr (c : Nat) (hc : c < 64) (x : Int64) {i : Nat} (hi : i < 64) : lb (x >>> ((nI c).toInt64 &&& 63)) i = if c + i < 64 then lb x (c + i) else lb x 63 := by
  unfold lb
  rw [Int64.toBitVec_shiftRight]
  show (x.toBitVec.sshiftRight (((nI c).toInt64 &&& 63).toBitVec.smod 64).toNat).getLsbD i = _
  rw [lb_s c hc, BitVec.getLsbD_sshiftRight, BitVec.msb_eq_getLsbD_last, decide_eq_false (show ¬ 64 ≤ i by omega)]
  rfl
theorem lb_shl (c : Nat) (hc : c < 64) (x : Int64) {i : Nat} (hi : i < 64) : lb (x <<< ((nI c).toInt64 &&& 63)) i = (decide (c ≤ i) && lb x (i - c)) := by
  unfold lb
  rw [Int64.toBitVec_shiftLeft]
  show (x.toBitVec <<< (((nI c).toInt64 &&& 63).toBitVec.smod 64).toNat).getLsbD i = _
  rw [lb_s c hc, BitVec.getLsbD_shiftLeft]
  have e : (!decide (i < c)) = decide (c ≤ i) := by
    rcases Nat.lt_or_ge i c with h | h
    · rw [decide_eq_true h, decide_eq_false (show ¬ c ≤ i by omega)]; rfl
    · rw [decide_eq_false (show ¬ i < c by omega), decide_eq_true h]; rfl
  rw [e, decide_eq_true hi, Bool.true_and]
theorem lb_one {c i : Nat} (hc : c < 64) (hi : i < 64) : lb ((1 : Int64) <<< ((nI c).toInt64 &&& 63)) i = decide (i = c) := by
  rw [lb_shl c hc 1 hi, lb_1 _ (by omega)]
  rcases Nat.lt_or_ge i c with h | h
  · rw [decide_eq_false (by omega), decide_eq_false (p := i = c) (by omega)]; rfl
  · rw [decide_eq_true h, Bool.true_and]
    congr 1
    exact propext ⟨fun q => by omega, fun q => by omega⟩
theorem lb_bit {c : Nat} (hc : c < 64) (x : Int64) : ((x >>> ((nI c).toInt64 &&& 63)) &&& 1) = 0 ↔ lb x c = false := by
  constructor
  · intro h
    have h1 := congrArg (fun y => lb y 0) h
    change lb ((x >>> ((nI c).toInt64 &&& 63)) &&& 1) 0 = lb 0 0 at h1
    rw [lb_and, lb_shr c hc x (by omega), lb_1 0 (by omega), lb_0, if_pos (by omega)] at h1
    simpa using h1
  · intro h
    refine lb_ext (fun i hi => ?_)
    rw [lb_and, lb_1 i hi, lb_0]
    rcases Nat.eq_zero_or_pos i with q | q
    · subst q
      rw [lb_shr c hc x hi, if_pos (by omega)]
      simpa using h
    · rw [decide_eq_false (by omega), Bool.and_false]
theorem opS_b {V : Nat → Int32} {n c : Nat} {l : Int} (hc : c < 64) : ∀ k, k ≤ 64 → (lb (opS V n l k) c = true ↔ c < k ∧ opP V n l c)
  | 0, _ => ⟨fun h => by rw [opS, lb_0] at h; exact absurd h (by decide), fun h => absurd h.1 (Nat.not_lt_zero c)⟩
  | k + 1, hk => by
    have ih := opS_b (V := V) (n := n) (l := l) hc k (by omega)
    rw [opS, lb_or, Bool.or_eq_true, ih]
    rcases Classical.em (opP V n l k) with q | q
    · rw [ifp_t q, lb_one (by omega) hc, decide_eq_true_iff]
      constructor
      · rintro (h | h)
        · exact ⟨by omega, h.2⟩
        · subst h; exact ⟨by omega, q⟩
      · intro h
        rcases Nat.lt_or_ge c k with z | z
        · exact Or.inl ⟨z, h.2⟩
        · exact Or.inr (by omega)
    · rw [ifp_f q, lb_0]
      constructor
      · rintro (h | h)
        · exact ⟨by omega, h.2⟩
        · exact absurd h (by decide)
      · intro h
        refine Or.inl ⟨?_, h.2⟩
        rcases Nat.lt_or_ge c k with z | z
        · exact z
        · have e : c = k := by omega
          subst e; exact absurd h.2 q
theorem op_bit {V : Nat → Int32} {n c : Nat} {l : Int} {x : Int32} {w : Int64} (hw : w = opS V n l 64) (hx : x.toInt = (c : Int)) (hc : c < 64) : ((w >>> (x.toInt64 &&& 63)) &&& 1) = 0 ↔ ¬ opP V n l c := by
  rw [tI_nIx hx, lb_bit hc, hw]
  have h := opS_b (V := V) (n := n) (l := l) hc 64 (by omega)
  constructor
  · intro h1 h2
    rw [h.mpr ⟨hc, h2⟩] at h1; exact absurd h1 (by decide)
  · intro h1
    rw [← Bool.not_eq_true]
    exact fun q => h1 (h.mp q).2
theorem op_0 {V : Nat → Int32} {n : Nat} {l : Int} {w : Int64} (hw : w = opS V n l 64) : w = 0 ↔ ∀ c, c < 64 → ¬ opP V n l c := by
  subst hw
  constructor
  · intro h c hc q
    have h1 := (opS_b (V := V) (n := n) (l := l) hc 64 (by omega)).mpr ⟨hc, q⟩
    rw [h, lb_0] at h1; exact absurd h1 (by decide)
  · intro h
    refine lb_ext (fun i hi => ?_)
    rw [lb_0, ← Bool.not_eq_true]
    exact fun q => h i hi ((opS_b (V := V) (n := n) (l := l) hi 64 (by omega)).mp q).2
theorem op_e {V : Nat → Int32} {n : Nat} {l : Int} {w : Int64} (hw : w = opS V n l 64) (h : w ≠ 0) : ∃ c, c < 64 ∧ opP V n l c :=
  Classical.byContradiction (fun q => h ((op_0 hw).mpr (fun c hc hp => q ⟨c, hc, hp⟩)))
theorem xB_t {x : Int32} {P : Prop} (h : x = bI P) (c : x.toInt ≠ 0) : P := Classical.byContradiction (fun q => c (by rw [h, ← b0 q]; rfl))
theorem xB_f {x : Int32} {P : Prop} (h : x = bI P) (c : x.toInt = 0) : ¬ P := fun q => by rw [h, ← b1 q] at c; exact absurd c (by decide)
theorem SM_o {mi mj : MI} {c : Int32} (h : Fr [65, 66] (u2 mi 61 5 c) mj) : SM c mi mj :=
  ⟨Fr.trans (F := [61]) (Fr.rfl'.u (by decide)) h (by decide) (by decide), by rw [h 61 (by decide), u2_n (by omega)], by rw [h 61 (by decide), u2_n (by omega)], by rw [h 61 (by decide), u2_s]⟩
set_option maxHeartbeats 1600000 in
set_option maxRecDepth 100000 in
theorem c_X6_openings (l : Launch) (hfl : l.stackTraces = false) (mi : MI) (ml : MJ) (n : Nat) (hn : (mi 62 5).toInt = (n : Int)) (h10 : n ≤ 10) (hwf : WFV (mi 62)) (a : Int32) (A : Int) (hA : a.toInt = A) : Ct l yX6_openings (.code yX6_openings cX6_openings 2 (some .long)) 5 0 0 [.ref 61, .int a] (wl mi ml) (QJ (fun r mi9 ml9 => ml = ml9 ∧ ((¬ (0 ≤ A ∧ A ≤ 60) ∧ SM 1 mi mi9) ∨ ((0 ≤ A ∧ A ≤ 60) ∧ SM 0 mi mi9 ∧ r = opS (mi 62) n A 64)))) noX := by
  refine Ct_of (ini := false) pn_X6 hfl (fun h => nomatch h) (Nat.le_of_ble_eq_true rfl) ?_
  show E l RX6 cX6_openings 2 (some .long) false [] (rmE 5 0 0) (wl mi ml) (TgM (wl mi ml) 0 0 (QJ (fun r mi9 ml9 => ml = ml9 ∧ ((¬ (0 ≤ A ∧ A ≤ 60) ∧ SM 1 mi mi9) ∨ ((0 ≤ A ∧ A ≤ 60) ∧ SM 0 mi mi9 ∧ r = opS (mi 62) n A 64)))) noX) 0 0 0 [(0, .ref 61), (1, .int a)] [] (wl mi ml)
  refine E_aload_n 0 dX6_openings_0 rfl rfl ?_
  refine E_iload_n 1 dX6_openings_1 rfl rfl ?_
  refine E_iconst 0 (by decide) dX6_openings_2 ?_
  refine E_bipush 60 (by decide) dX6_openings_3 ?_
  refine E_callS (c_X6_in l hfl mi ml a 0 60 A 0 60 hA (show (0 : Int32).toInt = 0 from rfl) (show (60 : Int32).toInt = 60 from rfl)) cw_X6_53 (As := [.int a, .int 0, .int 60]) (st := [.ref 61]) ws_yX6_in rfl ⟨Nat.le_of_ble_eq_true rfl, Nat.le_of_ble_eq_true rfl, Nat.le_of_ble_eq_true rfl, Nat.le_of_ble_eq_true rfl⟩ (Nat.le_of_ble_eq_true rfl) dX6_openings_5 (fun _ _ h => h) rfl (kE ?_)
  refine B_eq 15 dX6_openings_8 (by decide) (fun c_8 => ?_) (fun c_8 => ?_)
  · skip
    refine E_iconst 1 (by decide) dX6_openings_15 ?_
    refine pf_X6_43 tw_61 rfl dX6_openings_16 ?_
    refine E_aload_n 0 dX6_openings_19 rfl rfl ?_
    refine gf_X6_43 1 tw_61 rfl (u2_s _ _ _ _) dX6_openings_20 ?_
    refine Y_eq 1 (show (1 : Int32).toInt = 1 from rfl) 30 dX6_openings_23 (by decide) (fun c_23 => ?_) (fun c_23 => ?_)
    · exact absurd c_23 (by decide)
    · skip
      refine E_lconst 0 rfl dX6_openings_26 ?_
      refine E_goto 35 dX6_openings_27 (by decide) ?_
      refine E_lret rfl (Nat.le_of_ble_eq_true rfl) (Nat.le_of_ble_eq_true rfl) dX6_openings_35 ?_
      exact okQJ ⟨rfl, Or.inl ⟨c_8, SM_0⟩⟩
  · skip
    refine E_iconst 0 (by decide) dX6_openings_11 ?_
    refine E_goto 16 dX6_openings_12 (by decide) ?_
    refine pf_X6_43 tw_61 rfl dX6_openings_16 ?_
    refine E_aload_n 0 dX6_openings_19 rfl rfl ?_
    refine gf_X6_43 0 tw_61 rfl (u2_s _ _ _ _) dX6_openings_20 ?_
    refine Y_eq 0 (show (0 : Int32).toInt = 0 from rfl) 30 dX6_openings_23 (by decide) (fun c_23 => ?_) (fun c_23 => ?_)
    · skip
      refine E_aload_n 0 dX6_openings_30 rfl rfl ?_
      refine E_iload_n 1 dX6_openings_31 rfl rfl ?_
      refine E_callV (c_X6_openingsFor l hfl (u2 mi 61 5 0) ml n ((congrArg Int32.toInt ((u2_n (by omega)).trans rfl)).trans hn) (by omega) (by rw [show (u2 mi 61 5 0) 62 = mi 62 from (u2_p (by decide))]; exact hwf) a A hA c_8) cw_X6_155 (As := [.int a]) (st := []) wi_yX6_openingsFor we_yX6_openingsFor (ci := 6) (q := (RX6, TX6, 23)) rfl rfl (wl_atO tw_61) rfl ⟨Nat.le_of_ble_eq_true rfl, Nat.le_of_ble_eq_true rfl, Nat.le_of_ble_eq_true rfl, Nat.le_of_ble_eq_true rfl⟩ (Nat.le_of_ble_eq_true rfl) dX6_openings_32 (fun _ _ h => h) rfl (kJ (fun r_32 mi_32 ml_32 h_32 => ?_))
      obtain ⟨hl9_32, hFr_32, hop_32⟩ := h_32
      subst hl9_32
      rw [show (u2 mi 61 5 0) 62 = mi 62 from (u2_p (by decide))] at hop_32
      refine E_lret rfl (Nat.le_of_ble_eq_true rfl) (Nat.le_of_ble_eq_true rfl) dX6_openings_35 ?_
      exact okQJ ⟨rfl, Or.inr ⟨c_8, SM_o hFr_32, hop_32⟩⟩
    · exact absurd c_23 (by decide)
set_option maxHeartbeats 1600000 in
set_option maxRecDepth 100000 in
theorem c_X6_putIn (l : Launch) (hfl : l.stackTraces = false) (mi : MI) (ml : MJ) (n : Nat) (hn : (mi 62 5).toInt = (n : Int)) (h10 : n ≤ 10) (hwf : WFV (mi 62)) (sc : Nat) (hsc : (mi 61 2).toInt = (sc : Int)) (h4 : sc ≤ 4) (a : Int32) (A : Int) (hA : a.toInt = A) : Ct l yX6_putIn (.code yX6_putIn cX6_putIn 5 (some .int)) 5 0 0 [.ref 61, .int a] (wl mi ml) (QI (fun r mi9 ml9 => ml = ml9 ∧ ((¬ (0 ≤ A ∧ A ≤ 60) ∧ u2 mi 61 5 1 = mi9) ∨ ((0 ≤ A ∧ A ≤ 60) ∧ n = 10 ∧ u2 mi 61 5 2 = mi9) ∨ ((0 ≤ A ∧ A ≤ 60) ∧ n < 10 ∧ (∀ c, c < 64 → ¬ opP (mi 62) n A c) ∧ r = -1 ∧ SM 0 mi mi9) ∨ ((0 ≤ A ∧ A ≤ 60) ∧ n < 10 ∧ ∃ (z : Nat) (mj mk : MI) (x : Int32), z < 64 ∧ opP (mi 62) n A z ∧ (∀ c, c < z → ¬ opP (mi 62) n A c) ∧ r.toInt = (z : Int) ∧ SM 0 mi mj ∧ Kept mj mk ∧ x.toInt = (n : Int) + 1 ∧ u2 (u2 (u2 (u2 mk 62 32 0) 62 (6 + 2 * n) r) 62 (7 + 2 * n) a) 62 5 x = mi9)))) noX := by
  refine Ct_of (ini := false) pn_X6 hfl (fun h => nomatch h) (Nat.le_of_ble_eq_true rfl) ?_
  show E l RX6 cX6_putIn 5 (some .int) false [] (rmE 5 0 0) (wl mi ml) (TgM (wl mi ml) 0 0 (QI (fun r mi9 ml9 => ml = ml9 ∧ ((¬ (0 ≤ A ∧ A ≤ 60) ∧ u2 mi 61 5 1 = mi9) ∨ ((0 ≤ A ∧ A ≤ 60) ∧ n = 10 ∧ u2 mi 61 5 2 = mi9) ∨ ((0 ≤ A ∧ A ≤ 60) ∧ n < 10 ∧ (∀ c, c < 64 → ¬ opP (mi 62) n A c) ∧ r = -1 ∧ SM 0 mi mi9) ∨ ((0 ≤ A ∧ A ≤ 60) ∧ n < 10 ∧ ∃ (z : Nat) (mj mk : MI) (x : Int32), z < 64 ∧ opP (mi 62) n A z ∧ (∀ c, c < z → ¬ opP (mi 62) n A c) ∧ r.toInt = (z : Int) ∧ SM 0 mi mj ∧ Kept mj mk ∧ x.toInt = (n : Int) + 1 ∧ u2 (u2 (u2 (u2 mk 62 32 0) 62 (6 + 2 * n) r) 62 (7 + 2 * n) a) 62 5 x = mi9)))) noX) 0 0 0 [(0, .ref 61), (1, .int a)] [] (wl mi ml)
  refine E_aload_n 0 dX6_putIn_0 rfl rfl ?_
  refine E_iload_n 1 dX6_putIn_1 rfl rfl ?_
  refine E_iconst 0 (by decide) dX6_putIn_2 ?_
  refine E_bipush 60 (by decide) dX6_putIn_3 ?_
  refine E_callS (c_X6_in l hfl mi ml a 0 60 A 0 60 hA (show (0 : Int32).toInt = 0 from rfl) (show (60 : Int32).toInt = 60 from rfl)) cw_X6_53 (As := [.int a, .int 0, .int 60]) (st := [.ref 61]) ws_yX6_in rfl ⟨Nat.le_of_ble_eq_true rfl, Nat.le_of_ble_eq_true rfl, Nat.le_of_ble_eq_true rfl, Nat.le_of_ble_eq_true rfl⟩ (Nat.le_of_ble_eq_true rfl) dX6_putIn_5 (fun _ _ h => h) rfl (kE ?_)
  refine B_ne 15 dX6_putIn_8 (by decide) (fun c_8 => ?_) (fun c_8 => ?_)
  · skip
    refine E_aload_n 0 dX6_putIn_15 rfl rfl ?_
    refine gf_X6_7 tw_61 rfl dX6_putIn_16 ?_
    refine E_iconst 5 (by decide) dX6_putIn_19 ?_
    refine S_iald 5 (mi 62 5) tw_62 rfl (by decide) rfl dX6_putIn_20 ?_
    refine E_bipush 10 (by decide) dX6_putIn_21 ?_
    refine Z_ne (n : Int) 10 hn (show (10 : Int32).toInt = 10 from rfl) 30 dX6_putIn_23 (by decide) (fun c_23 => ?_) (fun c_23 => ?_)
    · skip
      refine E_iconst 0 (by decide) dX6_putIn_30 ?_
      refine pf_X6_43 tw_61 rfl dX6_putIn_31 ?_
      refine E_aload_n 0 dX6_putIn_34 rfl rfl ?_
      refine gf_X6_43 0 tw_61 rfl (u2_s _ _ _ _) dX6_putIn_35 ?_
      refine Y_eq 0 (show (0 : Int32).toInt = 0 from rfl) 43 dX6_putIn_38 (by decide) (fun c_38 => ?_) (fun c_38 => ?_)
      · skip
        refine E_aload_n 0 dX6_putIn_43 rfl rfl ?_
        refine E_iload_n 1 dX6_putIn_44 rfl rfl ?_
        refine E_callV (c_X6_openingsFor l hfl (u2 mi 61 5 0) ml n ((congrArg Int32.toInt ((u2_n (by omega)).trans rfl)).trans hn) (by omega) (by rw [show (u2 mi 61 5 0) 62 = mi 62 from (u2_p (by decide))]; exact hwf) a A hA c_8) cw_X6_155 (As := [.int a]) (st := []) wi_yX6_openingsFor we_yX6_openingsFor (ci := 6) (q := (RX6, TX6, 23)) rfl rfl (wl_atO tw_61) rfl ⟨Nat.le_of_ble_eq_true rfl, Nat.le_of_ble_eq_true rfl, Nat.le_of_ble_eq_true rfl, Nat.le_of_ble_eq_true rfl⟩ (Nat.le_of_ble_eq_true rfl) dX6_putIn_45 (fun _ _ h => h) rfl (kJ (fun r_45 mi_45 ml_45 h_45 => ?_))
        obtain ⟨hl9_45, hFr_45, hop_45⟩ := h_45
        subst hl9_45
        rw [show (u2 mi 61 5 0) 62 = mi 62 from (u2_p (by decide))] at hop_45
        refine E_lstore_n [(2, .long r_45), (0, .ref 61), (1, .int a)] dX6_putIn_48 rfl (by decide) rfl ?_
        refine E_lload_n 0 dX6_putIn_49 rfl rfl ?_
        refine E_lconst 0 rfl dX6_putIn_50 ?_
        refine E_lcmp dX6_putIn_51 ?_
        refine Y_ne ((lg_cmp r_45 0).toInt) rfl 57 dX6_putIn_52 (by decide) (fun c_52 => ?_) (fun c_52 => ?_)
        · skip
          obtain ⟨c9, hc9, hp9⟩ := op_e hop_45 (lg_1 c_52)
          refine E_iconst 0 (by decide) dX6_putIn_57 ?_
          refine E_istore [(4, .int 0), (2, .long r_45), (0, .ref 61), (1, .int a)] dX6_putIn_58 (by decide) rfl ?_
          have J60 : ∀ (Nm : Nat) (xz : Int32) (z : Nat), 64 - z < Nm → xz.toInt = (z : Int) → z < 64 → (∀ c, c < z → ¬ opP (mi 62) n A c) → E l RX6 cX6_putIn 5 (some .int) false [] (rmE 5 0 0) (wl mi ml) (TgM (wl mi ml) 0 0 (QI (fun r mi9 ml9 => ml = ml9 ∧ ((¬ (0 ≤ A ∧ A ≤ 60) ∧ u2 mi 61 5 1 = mi9) ∨ ((0 ≤ A ∧ A ≤ 60) ∧ n = 10 ∧ u2 mi 61 5 2 = mi9) ∨ ((0 ≤ A ∧ A ≤ 60) ∧ n < 10 ∧ (∀ c, c < 64 → ¬ opP (mi 62) n A c) ∧ r = -1 ∧ SM 0 mi mi9) ∨ ((0 ≤ A ∧ A ≤ 60) ∧ n < 10 ∧ ∃ (z : Nat) (mj mk : MI) (x : Int32), z < 64 ∧ opP (mi 62) n A z ∧ (∀ c, c < z → ¬ opP (mi 62) n A c) ∧ r.toInt = (z : Int) ∧ SM 0 mi mj ∧ Kept mj mk ∧ x.toInt = (n : Int) + 1 ∧ u2 (u2 (u2 (u2 mk 62 32 0) 62 (6 + 2 * n) r) 62 (7 + 2 * n) a) 62 5 x = mi9)))) noX) 0 0 60 [(0, .ref 61), (1, .int a), (2, .long r_45), (4, .int xz)] [] (wl mi_45 ml) := by
            intro Nm
            induction Nm with
            | zero => intros; omega
            | succ Nm ih60 =>
              intro xz z hN60 hxz hz hno
              refine E_lload_n 2 dX6_putIn_60 rfl rfl ?_
              refine E_iload 3 dX6_putIn_61 rfl ?_
              refine E_lshr dX6_putIn_63 ?_
              refine E_lconst 1 rfl dX6_putIn_64 ?_
              refine E_land dX6_putIn_65 ?_
              refine E_lconst 0 rfl dX6_putIn_66 ?_
              refine E_lcmp dX6_putIn_67 ?_
              refine Y_ne ((lg_cmp ((r_45 >>> (xz.toInt64 &&& 63)) &&& 1) 0).toInt) rfl 77 dX6_putIn_68 (by decide) (fun c_68 => ?_) (fun c_68 => ?_)
              · skip
                refine E_aload_n 0 dX6_putIn_77 rfl rfl ?_
                refine E_callV (c_X6_change l hfl mi_45 ml sc ((congrArg Int32.toInt ((congrFun (hFr_45 61 (by decide)) 2).trans ((u2_n (by omega)).trans rfl))).trans hsc) (by omega)) cw_X6_72 (As := []) (st := []) wi_yX6_change we_yX6_change (ci := 6) (q := (RX6, TX6, 23)) rfl rfl (wl_atO tw_61) rfl ⟨Nat.le_of_ble_eq_true rfl, Nat.le_of_ble_eq_true rfl, Nat.le_of_ble_eq_true rfl, Nat.le_of_ble_eq_true rfl⟩ (Nat.le_of_ble_eq_true rfl) dX6_putIn_78 (fun _ _ h => h) rfl (kV (fun mi_78 ml_78 h_78 => ?_))
                obtain ⟨mk_78, hK_78, rfl, rfl⟩ := h_78
                refine E_aload_n 0 dX6_putIn_81 rfl rfl ?_
                refine E_aload_n 0 dX6_putIn_82 rfl rfl ?_
                refine gf_X6_7 tw_61 rfl dX6_putIn_83 ?_
                refine E_iconst 5 (by decide) dX6_putIn_86 ?_
                refine S_iald 5 (mi 62 5) tw_62 rfl (by decide) ((u2_n (by omega)).trans ((congrFun (hK_78.1 62 (by decide)) 5).trans ((congrFun (hFr_45 62 (by decide)) 5).trans ((u2_n (by omega)).trans rfl)))) dX6_putIn_87 ?_
                refine E_iload 3 dX6_putIn_88 rfl ?_
                refine E_iload_n 1 dX6_putIn_90 rfl rfl ?_
                refine E_callV (c_X6_lay l hfl (u2 mk_78 62 32 0) ml (mi 62 5) xz a n (hn.trans (by omega)) (by omega)) cw_X6_75 (As := [.int (mi 62 5), .int xz, .int a]) (st := []) wi_yX6_lay we_yX6_lay (ci := 6) (q := (RX6, TX6, 23)) rfl rfl (wl_atO tw_61) rfl ⟨Nat.le_of_ble_eq_true rfl, Nat.le_of_ble_eq_true rfl, Nat.le_of_ble_eq_true rfl, Nat.le_of_ble_eq_true rfl⟩ (Nat.le_of_ble_eq_true rfl) dX6_putIn_91 (fun _ _ h => h) rfl (kE0 ?_)
                refine E_aload_n 0 dX6_putIn_94 rfl rfl ?_
                refine gf_X6_7 tw_61 rfl dX6_putIn_95 ?_
                refine E_iconst 5 (by decide) dX6_putIn_98 ?_
                refine E_dup2 rfl rfl dX6_putIn_99 ?_
                refine S_iald 5 (mi 62 5) tw_62 rfl (by decide) ((u2_n (by omega)).trans ((u2_n (by omega)).trans ((u2_n (by omega)).trans ((congrFun (hK_78.1 62 (by decide)) 5).trans ((congrFun (hFr_45 62 (by decide)) 5).trans ((u2_n (by omega)).trans rfl)))))) dX6_putIn_100 ?_
                refine E_iconst 1 (by decide) dX6_putIn_101 ?_
                refine E_iadd dX6_putIn_102 ?_
                refine S_iast 5 tw_62 rfl (by decide) dX6_putIn_103 ?_
                refine E_iload 3 dX6_putIn_104 rfl ?_
                refine E_iret rfl (Nat.le_of_ble_eq_true rfl) (Nat.le_of_ble_eq_true rfl) dX6_putIn_106 ?_
                exact okQI ⟨rfl, Or.inr (Or.inr (Or.inr ⟨c_8, by omega, z, _, _, _, hz, Classical.byContradiction (fun q => lg_1 c_68 ((op_bit hop_45 hxz hz).mpr q)), hno, hxz, SM_o hFr_45, hK_78, (tI_add hn (show (1 : Int32).toInt = 1 from rfl) (by omega)).trans (by omega), rfl⟩))⟩
              · skip
                have hnz := (op_bit hop_45 hxz hz).mp (lg_0 c_68)
                have hno1 : ∀ c, c < z + 1 → ¬ opP (mi 62) n A c := lt_s hno hnz
                have hz1 : z + 1 < 64 := Nat.lt_of_le_of_lt (Nat.le_of_not_lt (fun q => hno1 c9 q hp9)) hc9
                refine E_iinc 3 (xz + 1) [(4, .int (xz + 1)), (0, .ref 61), (1, .int a), (2, .long r_45)] dX6_putIn_71 rfl rfl (by decide) rfl ?_
                refine E_goto 60 dX6_putIn_74 (by decide) ?_
                refine E_sub [1, 2, 3, 0] rfl ?_
                exact ih60 (xz + 1) (z + 1) (by omega) ((tI_add hxz (show (1 : Int32).toInt = 1 from rfl) (by omega)).trans (by omega)) hz1 hno1
          refine E_sub [2, 3, 1, 0] rfl ?_
          exact J60 _ 0 0 (Nat.lt_succ_self _) (show (0 : Int32).toInt = 0 from rfl) (by omega) (fun c h => absurd h (Nat.not_lt_zero c))
        · skip
          refine E_iconst (-1) (by decide) dX6_putIn_55 ?_
          refine E_iret rfl (Nat.le_of_ble_eq_true rfl) (Nat.le_of_ble_eq_true rfl) dX6_putIn_56 ?_
          exact okQI ⟨rfl, Or.inr (Or.inr (Or.inl ⟨c_8, by omega, (op_0 hop_45).mp (lg_0 c_52), rfl, SM_o hFr_45⟩))⟩
      · exact absurd c_38 (by decide)
    · skip
      refine E_iconst 2 (by decide) dX6_putIn_26 ?_
      refine E_goto 31 dX6_putIn_27 (by decide) ?_
      refine pf_X6_43 tw_61 rfl dX6_putIn_31 ?_
      refine E_aload_n 0 dX6_putIn_34 rfl rfl ?_
      refine gf_X6_43 2 tw_61 rfl (u2_s _ _ _ _) dX6_putIn_35 ?_
      refine Y_eq 2 (show (2 : Int32).toInt = 2 from rfl) 43 dX6_putIn_38 (by decide) (fun c_38 => ?_) (fun c_38 => ?_)
      · exact absurd c_38 (by decide)
      · skip
        refine E_iconst 0 (by decide) dX6_putIn_41 ?_
        refine E_iret rfl (Nat.le_of_ble_eq_true rfl) (Nat.le_of_ble_eq_true rfl) dX6_putIn_42 ?_
        exact okQI ⟨rfl, Or.inr (Or.inl ⟨c_8, by omega, rfl⟩)⟩
  · skip
    refine E_iconst 1 (by decide) dX6_putIn_11 ?_
    refine E_goto 31 dX6_putIn_12 (by decide) ?_
    refine pf_X6_43 tw_61 rfl dX6_putIn_31 ?_
    refine E_aload_n 0 dX6_putIn_34 rfl rfl ?_
    refine gf_X6_43 1 tw_61 rfl (u2_s _ _ _ _) dX6_putIn_35 ?_
    refine Y_eq 1 (show (1 : Int32).toInt = 1 from rfl) 43 dX6_putIn_38 (by decide) (fun c_38 => ?_) (fun c_38 => ?_)
    · exact absurd c_38 (by decide)
    · skip
      refine E_iconst 0 (by decide) dX6_putIn_41 ?_
      refine E_iret rfl (Nat.le_of_ble_eq_true rfl) (Nat.le_of_ble_eq_true rfl) dX6_putIn_42 ?_
      exact okQI ⟨rfl, Or.inl ⟨c_8, rfl⟩⟩
set_option maxHeartbeats 1600000 in
set_option maxRecDepth 100000 in
theorem c_X6_shift (l : Launch) (hfl : l.stackTraces = false) (mi : MI) (ml : MJ) (n : Nat) (hn : (mi 62 5).toInt = (n : Int)) (h10 : n ≤ 10) (hwf : WFV (mi 62)) (sc : Nat) (hsc : (mi 61 2).toInt = (sc : Int)) (h4 : sc ≤ 4) (a : Int32) (B : Int) (hB : a.toInt = B) : Ct l yX6_shift (.code yX6_shift cX6_shift 4 (some .int)) 5 0 0 [.ref 61, .int a] (wl mi ml) (QI (fun r mi9 ml9 => ml = ml9 ∧ ((¬ (-63 ≤ B ∧ B ≤ 63) ∧ u2 mi 61 5 1 = mi9) ∨ ((-63 ≤ B ∧ B ≤ 63) ∧ ¬ (∀ j, j < n → (0 ≤ (mi 62 (6 + 2 * j)).toInt + B ∧ (mi 62 (6 + 2 * j)).toInt + B ≤ 63)) ∧ u2 mi 61 5 2 = mi9) ∨ ((-63 ≤ B ∧ B ≤ 63) ∧ (∀ j, j < n → (0 ≤ (mi 62 (6 + 2 * j)).toInt + B ∧ (mi 62 (6 + 2 * j)).toInt + B ≤ 63)) ∧ r.toInt = (n : Int) ∧ ∃ mk, Kept (u2 mi 61 5 0) mk ∧ Fr [62] mk mi9 ∧ (∀ j, j < n → (mi9 62 (6 + 2 * j)).toInt = (mi 62 (6 + 2 * j)).toInt + B ∧ mi9 62 (7 + 2 * j) = mi 62 (7 + 2 * j)) ∧ mi9 62 32 = 0 ∧ (∀ k, (k < 6 ∨ 6 + 2 * n ≤ k) → k ≠ 32 → mi9 62 k = mi 62 k))))) noX := by
  refine Ct_of (ini := false) pn_X6 hfl (fun h => nomatch h) (Nat.le_of_ble_eq_true rfl) ?_
  show E l RX6 cX6_shift 4 (some .int) false [] (rmE 5 0 0) (wl mi ml) (TgM (wl mi ml) 0 0 (QI (fun r mi9 ml9 => ml = ml9 ∧ ((¬ (-63 ≤ B ∧ B ≤ 63) ∧ u2 mi 61 5 1 = mi9) ∨ ((-63 ≤ B ∧ B ≤ 63) ∧ ¬ (∀ j, j < n → (0 ≤ (mi 62 (6 + 2 * j)).toInt + B ∧ (mi 62 (6 + 2 * j)).toInt + B ≤ 63)) ∧ u2 mi 61 5 2 = mi9) ∨ ((-63 ≤ B ∧ B ≤ 63) ∧ (∀ j, j < n → (0 ≤ (mi 62 (6 + 2 * j)).toInt + B ∧ (mi 62 (6 + 2 * j)).toInt + B ≤ 63)) ∧ r.toInt = (n : Int) ∧ ∃ mk, Kept (u2 mi 61 5 0) mk ∧ Fr [62] mk mi9 ∧ (∀ j, j < n → (mi9 62 (6 + 2 * j)).toInt = (mi 62 (6 + 2 * j)).toInt + B ∧ mi9 62 (7 + 2 * j) = mi 62 (7 + 2 * j)) ∧ mi9 62 32 = 0 ∧ (∀ k, (k < 6 ∨ 6 + 2 * n ≤ k) → k ≠ 32 → mi9 62 k = mi 62 k))))) noX) 0 0 0 [(0, .ref 61), (1, .int a)] [] (wl mi ml)
  have J54 : ∀ (xf : Int32), ((-63 ≤ B ∧ B ≤ 63) → xf = bI (∀ j, j < n → (0 ≤ (mi 62 (6 + 2 * j)).toInt + B ∧ (mi 62 (6 + 2 * j)).toInt + B ≤ 63))) → E l RX6 cX6_shift 4 (some .int) false [] (rmE 5 0 0) (wl mi ml) (TgM (wl mi ml) 0 0 (QI (fun r mi9 ml9 => ml = ml9 ∧ ((¬ (-63 ≤ B ∧ B ≤ 63) ∧ u2 mi 61 5 1 = mi9) ∨ ((-63 ≤ B ∧ B ≤ 63) ∧ ¬ (∀ j, j < n → (0 ≤ (mi 62 (6 + 2 * j)).toInt + B ∧ (mi 62 (6 + 2 * j)).toInt + B ≤ 63)) ∧ u2 mi 61 5 2 = mi9) ∨ ((-63 ≤ B ∧ B ≤ 63) ∧ (∀ j, j < n → (0 ≤ (mi 62 (6 + 2 * j)).toInt + B ∧ (mi 62 (6 + 2 * j)).toInt + B ≤ 63)) ∧ r.toInt = (n : Int) ∧ ∃ mk, Kept (u2 mi 61 5 0) mk ∧ Fr [62] mk mi9 ∧ (∀ j, j < n → (mi9 62 (6 + 2 * j)).toInt = (mi 62 (6 + 2 * j)).toInt + B ∧ mi9 62 (7 + 2 * j) = mi 62 (7 + 2 * j)) ∧ mi9 62 32 = 0 ∧ (∀ k, (k < 6 ∨ 6 + 2 * n ≤ k) → k ≠ 32 → mi9 62 k = mi 62 k))))) noX) 0 0 54 [(0, .ref 61), (1, .int a), (2, .int xf)] [] (wl mi ml) := by
    intro xf hf2
    refine E_aload_n 0 dX6_shift_54 rfl rfl ?_
    refine E_iload_n 1 dX6_shift_55 rfl rfl ?_
    refine E_bipush (-63) (by decide) dX6_shift_56 ?_
    refine E_bipush 63 (by decide) dX6_shift_58 ?_
    refine E_callS (c_X6_in l hfl mi ml a (-63) 63 B (-63) 63 hB (show ((-63) : Int32).toInt = (-63) from rfl) (show (63 : Int32).toInt = 63 from rfl)) cw_X6_53 (As := [.int a, .int (-63), .int 63]) (st := [.ref 61]) ws_yX6_in rfl ⟨Nat.le_of_ble_eq_true rfl, Nat.le_of_ble_eq_true rfl, Nat.le_of_ble_eq_true rfl, Nat.le_of_ble_eq_true rfl⟩ (Nat.le_of_ble_eq_true rfl) dX6_shift_60 (fun _ _ h => h) rfl (kE ?_)
    refine B_ne 70 dX6_shift_63 (by decide) (fun c_63 => ?_) (fun c_63 => ?_)
    · skip
      refine E_iload_n 2 dX6_shift_70 rfl rfl ?_
      refine Y_eq xf.toInt rfl 78 dX6_shift_71 (by decide) (fun c_71 => ?_) (fun c_71 => ?_)
      · skip
        refine E_iconst 2 (by decide) dX6_shift_78 ?_
        refine pf_X6_43 tw_61 rfl dX6_shift_79 ?_
        refine E_aload_n 0 dX6_shift_82 rfl rfl ?_
        refine gf_X6_43 2 tw_61 rfl (u2_s _ _ _ _) dX6_shift_83 ?_
        refine Y_eq 2 (show (2 : Int32).toInt = 2 from rfl) 91 dX6_shift_86 (by decide) (fun c_86 => ?_) (fun c_86 => ?_)
        · exact absurd c_86 (by decide)
        · skip
          refine E_iconst 0 (by decide) dX6_shift_89 ?_
          refine E_iret rfl (Nat.le_of_ble_eq_true rfl) (Nat.le_of_ble_eq_true rfl) dX6_shift_90 ?_
          exact okQI ⟨rfl, Or.inr (Or.inl ⟨c_63, xB_f (hf2 c_63) c_71, rfl⟩)⟩
      · skip
        refine E_iconst 0 (by decide) dX6_shift_74 ?_
        refine E_goto 79 dX6_shift_75 (by decide) ?_
        refine pf_X6_43 tw_61 rfl dX6_shift_79 ?_
        refine E_aload_n 0 dX6_shift_82 rfl rfl ?_
        refine gf_X6_43 0 tw_61 rfl (u2_s _ _ _ _) dX6_shift_83 ?_
        refine Y_eq 0 (show (0 : Int32).toInt = 0 from rfl) 91 dX6_shift_86 (by decide) (fun c_86 => ?_) (fun c_86 => ?_)
        · skip
          have hall := xB_t (hf2 c_63) c_71
          refine E_aload_n 0 dX6_shift_91 rfl rfl ?_
          refine E_callV (c_X6_change l hfl (u2 mi 61 5 0) ml sc ((congrArg Int32.toInt ((u2_n (by omega)).trans rfl)).trans hsc) (by omega)) cw_X6_72 (As := []) (st := []) wi_yX6_change we_yX6_change (ci := 6) (q := (RX6, TX6, 23)) rfl rfl (wl_atO tw_61) rfl ⟨Nat.le_of_ble_eq_true rfl, Nat.le_of_ble_eq_true rfl, Nat.le_of_ble_eq_true rfl, Nat.le_of_ble_eq_true rfl⟩ (Nat.le_of_ble_eq_true rfl) dX6_shift_92 (fun _ _ h => h) rfl (kV (fun mi_92 ml_92 h_92 => ?_))
          obtain ⟨mk_92, hK_92, rfl, rfl⟩ := h_92
          refine E_iconst 0 (by decide) dX6_shift_95 ?_
          refine E_istore_n [(3, .int 0), (0, .ref 61), (1, .int a), (2, .int xf)] dX6_shift_96 rfl (by decide) rfl ?_
          have J97 : ∀ (Nm : Nat) (xi : Int32) (i : Nat) (mj : MI), n - i < Nm → xi.toInt = (i : Int) → i ≤ n → Fr [62] (u2 mk_92 62 32 0) mj → (∀ j, j < i → (mj 62 (6 + 2 * j)).toInt = (mi 62 (6 + 2 * j)).toInt + B ∧ mj 62 (7 + 2 * j) = mi 62 (7 + 2 * j)) → (∀ k, (k < 6 ∨ 6 + 2 * i ≤ k) → k ≠ 32 → mj 62 k = mi 62 k) → mj 62 32 = 0 → E l RX6 cX6_shift 4 (some .int) false [] (rmE 5 0 0) (wl mi ml) (TgM (wl mi ml) 0 0 (QI (fun r mi9 ml9 => ml = ml9 ∧ ((¬ (-63 ≤ B ∧ B ≤ 63) ∧ u2 mi 61 5 1 = mi9) ∨ ((-63 ≤ B ∧ B ≤ 63) ∧ ¬ (∀ j, j < n → (0 ≤ (mi 62 (6 + 2 * j)).toInt + B ∧ (mi 62 (6 + 2 * j)).toInt + B ≤ 63)) ∧ u2 mi 61 5 2 = mi9) ∨ ((-63 ≤ B ∧ B ≤ 63) ∧ (∀ j, j < n → (0 ≤ (mi 62 (6 + 2 * j)).toInt + B ∧ (mi 62 (6 + 2 * j)).toInt + B ≤ 63)) ∧ r.toInt = (n : Int) ∧ ∃ mk, Kept (u2 mi 61 5 0) mk ∧ Fr [62] mk mi9 ∧ (∀ j, j < n → (mi9 62 (6 + 2 * j)).toInt = (mi 62 (6 + 2 * j)).toInt + B ∧ mi9 62 (7 + 2 * j) = mi 62 (7 + 2 * j)) ∧ mi9 62 32 = 0 ∧ (∀ k, (k < 6 ∨ 6 + 2 * n ≤ k) → k ≠ 32 → mi9 62 k = mi 62 k))))) noX) 0 0 97 [(0, .ref 61), (1, .int a), (3, .int xi)] [] (wl mj ml) := by
            intro Nm
            induction Nm with
            | zero => intros; omega
            | succ Nm ih97 =>
              intro xi i mj hN97 hxi hi hF h2 h3 h32
              have hm5 : mj 62 5 = mi 62 5 := h3 5 (by omega) (by omega)
              refine E_iload_n 2 dX6_shift_97 rfl rfl ?_
              refine E_aload_n 0 dX6_shift_98 rfl rfl ?_
              refine gf_X6_7 tw_61 rfl dX6_shift_99 ?_
              refine E_iconst 5 (by decide) dX6_shift_102 ?_
              refine S_iald 5 (mi 62 5) tw_62 rfl (by decide) hm5 dX6_shift_103 ?_
              refine Z_ge (i : Int) (n : Int) hxi hn 130 dX6_shift_104 (by decide) (fun c_104 => ?_) (fun c_104 => ?_)
              · skip
                refine E_aload_n 0 dX6_shift_130 rfl rfl ?_
                refine gf_X6_7 tw_61 rfl dX6_shift_131 ?_
                refine E_iconst 5 (by decide) dX6_shift_134 ?_
                refine S_iald 5 (mi 62 5) tw_62 rfl (by decide) hm5 dX6_shift_135 ?_
                refine E_iret rfl (Nat.le_of_ble_eq_true rfl) (Nat.le_of_ble_eq_true rfl) dX6_shift_136 ?_
                exact okQI ⟨rfl, Or.inr (Or.inr ⟨c_63, hall, hn, mk_92, hK_92, Fr.trans (F := [62]) (Fr.rfl'.u (by decide)) hF (by decide) (by decide), by rw [← show i = n by omega]; exact h2, h32, by rw [← show i = n by omega]; exact h3⟩)⟩
              · skip
                have bc := (hwf.2.2.1 i (by omega)).1
                have ba := hall i (by omega)
                have hm6 := h3 (6 + 2 * i) (by omega) (by omega)
                have hm7 := h3 (7 + 2 * i) (by omega) (by omega)
                refine E_aload_n 0 dX6_shift_107 rfl rfl ?_
                refine E_iload_n 2 dX6_shift_108 rfl rfl ?_
                refine E_aload_n 0 dX6_shift_109 rfl rfl ?_
                refine E_iload_n 2 dX6_shift_110 rfl rfl ?_
                refine E_callV (c_X6_channelOf l hfl mj ml xi i (hxi.trans (by omega)) (by omega)) cw_X6_57 (As := [.int xi]) (st := [.int xi, .ref 61]) wi_yX6_channelOf we_yX6_channelOf (ci := 6) (q := (RX6, TX6, 23)) rfl rfl (wl_atO tw_61) rfl ⟨Nat.le_of_ble_eq_true rfl, Nat.le_of_ble_eq_true rfl, Nat.le_of_ble_eq_true rfl, Nat.le_of_ble_eq_true rfl⟩ (Nat.le_of_ble_eq_true rfl) dX6_shift_111 (fun _ _ h => h) rfl (kE ?_)
                rw [show mj 62 (6 + 2 * i) = (mi 62 (6 + 2 * i)) from hm6]
                refine E_iload_n 1 dX6_shift_114 rfl rfl ?_
                refine E_iadd dX6_shift_115 ?_
                refine E_aload_n 0 dX6_shift_116 rfl rfl ?_
                refine E_iload_n 2 dX6_shift_117 rfl rfl ?_
                refine E_callV (c_X6_levelOf l hfl mj ml xi i (hxi.trans (by omega)) (by omega)) cw_X6_82 (As := [.int xi]) (st := [.int ((mi 62 (6 + 2 * i)) + a), .int xi, .ref 61]) wi_yX6_levelOf we_yX6_levelOf (ci := 6) (q := (RX6, TX6, 23)) rfl rfl (wl_atO tw_61) rfl ⟨Nat.le_of_ble_eq_true rfl, Nat.le_of_ble_eq_true rfl, Nat.le_of_ble_eq_true rfl, Nat.le_of_ble_eq_true rfl⟩ (Nat.le_of_ble_eq_true rfl) dX6_shift_118 (fun _ _ h => h) rfl (kE ?_)
                rw [show mj 62 (7 + 2 * i) = (mi 62 (7 + 2 * i)) from hm7]
                refine E_callV (c_X6_lay l hfl mj ml xi ((mi 62 (6 + 2 * i)) + a) (mi 62 (7 + 2 * i)) i (hxi.trans (by omega)) (by omega)) cw_X6_75 (As := [.int xi, .int ((mi 62 (6 + 2 * i)) + a), .int (mi 62 (7 + 2 * i))]) (st := []) wi_yX6_lay we_yX6_lay (ci := 6) (q := (RX6, TX6, 23)) rfl rfl (wl_atO tw_61) rfl ⟨Nat.le_of_ble_eq_true rfl, Nat.le_of_ble_eq_true rfl, Nat.le_of_ble_eq_true rfl, Nat.le_of_ble_eq_true rfl⟩ (Nat.le_of_ble_eq_true rfl) dX6_shift_121 (fun _ _ h => h) rfl (kE0 ?_)
                refine E_iinc 2 (xi + 1) [(3, .int (xi + 1)), (0, .ref 61), (1, .int a)] dX6_shift_124 rfl rfl (by decide) rfl ?_
                refine E_goto 97 dX6_shift_127 (by decide) ?_
                refine E_sub [1, 2, 0] rfl ?_
                exact ih97 (xi + 1) (i + 1) (u2 (u2 mj 62 (6 + 2 * i) ((mi 62 (6 + 2 * i)) + a)) 62 (7 + 2 * i) (mi 62 (7 + 2 * i))) (by omega) ((tI_add hxi (show (1 : Int32).toInt = 1 from rfl) (by omega)).trans (by omega)) (by omega) ((hF.u (by decide)).u (by decide)) (lt_s (fun j hj => by rw [u2_n (by omega), u2_n (by omega), u2_n (by omega), u2_n (by omega)]; exact h2 j hj) ⟨by rw [u2_n (by omega), u2_s]; exact tI_add rfl hB (by omega), u2_s _ _ _ _⟩) (fun k hk hk2 => by rw [u2_n (by omega), u2_n (by omega)]; exact h3 k (by omega) hk2) (by rw [u2_n (by omega), u2_n (by omega)]; exact h32)
          refine E_sub [1, 2, 0] rfl ?_
          exact J97 _ 0 0 (u2 mk_92 62 32 0) (Nat.lt_succ_self _) (show (0 : Int32).toInt = 0 from rfl) (Nat.zero_le _) Fr.rfl' (fun j h => absurd h (Nat.not_lt_zero j)) (fun k hk hk2 => by rw [u2_n (by omega), hK_92.1 62 (by decide), u2_n (by omega)]) (u2_s _ _ _ _)
        · exact absurd c_86 (by decide)
    · skip
      refine E_iconst 1 (by decide) dX6_shift_66 ?_
      refine E_goto 79 dX6_shift_67 (by decide) ?_
      refine pf_X6_43 tw_61 rfl dX6_shift_79 ?_
      refine E_aload_n 0 dX6_shift_82 rfl rfl ?_
      refine gf_X6_43 1 tw_61 rfl (u2_s _ _ _ _) dX6_shift_83 ?_
      refine Y_eq 1 (show (1 : Int32).toInt = 1 from rfl) 91 dX6_shift_86 (by decide) (fun c_86 => ?_) (fun c_86 => ?_)
      · exact absurd c_86 (by decide)
      · skip
        refine E_iconst 0 (by decide) dX6_shift_89 ?_
        refine E_iret rfl (Nat.le_of_ble_eq_true rfl) (Nat.le_of_ble_eq_true rfl) dX6_shift_90 ?_
        exact okQI ⟨rfl, Or.inl ⟨c_63, rfl⟩⟩
  refine E_iconst 1 (by decide) dX6_shift_0 ?_
  refine E_istore_n [(2, .int 1), (0, .ref 61), (1, .int a)] dX6_shift_1 rfl (by decide) rfl ?_
  refine E_iconst 0 (by decide) dX6_shift_2 ?_
  refine E_istore_n [(3, .int 0), (2, .int 1), (0, .ref 61), (1, .int a)] dX6_shift_3 rfl (by decide) rfl ?_
  have J4 : ∀ (Nm : Nat) (xf xi : Int32) (i : Nat), n - i < Nm → xi.toInt = (i : Int) → i ≤ n → xf = bI (∀ j, j < i → (0 ≤ (mi 62 (6 + 2 * j)).toInt + B ∧ (mi 62 (6 + 2 * j)).toInt + B ≤ 63)) → E l RX6 cX6_shift 4 (some .int) false [] (rmE 5 0 0) (wl mi ml) (TgM (wl mi ml) 0 0 (QI (fun r mi9 ml9 => ml = ml9 ∧ ((¬ (-63 ≤ B ∧ B ≤ 63) ∧ u2 mi 61 5 1 = mi9) ∨ ((-63 ≤ B ∧ B ≤ 63) ∧ ¬ (∀ j, j < n → (0 ≤ (mi 62 (6 + 2 * j)).toInt + B ∧ (mi 62 (6 + 2 * j)).toInt + B ≤ 63)) ∧ u2 mi 61 5 2 = mi9) ∨ ((-63 ≤ B ∧ B ≤ 63) ∧ (∀ j, j < n → (0 ≤ (mi 62 (6 + 2 * j)).toInt + B ∧ (mi 62 (6 + 2 * j)).toInt + B ≤ 63)) ∧ r.toInt = (n : Int) ∧ ∃ mk, Kept (u2 mi 61 5 0) mk ∧ Fr [62] mk mi9 ∧ (∀ j, j < n → (mi9 62 (6 + 2 * j)).toInt = (mi 62 (6 + 2 * j)).toInt + B ∧ mi9 62 (7 + 2 * j) = mi 62 (7 + 2 * j)) ∧ mi9 62 32 = 0 ∧ (∀ k, (k < 6 ∨ 6 + 2 * n ≤ k) → k ≠ 32 → mi9 62 k = mi 62 k))))) noX) 0 0 4 [(0, .ref 61), (1, .int a), (2, .int xf), (3, .int xi)] [] (wl mi ml) := by
    intro Nm
    induction Nm with
    | zero => intros; omega
    | succ Nm ih4 =>
      intro xf xi i hN4 hxi hi hf
      refine E_iload_n 3 dX6_shift_4 rfl rfl ?_
      refine E_aload_n 0 dX6_shift_5 rfl rfl ?_
      refine gf_X6_7 tw_61 rfl dX6_shift_6 ?_
      refine E_iconst 5 (by decide) dX6_shift_9 ?_
      refine S_iald 5 (mi 62 5) tw_62 rfl (by decide) rfl dX6_shift_10 ?_
      refine Z_ge (i : Int) (n : Int) hxi hn 54 dX6_shift_11 (by decide) (fun c_11 => ?_) (fun c_11 => ?_)
      · skip
        refine E_sub [0, 1, 2] rfl ?_
        exact J54 xf (fun _ => by rw [← show i = n by omega]; exact hf)
      · skip
        refine E_iload_n 1 dX6_shift_14 rfl rfl ?_
        refine E_bipush (-63) (by decide) dX6_shift_15 ?_
        refine E_bipush 63 (by decide) dX6_shift_17 ?_
        refine E_callS (c_X6_in l hfl mi ml a (-63) 63 B (-63) 63 hB (show ((-63) : Int32).toInt = (-63) from rfl) (show (63 : Int32).toInt = 63 from rfl)) cw_X6_53 (As := [.int a, .int (-63), .int 63]) (st := []) ws_yX6_in rfl ⟨Nat.le_of_ble_eq_true rfl, Nat.le_of_ble_eq_true rfl, Nat.le_of_ble_eq_true rfl, Nat.le_of_ble_eq_true rfl⟩ (Nat.le_of_ble_eq_true rfl) dX6_shift_19 (fun _ _ h => h) rfl (kE ?_)
        refine B_eq 54 dX6_shift_22 (by decide) (fun c_22 => ?_) (fun c_22 => ?_)
        · skip
          refine E_sub [0, 1, 2] rfl ?_
          exact J54 xf (fun q => absurd q c_22)
        · skip
          refine E_iload_n 2 dX6_shift_25 rfl rfl ?_
          refine Y_eq xf.toInt rfl 46 dX6_shift_26 (by decide) (fun c_26 => ?_) (fun c_26 => ?_)
          · skip
            refine E_iconst 0 (by decide) dX6_shift_46 ?_
            refine E_istore_n [(2, .int 0), (0, .ref 61), (1, .int a), (3, .int xi)] dX6_shift_47 rfl (by decide) rfl ?_
            refine E_iinc 3 (xi + 1) [(3, .int (xi + 1)), (2, .int 0), (0, .ref 61), (1, .int a)] dX6_shift_48 rfl rfl (by decide) rfl ?_
            refine E_goto 4 dX6_shift_51 (by decide) ?_
            refine E_sub [2, 3, 1, 0] rfl ?_
            exact ih4 0 (xi + 1) (i + 1) (by omega) ((tI_add hxi (show (1 : Int32).toInt = 1 from rfl) (by omega)).trans (by omega)) (by omega) (by first | exact all_f (xB_f hf c_26) | exact all_n c_39 | exact all_t (xB_t hf c_26) c_39)
          · skip
            have bc := (hwf.2.2.1 i (by omega)).1
            refine E_aload_n 0 dX6_shift_29 rfl rfl ?_
            refine E_iload_n 3 dX6_shift_30 rfl rfl ?_
            refine E_callV (c_X6_channelOf l hfl mi ml xi i (hxi.trans (by omega)) (by omega)) cw_X6_57 (As := [.int xi]) (st := []) wi_yX6_channelOf we_yX6_channelOf (ci := 6) (q := (RX6, TX6, 23)) rfl rfl (wl_atO tw_61) rfl ⟨Nat.le_of_ble_eq_true rfl, Nat.le_of_ble_eq_true rfl, Nat.le_of_ble_eq_true rfl, Nat.le_of_ble_eq_true rfl⟩ (Nat.le_of_ble_eq_true rfl) dX6_shift_31 (fun _ _ h => h) rfl (kE ?_)
            refine E_iload_n 1 dX6_shift_34 rfl rfl ?_
            refine E_iadd dX6_shift_35 ?_
            refine E_callS (c_X6_isChannel l hfl mi ml ((mi 62 (6 + 2 * i)) + a) ((mi 62 (6 + 2 * i)).toInt + B) (tI_add rfl hB (by omega))) cw_X6_61 (As := [.int ((mi 62 (6 + 2 * i)) + a)]) (st := []) ws_yX6_isChannel rfl ⟨Nat.le_of_ble_eq_true rfl, Nat.le_of_ble_eq_true rfl, Nat.le_of_ble_eq_true rfl, Nat.le_of_ble_eq_true rfl⟩ (Nat.le_of_ble_eq_true rfl) dX6_shift_36 (fun _ _ h => h) rfl (kE ?_)
            refine B_eq 46 dX6_shift_39 (by decide) (fun c_39 => ?_) (fun c_39 => ?_)
            · skip
              refine E_iconst 0 (by decide) dX6_shift_46 ?_
              refine E_istore_n [(2, .int 0), (0, .ref 61), (1, .int a), (3, .int xi)] dX6_shift_47 rfl (by decide) rfl ?_
              refine E_iinc 3 (xi + 1) [(3, .int (xi + 1)), (2, .int 0), (0, .ref 61), (1, .int a)] dX6_shift_48 rfl rfl (by decide) rfl ?_
              refine E_goto 4 dX6_shift_51 (by decide) ?_
              refine E_sub [2, 3, 1, 0] rfl ?_
              exact ih4 0 (xi + 1) (i + 1) (by omega) ((tI_add hxi (show (1 : Int32).toInt = 1 from rfl) (by omega)).trans (by omega)) (by omega) (by first | exact all_f (xB_f hf c_26) | exact all_n c_39 | exact all_t (xB_t hf c_26) c_39)
            · skip
              refine E_iconst 1 (by decide) dX6_shift_42 ?_
              refine E_goto 47 dX6_shift_43 (by decide) ?_
              refine E_istore_n [(2, .int 1), (0, .ref 61), (1, .int a), (3, .int xi)] dX6_shift_47 rfl (by decide) rfl ?_
              refine E_iinc 3 (xi + 1) [(3, .int (xi + 1)), (2, .int 1), (0, .ref 61), (1, .int a)] dX6_shift_48 rfl rfl (by decide) rfl ?_
              refine E_goto 4 dX6_shift_51 (by decide) ?_
              refine E_sub [2, 3, 1, 0] rfl ?_
              exact ih4 1 (xi + 1) (i + 1) (by omega) ((tI_add hxi (show (1 : Int32).toInt = 1 from rfl) (by omega)).trans (by omega)) (by omega) (by first | exact all_f (xB_f hf c_26) | exact all_n c_39 | exact all_t (xB_t hf c_26) c_39)
  refine E_sub [2, 3, 1, 0] rfl ?_
  exact J4 _ 1 0 0 (Nat.lt_succ_self _) (show (0 : Int32).toInt = 0 from rfl) (Nat.zero_le _) (b1 (fun j h => absurd h (Nat.not_lt_zero j)))
end MO16
