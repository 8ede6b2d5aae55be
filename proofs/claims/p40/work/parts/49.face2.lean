section FA2
def bcF (x : Int32) : Int32 := ((((((((x - (((x.toUInt32 >>> ((1 : Int32).toUInt32 &&& Int32.toUInt32 31)).toInt32) &&& (1431655765 : Int32))) &&& (858993459 : Int32)) + ((((x - (((x.toUInt32 >>> ((1 : Int32).toUInt32 &&& Int32.toUInt32 31)).toInt32) &&& (1431655765 : Int32))).toUInt32 >>> ((2 : Int32).toUInt32 &&& Int32.toUInt32 31)).toInt32) &&& (858993459 : Int32))) + (((((x - (((x.toUInt32 >>> ((1 : Int32).toUInt32 &&& Int32.toUInt32 31)).toInt32) &&& (1431655765 : Int32))) &&& (858993459 : Int32)) + ((((x - (((x.toUInt32 >>> ((1 : Int32).toUInt32 &&& Int32.toUInt32 31)).toInt32) &&& (1431655765 : Int32))).toUInt32 >>> ((2 : Int32).toUInt32 &&& Int32.toUInt32 31)).toInt32) &&& (858993459 : Int32))).toUInt32 >>> ((4 : Int32).toUInt32 &&& Int32.toUInt32 31)).toInt32)) &&& (252645135 : Int32)) + (((((((x - (((x.toUInt32 >>> ((1 : Int32).toUInt32 &&& Int32.toUInt32 31)).toInt32) &&& (1431655765 : Int32))) &&& (858993459 : Int32)) + ((((x - (((x.toUInt32 >>> ((1 : Int32).toUInt32 &&& Int32.toUInt32 31)).toInt32) &&& (1431655765 : Int32))).toUInt32 >>> ((2 : Int32).toUInt32 &&& Int32.toUInt32 31)).toInt32) &&& (858993459 : Int32))) + (((((x - (((x.toUInt32 >>> ((1 : Int32).toUInt32 &&& Int32.toUInt32 31)).toInt32) &&& (1431655765 : Int32))) &&& (858993459 : Int32)) + ((((x - (((x.toUInt32 >>> ((1 : Int32).toUInt32 &&& Int32.toUInt32 31)).toInt32) &&& (1431655765 : Int32))).toUInt32 >>> ((2 : Int32).toUInt32 &&& Int32.toUInt32 31)).toInt32) &&& (858993459 : Int32))).toUInt32 >>> ((4 : Int32).toUInt32 &&& Int32.toUInt32 31)).toInt32)) &&& (252645135 : Int32)).toUInt32 >>> ((8 : Int32).toUInt32 &&& Int32.toUInt32 31)).toInt32)) + ((((((((x - (((x.toUInt32 >>> ((1 : Int32).toUInt32 &&& Int32.toUInt32 31)).toInt32) &&& (1431655765 : Int32))) &&& (858993459 : Int32)) + ((((x - (((x.toUInt32 >>> ((1 : Int32).toUInt32 &&& Int32.toUInt32 31)).toInt32) &&& (1431655765 : Int32))).toUInt32 >>> ((2 : Int32).toUInt32 &&& Int32.toUInt32 31)).toInt32) &&& (858993459 : Int32))) + (((((x - (((x.toUInt32 >>> ((1 : Int32).toUInt32 &&& Int32.toUInt32 31)).toInt32) &&& (1431655765 : Int32))) &&& (858993459 : Int32)) + ((((x - (((x.toUInt32 >>> ((1 : Int32).toUInt32 &&& Int32.toUInt32 31)).toInt32) &&& (1431655765 : Int32))).toUInt32 >>> ((2 : Int32).toUInt32 &&& Int32.toUInt32 31)).toInt32) &&& (858993459 : Int32))).toUInt32 >>> ((4 : Int32).toUInt32 &&& Int32.toUInt32 31)).toInt32)) &&& (252645135 : Int32)) + (((((((x - (((x.toUInt32 >>> ((1 : Int32).toUInt32 &&& Int32.toUInt32 31)).toInt32) &&& (1431655765 : Int32))) &&& (858993459 : Int32)) + ((((x - (((x.toUInt32 >>> ((1 : Int32).toUInt32 &&& Int32.toUInt32 31)).toInt32) &&& (1431655765 : Int32))).toUInt32 >>> ((2 : Int32).toUInt32 &&& Int32.toUInt32 31)).toInt32) &&& (858993459 : Int32))) + (((((x - (((x.toUInt32 >>> ((1 : Int32).toUInt32 &&& Int32.toUInt32 31)).toInt32) &&& (1431655765 : Int32))) &&& (858993459 : Int32)) + ((((x - (((x.toUInt32 >>> ((1 : Int32).toUInt32 &&& Int32.toUInt32 31)).toInt32) &&& (1431655765 : Int32))).toUInt32 >>> ((2 : Int32).toUInt32 &&& Int32.toUInt32 31)).toInt32) &&& (858993459 : Int32))).toUInt32 >>> ((4 : Int32).toUInt32 &&& Int32.toUInt32 31)).toInt32)) &&& (252645135 : Int32)).toUInt32 >>> ((8 : Int32).toUInt32 &&& Int32.toUInt32 31)).toInt32)).toUInt32 >>> ((16 : Int32).toUInt32 &&& Int32.toUInt32 31)).toInt32)) &&& (63 : Int32))
theorem bc_all : ∀ s, s < 1024 → bcF (nI s) = nI (popc s) := by decide +kernel
set_option maxHeartbeats 1600000 in
set_option maxRecDepth 100000 in
theorem c_J6_bitCount_0f7a4 (l : Launch) (hfl : l.stackTraces = false) (mi : MI) (ml : MJ) (x : Int32) (s : Nat) (hx : x.toInt = (s : Int)) (hs : s < 1024) : Ct l yJ6_bitCount_0f7a4 (.code yJ6_bitCount_0f7a4 cJ6_bitCount_0f7a4 1 (some .int)) 0 0 0 [.int x] (wl mi ml) (QP (some (.int (nI (popc s)))) (wl mi ml)) noX := by
  refine Ct_of (ini := false) pn_J6 hfl (fun h => nomatch h) (Nat.le_of_ble_eq_true rfl) ?_
  show E l RJ6 cJ6_bitCount_0f7a4 1 (some .int) false [] (rmE 0 0 0) (wl mi ml) (TgM (wl mi ml) 0 0 (QP (some (.int (nI (popc s)))) (wl mi ml)) noX) 0 0 0 [(0, .int x)] [] (wl mi ml)
  refine E_iload_n 0 dJ6_bitCount_0f7a4_0 rfl rfl ?_
  refine E_iload_n 0 dJ6_bitCount_0f7a4_1 rfl rfl ?_
  refine E_iconst 1 (by decide) dJ6_bitCount_0f7a4_2 ?_
  refine E_iushr dJ6_bitCount_0f7a4_3 ?_
  refine E_ldc_w wk_J6_265 dJ6_bitCount_0f7a4_4 ?_
  refine E_iand dJ6_bitCount_0f7a4_7 ?_
  refine E_isub dJ6_bitCount_0f7a4_8 ?_
  refine E_istore_n [(0, .int (x - (((x.toUInt32 >>> ((1 : Int32).toUInt32 &&& Int32.toUInt32 31)).toInt32) &&& (1431655765 : Int32))))] dJ6_bitCount_0f7a4_9 rfl (by decide) rfl ?_
  refine E_iload_n 0 dJ6_bitCount_0f7a4_10 rfl rfl ?_
  refine E_ldc_w wk_J6_266 dJ6_bitCount_0f7a4_11 ?_
  refine E_iand dJ6_bitCount_0f7a4_14 ?_
  refine E_iload_n 0 dJ6_bitCount_0f7a4_15 rfl rfl ?_
  refine E_iconst 2 (by decide) dJ6_bitCount_0f7a4_16 ?_
  refine E_iushr dJ6_bitCount_0f7a4_17 ?_
  refine E_ldc_w wk_J6_266 dJ6_bitCount_0f7a4_18 ?_
  refine E_iand dJ6_bitCount_0f7a4_21 ?_
  refine E_iadd dJ6_bitCount_0f7a4_22 ?_
  refine E_istore_n [(0, .int (((x - (((x.toUInt32 >>> ((1 : Int32).toUInt32 &&& Int32.toUInt32 31)).toInt32) &&& (1431655765 : Int32))) &&& (858993459 : Int32)) + ((((x - (((x.toUInt32 >>> ((1 : Int32).toUInt32 &&& Int32.toUInt32 31)).toInt32) &&& (1431655765 : Int32))).toUInt32 >>> ((2 : Int32).toUInt32 &&& Int32.toUInt32 31)).toInt32) &&& (858993459 : Int32))))] dJ6_bitCount_0f7a4_23 rfl (by decide) rfl ?_
  refine E_iload_n 0 dJ6_bitCount_0f7a4_24 rfl rfl ?_
  refine E_iload_n 0 dJ6_bitCount_0f7a4_25 rfl rfl ?_
  refine E_iconst 4 (by decide) dJ6_bitCount_0f7a4_26 ?_
  refine E_iushr dJ6_bitCount_0f7a4_27 ?_
  refine E_iadd dJ6_bitCount_0f7a4_28 ?_
  refine E_ldc_w wk_J6_267 dJ6_bitCount_0f7a4_29 ?_
  refine E_iand dJ6_bitCount_0f7a4_32 ?_
  refine E_istore_n [(0, .int (((((x - (((x.toUInt32 >>> ((1 : Int32).toUInt32 &&& Int32.toUInt32 31)).toInt32) &&& (1431655765 : Int32))) &&& (858993459 : Int32)) + ((((x - (((x.toUInt32 >>> ((1 : Int32).toUInt32 &&& Int32.toUInt32 31)).toInt32) &&& (1431655765 : Int32))).toUInt32 >>> ((2 : Int32).toUInt32 &&& Int32.toUInt32 31)).toInt32) &&& (858993459 : Int32))) + (((((x - (((x.toUInt32 >>> ((1 : Int32).toUInt32 &&& Int32.toUInt32 31)).toInt32) &&& (1431655765 : Int32))) &&& (858993459 : Int32)) + ((((x - (((x.toUInt32 >>> ((1 : Int32).toUInt32 &&& Int32.toUInt32 31)).toInt32) &&& (1431655765 : Int32))).toUInt32 >>> ((2 : Int32).toUInt32 &&& Int32.toUInt32 31)).toInt32) &&& (858993459 : Int32))).toUInt32 >>> ((4 : Int32).toUInt32 &&& Int32.toUInt32 31)).toInt32)) &&& (252645135 : Int32)))] dJ6_bitCount_0f7a4_33 rfl (by decide) rfl ?_
  refine E_iload_n 0 dJ6_bitCount_0f7a4_34 rfl rfl ?_
  refine E_iload_n 0 dJ6_bitCount_0f7a4_35 rfl rfl ?_
  refine E_bipush 8 (by decide) dJ6_bitCount_0f7a4_36 ?_
  refine E_iushr dJ6_bitCount_0f7a4_38 ?_
  refine E_iadd dJ6_bitCount_0f7a4_39 ?_
  refine E_istore_n [(0, .int ((((((x - (((x.toUInt32 >>> ((1 : Int32).toUInt32 &&& Int32.toUInt32 31)).toInt32) &&& (1431655765 : Int32))) &&& (858993459 : Int32)) + ((((x - (((x.toUInt32 >>> ((1 : Int32).toUInt32 &&& Int32.toUInt32 31)).toInt32) &&& (1431655765 : Int32))).toUInt32 >>> ((2 : Int32).toUInt32 &&& Int32.toUInt32 31)).toInt32) &&& (858993459 : Int32))) + (((((x - (((x.toUInt32 >>> ((1 : Int32).toUInt32 &&& Int32.toUInt32 31)).toInt32) &&& (1431655765 : Int32))) &&& (858993459 : Int32)) + ((((x - (((x.toUInt32 >>> ((1 : Int32).toUInt32 &&& Int32.toUInt32 31)).toInt32) &&& (1431655765 : Int32))).toUInt32 >>> ((2 : Int32).toUInt32 &&& Int32.toUInt32 31)).toInt32) &&& (858993459 : Int32))).toUInt32 >>> ((4 : Int32).toUInt32 &&& Int32.toUInt32 31)).toInt32)) &&& (252645135 : Int32)) + (((((((x - (((x.toUInt32 >>> ((1 : Int32).toUInt32 &&& Int32.toUInt32 31)).toInt32) &&& (1431655765 : Int32))) &&& (858993459 : Int32)) + ((((x - (((x.toUInt32 >>> ((1 : Int32).toUInt32 &&& Int32.toUInt32 31)).toInt32) &&& (1431655765 : Int32))).toUInt32 >>> ((2 : Int32).toUInt32 &&& Int32.toUInt32 31)).toInt32) &&& (858993459 : Int32))) + (((((x - (((x.toUInt32 >>> ((1 : Int32).toUInt32 &&& Int32.toUInt32 31)).toInt32) &&& (1431655765 : Int32))) &&& (858993459 : Int32)) + ((((x - (((x.toUInt32 >>> ((1 : Int32).toUInt32 &&& Int32.toUInt32 31)).toInt32) &&& (1431655765 : Int32))).toUInt32 >>> ((2 : Int32).toUInt32 &&& Int32.toUInt32 31)).toInt32) &&& (858993459 : Int32))).toUInt32 >>> ((4 : Int32).toUInt32 &&& Int32.toUInt32 31)).toInt32)) &&& (252645135 : Int32)).toUInt32 >>> ((8 : Int32).toUInt32 &&& Int32.toUInt32 31)).toInt32)))] dJ6_bitCount_0f7a4_40 rfl (by decide) rfl ?_
  refine E_iload_n 0 dJ6_bitCount_0f7a4_41 rfl rfl ?_
  refine E_iload_n 0 dJ6_bitCount_0f7a4_42 rfl rfl ?_
  refine E_bipush 16 (by decide) dJ6_bitCount_0f7a4_43 ?_
  refine E_iushr dJ6_bitCount_0f7a4_45 ?_
  refine E_iadd dJ6_bitCount_0f7a4_46 ?_
  refine E_istore_n [(0, .int (((((((x - (((x.toUInt32 >>> ((1 : Int32).toUInt32 &&& Int32.toUInt32 31)).toInt32) &&& (1431655765 : Int32))) &&& (858993459 : Int32)) + ((((x - (((x.toUInt32 >>> ((1 : Int32).toUInt32 &&& Int32.toUInt32 31)).toInt32) &&& (1431655765 : Int32))).toUInt32 >>> ((2 : Int32).toUInt32 &&& Int32.toUInt32 31)).toInt32) &&& (858993459 : Int32))) + (((((x - (((x.toUInt32 >>> ((1 : Int32).toUInt32 &&& Int32.toUInt32 31)).toInt32) &&& (1431655765 : Int32))) &&& (858993459 : Int32)) + ((((x - (((x.toUInt32 >>> ((1 : Int32).toUInt32 &&& Int32.toUInt32 31)).toInt32) &&& (1431655765 : Int32))).toUInt32 >>> ((2 : Int32).toUInt32 &&& Int32.toUInt32 31)).toInt32) &&& (858993459 : Int32))).toUInt32 >>> ((4 : Int32).toUInt32 &&& Int32.toUInt32 31)).toInt32)) &&& (252645135 : Int32)) + (((((((x - (((x.toUInt32 >>> ((1 : Int32).toUInt32 &&& Int32.toUInt32 31)).toInt32) &&& (1431655765 : Int32))) &&& (858993459 : Int32)) + ((((x - (((x.toUInt32 >>> ((1 : Int32).toUInt32 &&& Int32.toUInt32 31)).toInt32) &&& (1431655765 : Int32))).toUInt32 >>> ((2 : Int32).toUInt32 &&& Int32.toUInt32 31)).toInt32) &&& (858993459 : Int32))) + (((((x - (((x.toUInt32 >>> ((1 : Int32).toUInt32 &&& Int32.toUInt32 31)).toInt32) &&& (1431655765 : Int32))) &&& (858993459 : Int32)) + ((((x - (((x.toUInt32 >>> ((1 : Int32).toUInt32 &&& Int32.toUInt32 31)).toInt32) &&& (1431655765 : Int32))).toUInt32 >>> ((2 : Int32).toUInt32 &&& Int32.toUInt32 31)).toInt32) &&& (858993459 : Int32))).toUInt32 >>> ((4 : Int32).toUInt32 &&& Int32.toUInt32 31)).toInt32)) &&& (252645135 : Int32)).toUInt32 >>> ((8 : Int32).toUInt32 &&& Int32.toUInt32 31)).toInt32)) + ((((((((x - (((x.toUInt32 >>> ((1 : Int32).toUInt32 &&& Int32.toUInt32 31)).toInt32) &&& (1431655765 : Int32))) &&& (858993459 : Int32)) + ((((x - (((x.toUInt32 >>> ((1 : Int32).toUInt32 &&& Int32.toUInt32 31)).toInt32) &&& (1431655765 : Int32))).toUInt32 >>> ((2 : Int32).toUInt32 &&& Int32.toUInt32 31)).toInt32) &&& (858993459 : Int32))) + (((((x - (((x.toUInt32 >>> ((1 : Int32).toUInt32 &&& Int32.toUInt32 31)).toInt32) &&& (1431655765 : Int32))) &&& (858993459 : Int32)) + ((((x - (((x.toUInt32 >>> ((1 : Int32).toUInt32 &&& Int32.toUInt32 31)).toInt32) &&& (1431655765 : Int32))).toUInt32 >>> ((2 : Int32).toUInt32 &&& Int32.toUInt32 31)).toInt32) &&& (858993459 : Int32))).toUInt32 >>> ((4 : Int32).toUInt32 &&& Int32.toUInt32 31)).toInt32)) &&& (252645135 : Int32)) + (((((((x - (((x.toUInt32 >>> ((1 : Int32).toUInt32 &&& Int32.toUInt32 31)).toInt32) &&& (1431655765 : Int32))) &&& (858993459 : Int32)) + ((((x - (((x.toUInt32 >>> ((1 : Int32).toUInt32 &&& Int32.toUInt32 31)).toInt32) &&& (1431655765 : Int32))).toUInt32 >>> ((2 : Int32).toUInt32 &&& Int32.toUInt32 31)).toInt32) &&& (858993459 : Int32))) + (((((x - (((x.toUInt32 >>> ((1 : Int32).toUInt32 &&& Int32.toUInt32 31)).toInt32) &&& (1431655765 : Int32))) &&& (858993459 : Int32)) + ((((x - (((x.toUInt32 >>> ((1 : Int32).toUInt32 &&& Int32.toUInt32 31)).toInt32) &&& (1431655765 : Int32))).toUInt32 >>> ((2 : Int32).toUInt32 &&& Int32.toUInt32 31)).toInt32) &&& (858993459 : Int32))).toUInt32 >>> ((4 : Int32).toUInt32 &&& Int32.toUInt32 31)).toInt32)) &&& (252645135 : Int32)).toUInt32 >>> ((8 : Int32).toUInt32 &&& Int32.toUInt32 31)).toInt32)).toUInt32 >>> ((16 : Int32).toUInt32 &&& Int32.toUInt32 31)).toInt32)))] dJ6_bitCount_0f7a4_47 rfl (by decide) rfl ?_
  refine E_iload_n 0 dJ6_bitCount_0f7a4_48 rfl rfl ?_
  refine E_bipush 63 (by decide) dJ6_bitCount_0f7a4_49 ?_
  refine E_iand dJ6_bitCount_0f7a4_51 ?_
  refine E_iret rfl (Nat.le_of_ble_eq_true rfl) (Nat.le_of_ble_eq_true rfl) dJ6_bitCount_0f7a4_52 ?_
  exact okP ((congrArg bcF (tI_nIx hx)).trans (bc_all s hs))
/-- what the mixers make, for the active carriers -/
def mbN (V : Nat → Int32) (m k : Nat) : Nat := if k < m then (V (27 + k)).toInt.toNat else 0
def MA (V : Nat → Int32) (n m act : Nat) (ml : MJ) : Prop := ∀ k, k < 5 → ml 60 k = foA (DV V) (prV V (mbN V m k &&& act) n) (prV V (mbN V m k &&& act) n).length
def FL60 (ml ml9 : MJ) : Prop := ∀ p, p ≠ 60 → ml9 p = ml p
theorem FL60.u {ml mk : MJ} {k : Nat} {v : Int64} (h : FL60 ml mk) : FL60 ml (u2 mk 60 k v) := fun p hp => (u2_p hp).trans (h p hp)
theorem mbN_lt {V : Nat → Int32} {n m k : Nat} (hw : WFV V) (hn : (V 5).toInt = (n : Int)) (h10 : n ≤ 10) (hm : (V 26).toInt = (m : Int)) : mbN V m k < 1024 := by
  unfold mbN
  have h1024 := Nat.pow_le_pow_right (show 0 < 2 by omega) h10
  split
  · have bm := hw.2.2.2.2.1 k (by omega)
    rw [hn] at bm
    simp only [Int.toNat_natCast] at bm
    omega
  · omega
theorem mb_r {V : Nat → Int32} {mi : MI} {n m k : Nat} {C : Int} {r xa : Int32} {act : Nat} (hD : DR 1 mi V) (hw : WFV V) (hn : (V 5).toInt = (n : Int)) (h10 : n ≤ 10) (hm : (V 26).toInt = (m : Int)) (hC : C = (k : Int)) (hxa : xa.toInt = (act : Int)) (h : (∃ j : Nat, C = (j : Int) ∧ j < m ∧ r = mi (1 + 3) j) ∨ (¬ (0 ≤ C ∧ C < (m : Int)) ∧ r = 0)) : (r &&& xa) = nI (mbN V m k &&& act) := by
  have hb := mbN_lt (k := k) hw hn h10 hm
  have e : r = nI (mbN V m k) := by
    rcases h with ⟨j, h1, h2, h3⟩ | ⟨h1, h2⟩
    · obtain rfl : j = k := by omega
      rw [h3, show mi (1 + 3) j = V (27 + j) from hD.2.2.2.1 j (by omega)]
      have bm := hw.2.2.2.2.1 j (by omega)
      refine tI_nIx ?_
      unfold mbN
      rw [if_pos h2]
      omega
    · rw [h2]
      unfold mbN
      rw [if_neg (by omega)]
      rfl
  rw [e, tI_nIx hxa]
  exact nx_and _ _
theorem MA_s {V : Nat → Int32} {n m act i : Nat} {ml : MJ} {v : Int64} (h : ∀ k, k < i → ml 60 k = foA (DV V) (prV V (mbN V m k &&& act) n) (prV V (mbN V m k &&& act) n).length) (hv : v = foA (DV V) (prV V (mbN V m i &&& act) n) (prV V (mbN V m i &&& act) n).length) : ∀ k, k < i + 1 → (u2 ml 60 i v) 60 k = foA (DV V) (prV V (mbN V m k &&& act) n) (prV V (mbN V m k &&& act) n).length := by
  intro k hk
  rcases Nat.lt_or_ge k i with q | q
  · rw [u2_n (Or.inr (by omega))]; exact h k q
  · obtain rfl : k = i := by omega
    rw [u2_s]; exact hv
theorem stC_s0 {D : RD} {kd a b : Nat} : ∀ b2, stB D 0 b kd a b2 = []
  | 0 => rfl
  | b2 + 1 => by
    rw [stB, stC_s0 b2, ifp_f]
    · rfl
    · intro q
      have := q.2.2.1
      simp at this
theorem stA_s0 {D : RD} {n kd : Nat} : ∀ a, stA D 0 n kd a = []
  | 0 => rfl
  | a + 1 => by rw [stA, stA_s0 a, stC_s0]; rfl
theorem prV_0 (V : Nat → Int32) (n : Nat) : prV V 0 n = [] := by
  show stK (DV V) 0 n 3 = []
  rw [stK, stK, stK, stK, stA_s0, stA_s0, stA_s0]; rfl
theorem and1_or (y : Int64) (h : (y &&& 1) ≠ 0) : (y &&& 1) = 1 := by
  have e : ∀ i, i < 64 → lb (y &&& 1) i = (lb y i && decide (i = 0)) := fun i hi => by rw [lb_and, lb_1 i hi]
  rcases Bool.eq_false_or_eq_true (lb y 0) with q | q
  · refine lb_ext (fun i hi => ?_)
    rw [e i hi, lb_1 i hi]
    rcases Nat.eq_zero_or_pos i with z | z
    · subst z; rw [q]; rfl
    · rw [show decide (i = 0) = false from decide_eq_false (by omega), Bool.and_false]
  · refine absurd (lb_ext (fun i hi => ?_)) h
    rw [e i hi, lb_0]
    rcases Nat.eq_zero_or_pos i with z | z
    · subst z; rw [q]; rfl
    · rw [show decide (i = 0) = false from decide_eq_false (by omega), Bool.and_false]
theorem hbP_lb {V : Nat → Int32} {n m act ch k : Nat} {w : Int64} (hc : ch < 64) (hk : k < m) (hw : w = foA (DV V) (prV V (mbN V m k &&& act) n) (prV V (mbN V m k &&& act) n).length) : lb w ch = true ↔ hbP V n act ch k := by
  unfold mbN at hw
  rw [if_pos hk] at hw
  unfold hbP
  rw [← hw]
  have h := lb_bit hc w
  constructor
  · intro q
    exact and1_or _ (fun z => by rw [h.mp z] at q; cases q)
  · intro q
    rcases Bool.eq_false_or_eq_true (lb w ch) with z | z
    · exact z
    · rw [h.mpr z] at q; exact absurd q (by decide)
theorem hb_big {V : Nat → Int32} {n m act ch k : Nat} {w : Int64} (hk : m ≤ k) (hw : w = foA (DV V) (prV V (mbN V m k &&& act) n) (prV V (mbN V m k &&& act) n).length) : lb w ch = false := by
  unfold mbN at hw
  rw [if_neg (by omega), Nat.zero_and, prV_0] at hw
  rw [hw]
  exact lb_0 ch
theorem hb_s1 {V : Nat → Int32} {n m act ch i : Nat} {x y : Int32} {w : Int64} (hx : x.toInt = (hbS V n act ch (min i m) : Int)) (hy : y.toInt = (i : Int)) (hi : i < 5) (h5 : m ≤ 5) (hc : ch < 64) (hw : w = foA (DV V) (prV V (mbN V m i &&& act) n) (prV V (mbN V m i &&& act) n).length) (h : lb w ch = true) : (x ||| ((1 : Int32) <<< (y &&& 31))).toInt = (hbS V n act ch (min (i + 1) m) : Int) := by
  rcases Nat.lt_or_ge i m with q | q
  · rw [show min i m = i by omega] at hx
    rw [show min (i + 1) m = i + 1 by omega]
    exact hb_y hx hy hi ((hbP_lb hc q hw).mp h)
  · rw [hb_big q hw] at h; cases h
theorem hb_s0 {V : Nat → Int32} {n m act ch i : Nat} {x : Int32} {w : Int64} (hx : x.toInt = (hbS V n act ch (min i m) : Int)) (hc : ch < 64) (hw : w = foA (DV V) (prV V (mbN V m i &&& act) n) (prV V (mbN V m i &&& act) n).length) (h : ¬ lb w ch = true) : x.toInt = (hbS V n act ch (min (i + 1) m) : Int) := by
  rcases Nat.lt_or_ge i m with q | q
  · rw [show min i m = i by omega] at hx
    rw [show min (i + 1) m = i + 1 by omega, hx, hbS, ifp_f (fun z => h ((hbP_lb hc q hw).mpr z))]
    rfl
  · rw [show min (i + 1) m = min i m by omega]; exact hx
set_option maxHeartbeats 1600000 in
set_option maxRecDepth 100000 in
theorem c_X5_mixActive (l : Launch) (hfl : l.stackTraces = false) (mi : MI) (ml : MJ) (V : Nat → Int32) (hV : WFV V) (hD : DR 1 mi V) (n : Nat) (hn : (V 5).toInt = (n : Int)) (h10 : n ≤ 10) (m : Nat) (hm : (V 26).toInt = (m : Int)) (h5 : m ≤ 5) (xa : Int32) (act : Nat) (hxa : xa.toInt = (act : Int)) : Ct l yX5_mixActive (.code yX5_mixActive cX5_mixActive 3 none) 5 0 0 [.ref 0, .int xa] (wl mi ml) (QV (fun mi9 ml9 => Fr [51, 52] mi mi9 ∧ FL60 ml ml9 ∧ MA V n m act ml9)) noX := by
  refine Ct_of (ini := false) pn_X5 hfl (fun h => nomatch h) (Nat.le_of_ble_eq_true rfl) ?_
  show E l RX5 cX5_mixActive 3 none false [] (rmE 5 0 0) (wl mi ml) (TgM (wl mi ml) 0 0 (QV (fun mi9 ml9 => Fr [51, 52] mi mi9 ∧ FL60 ml ml9 ∧ MA V n m act ml9)) noX) 0 0 0 [(0, .ref 0), (1, .int xa)] [] (wl mi ml)
  refine E_iconst 0 (by decide) dX5_mixActive_0 ?_
  refine E_istore_n [(2, .int 0), (0, .ref 0), (1, .int xa)] dX5_mixActive_1 rfl (by decide) rfl ?_
  have J2 : ∀ (Nm : Nat) (xi : Int32) (i : Nat) (ma : MI) (la : MJ), 5 - i < Nm → xi.toInt = (i : Int) → i ≤ 5 → Fr [51, 52] mi ma → FL60 ml la → (∀ k, k < i → la 60 k = foA (DV V) (prV V (mbN V m k &&& act) n) (prV V (mbN V m k &&& act) n).length) → E l RX5 cX5_mixActive 3 none false [] (rmE 5 0 0) (wl mi ml) (TgM (wl mi ml) 0 0 (QV (fun mi9 ml9 => Fr [51, 52] mi mi9 ∧ FL60 ml ml9 ∧ MA V n m act ml9)) noX) 0 0 2 [(0, .ref 0), (1, .int xa), (2, .int xi)] [] (wl ma la) := by
    intro Nm
    induction Nm with
    | zero => intros; omega
    | succ Nm ih2 =>
      intro xi i ma la hN2 hi hi5 hF hL hA
      refine E_iload_n 2 dX5_mixActive_2 rfl rfl ?_
      refine E_aload_n 0 dX5_mixActive_3 rfl rfl ?_
      refine gf_X5_47 tw_0 rfl dX5_mixActive_4 ?_
      refine S_alenJ 5 tw_60 rfl dX5_mixActive_7 ?_
      refine Z_ge (i : Int) 5 hi (show (5 : Int32).toInt = 5 from rfl) 37 dX5_mixActive_8 (by decide) (fun c_8 => ?_) (fun c_8 => ?_)
      · skip
        refine E_vret rfl (Nat.le_of_ble_eq_true rfl) (Nat.le_of_ble_eq_true rfl) dX5_mixActive_37 ?_
        exact okQV ⟨hF, hL, fun k hk => hA k (by omega)⟩
      · skip
        have bmb := mbN_lt (k := i) hV hn h10 hm
        refine E_aload_n 0 dX5_mixActive_11 rfl rfl ?_
        refine gf_X5_47 tw_0 rfl dX5_mixActive_12 ?_
        refine E_iload_n 2 dX5_mixActive_15 rfl rfl ?_
        refine E_aload_n 0 dX5_mixActive_16 rfl rfl ?_
        refine E_aload_n 0 dX5_mixActive_17 rfl rfl ?_
        refine gf_X5_10 tw_0 rfl dX5_mixActive_18 ?_
        refine E_iload_n 2 dX5_mixActive_21 rfl rfl ?_
        refine E_callV (c_X1_membersOf l hfl 1 isD_1 ma la xi (i : Int) hi m (((congrArg Int32.toInt ((congrFun (hF 1 (by decide)) 8).trans hD.2.1.2.1)).trans hm).trans (by omega)) (by omega)) cw_X5_223 (As := [.int xi]) (st := [.ref 0, .int xi, .ref 60]) wi_yX1_membersOf we_yX1_membersOf (ci := 1) (q := (RX1, TX1, 15)) rfl rfl (wl_atO isD_1.t) rfl ⟨Nat.le_of_ble_eq_true rfl, Nat.le_of_ble_eq_true rfl, Nat.le_of_ble_eq_true rfl, Nat.le_of_ble_eq_true rfl⟩ (Nat.le_of_ble_eq_true rfl) dX5_mixActive_22 (fun _ _ h => h) rfl (kI (fun r_22 mi_22 ml_22 h_22 => ?_))
        obtain ⟨rfl, rfl, h_22⟩ := h_22
        refine E_iload_n 1 dX5_mixActive_25 rfl rfl ?_
        refine E_iand dX5_mixActive_26 ?_
        rw [show (r_22 &&& xa) = (nI (mbN V m i &&& act)) from (mb_r (hD.c hF) hV hn h10 hm rfl hxa h_22)]
        refine E_callV (c_X5_falloutOf l hfl ma la V hV (hD.r8 (hF 1 (by decide)) (hF 2 (by decide)) (hF 3 (by decide)) (hF 4 (by decide)) (hF 5 (by decide)) (hF 6 (by decide)) (hF 7 (by decide)) (hF 8 (by decide))) n hn h10 (nI (mbN V m i &&& act)) (mbN V m i &&& act) ((tI_nI (Nat.lt_of_le_of_lt Nat.and_le_left (by omega))).trans (by omega))) cw_X5_169 (As := [.int (nI (mbN V m i &&& act))]) (st := [.int xi, .ref 60]) wi_yX5_falloutOf we_yX5_falloutOf (ci := 5) (q := (RX5, TX5, 7)) rfl rfl (wl_atO tw_0) rfl ⟨Nat.le_of_ble_eq_true rfl, Nat.le_of_ble_eq_true rfl, Nat.le_of_ble_eq_true rfl, Nat.le_of_ble_eq_true rfl⟩ (Nat.le_of_ble_eq_true rfl) dX5_mixActive_27 (fun _ _ h => h) rfl (kJ (fun r_27 mi_27 ml_27 h_27 => ?_))
        obtain ⟨rfl, h_27⟩ := h_27
        refine S_last i tw_60 hi (by omega) dX5_mixActive_30 ?_
        refine E_iinc 2 (xi + 1) [(2, .int (xi + 1)), (0, .ref 0), (1, .int xa)] dX5_mixActive_31 rfl rfl (by decide) rfl ?_
        refine E_goto 2 dX5_mixActive_34 (by decide) ?_
        refine E_sub [1, 2, 0] rfl ?_
        exact ih2 (xi + 1) (i + 1) mi_27 (u2 la 60 i r_27) (by omega) ((tI_add hi (show (1 : Int32).toInt = 1 from rfl) (by omega)).trans (by omega)) (by omega) (hF.trans h_27.1 (fun _ h => h) (fun _ h => h)) hL.u (MA_s hA h_27.2)
  refine E_sub [1, 2, 0] rfl ?_
  exact J2 _ 0 0 mi ml (Nat.lt_succ_self _) (show (0 : Int32).toInt = 0 from rfl) (Nat.zero_le _) Fr_r (fun _ _ => rfl) (fun k h => absurd h (Nat.not_lt_zero k))
set_option maxHeartbeats 1600000 in
set_option maxRecDepth 100000 in
theorem c_X5_mixersOn (l : Launch) (hfl : l.stackTraces = false) (mi : MI) (ml : MJ) (V : Nat → Int32) (n m act : Nat) (h5 : m ≤ 5) (hA : MA V n m act ml) (xc : Int32) (ch : Nat) (hxc : xc.toInt = (ch : Int)) (h64 : ch < 64) : Ct l yX5_mixersOn (.code yX5_mixersOn cX5_mixersOn 4 (some .int)) 1 0 0 [.ref 0, .int xc] (wl mi ml) (QI (fun r mi9 ml9 => mi = mi9 ∧ ml = ml9 ∧ r.toInt = (hbS V n act ch m : Int))) noX := by
  refine Ct_of (ini := false) pn_X5 hfl (fun h => nomatch h) (Nat.le_of_ble_eq_true rfl) ?_
  show E l RX5 cX5_mixersOn 4 (some .int) false [] (rmE 1 0 0) (wl mi ml) (TgM (wl mi ml) 0 0 (QI (fun r mi9 ml9 => mi = mi9 ∧ ml = ml9 ∧ r.toInt = (hbS V n act ch m : Int))) noX) 0 0 0 [(0, .ref 0), (1, .int xc)] [] (wl mi ml)
  refine E_iconst 0 (by decide) dX5_mixersOn_0 ?_
  refine E_istore_n [(2, .int 0), (0, .ref 0), (1, .int xc)] dX5_mixersOn_1 rfl (by decide) rfl ?_
  refine E_iconst 0 (by decide) dX5_mixersOn_2 ?_
  refine E_istore_n [(3, .int 0), (2, .int 0), (0, .ref 0), (1, .int xc)] dX5_mixersOn_3 rfl (by decide) rfl ?_
  have J4 : ∀ (Nm : Nat) (xi xw : Int32) (i : Nat), 5 - i < Nm → xi.toInt = (i : Int) → i ≤ 5 → xw.toInt = (hbS V n act ch (min i m) : Int) → E l RX5 cX5_mixersOn 4 (some .int) false [] (rmE 1 0 0) (wl mi ml) (TgM (wl mi ml) 0 0 (QI (fun r mi9 ml9 => mi = mi9 ∧ ml = ml9 ∧ r.toInt = (hbS V n act ch m : Int))) noX) 0 0 4 [(0, .ref 0), (1, .int xc), (2, .int xw), (3, .int xi)] [] (wl mi ml) := by
    intro Nm
    induction Nm with
    | zero => intros; omega
    | succ Nm ih4 =>
      intro xi xw i hN4 hi hi5 hw
      refine E_iload_n 3 dX5_mixersOn_4 rfl rfl ?_
      refine E_aload_n 0 dX5_mixersOn_5 rfl rfl ?_
      refine gf_X5_47 tw_0 rfl dX5_mixersOn_6 ?_
      refine S_alenJ 5 tw_60 rfl dX5_mixersOn_9 ?_
      refine Z_ge (i : Int) 5 hi (show (5 : Int32).toInt = 5 from rfl) 38 dX5_mixersOn_10 (by decide) (fun c_10 => ?_) (fun c_10 => ?_)
      · skip
        refine E_iload_n 2 dX5_mixersOn_38 rfl rfl ?_
        refine E_iret rfl (Nat.le_of_ble_eq_true rfl) (Nat.le_of_ble_eq_true rfl) dX5_mixersOn_39 ?_
        exact okQI ⟨rfl, rfl, by rw [hw, show min i m = m by omega]⟩
      · skip
        refine E_iload_n 1 dX5_mixersOn_13 rfl rfl ?_
        refine E_aload_n 0 dX5_mixersOn_14 rfl rfl ?_
        refine gf_X5_47 tw_0 rfl dX5_mixersOn_15 ?_
        refine E_iload_n 3 dX5_mixersOn_18 rfl rfl ?_
        refine S_lald i (ml 60 i) tw_60 hi (by omega) rfl dX5_mixersOn_19 ?_
        refine E_callS (c_X5_isIn l hfl mi ml xc (ml 60 i) ch (hxc.trans (by omega)) (by omega)) cw_X5_326 (As := [.int xc, .long (ml 60 i)]) (st := []) ws_yX5_isIn rfl ⟨Nat.le_of_ble_eq_true rfl, Nat.le_of_ble_eq_true rfl, Nat.le_of_ble_eq_true rfl, Nat.le_of_ble_eq_true rfl⟩ (Nat.le_of_ble_eq_true rfl) dX5_mixersOn_20 (fun _ _ h => h) rfl (kE ?_)
        refine B_eq 32 dX5_mixersOn_23 (by decide) (fun c_23 => ?_) (fun c_23 => ?_)
        · skip
          refine E_iinc 3 (xi + 1) [(3, .int (xi + 1)), (0, .ref 0), (1, .int xc), (2, .int xw)] dX5_mixersOn_32 rfl rfl (by decide) rfl ?_
          refine E_goto 4 dX5_mixersOn_35 (by decide) ?_
          refine E_sub [1, 2, 3, 0] rfl ?_
          exact ih4 (xi + 1) xw (i + 1) (by omega) ((tI_add hi (show (1 : Int32).toInt = 1 from rfl) (by omega)).trans (by omega)) (by omega) (hb_s0 hw h64 (hA i (by omega)) c_23)
        · skip
          refine E_iload_n 2 dX5_mixersOn_26 rfl rfl ?_
          refine E_iconst 1 (by decide) dX5_mixersOn_27 ?_
          refine E_iload_n 3 dX5_mixersOn_28 rfl rfl ?_
          refine E_ishl dX5_mixersOn_29 ?_
          refine E_ior dX5_mixersOn_30 ?_
          refine E_istore_n [(2, .int (xw ||| ((1 : Int32) <<< (xi &&& 31)))), (0, .ref 0), (1, .int xc), (3, .int xi)] dX5_mixersOn_31 rfl (by decide) rfl ?_
          refine E_iinc 3 (xi + 1) [(3, .int (xi + 1)), (2, .int (xw ||| ((1 : Int32) <<< (xi &&& 31)))), (0, .ref 0), (1, .int xc)] dX5_mixersOn_32 rfl rfl (by decide) rfl ?_
          refine E_goto 4 dX5_mixersOn_35 (by decide) ?_
          refine E_sub [2, 3, 1, 0] rfl ?_
          exact ih4 (xi + 1) (xw ||| ((1 : Int32) <<< (xi &&& 31))) (i + 1) (by omega) ((tI_add hi (show (1 : Int32).toInt = 1 from rfl) (by omega)).trans (by omega)) (by omega) (hb_s1 hw hi (by omega) h5 h64 (hA i (by omega)) c_23)
  refine E_sub [2, 3, 1, 0] rfl ?_
  exact J4 _ 0 0 0 (Nat.lt_succ_self _) (show (0 : Int32).toInt = 0 from rfl) (Nat.zero_le _) (by rw [Nat.zero_min]; rfl)
set_option maxHeartbeats 1600000 in
set_option maxRecDepth 100000 in
theorem c_X5_heard (l : Launch) (hfl : l.stackTraces = false) (mi : MI) (ml : MJ) (V : Nat → Int32) (hV : WFV V) (hD : DR 1 mi V) (n : Nat) (hn : (V 5).toInt = (n : Int)) (h10 : n ≤ 10) (m : Nat) (hm : (V 26).toInt = (m : Int)) (h5 : m ≤ 5) (a c : Int32) (A C : Int) (hA : a.toInt = A) (hC : c.toInt = C) : Ct l yX5_heard (.code yX5_heard cX5_heard 3 (some .int)) 6 2 12 [.ref 0, .int a, .int c] (wl mi ml) (QI (fun r mi9 ml9 => Fr [51, 52] mi mi9 ∧ FL60 ml ml9 ∧ (0 ≤ A ∧ A ≤ ((2 ^ n - 1 : Nat) : Int)) ∧ (0 ≤ C ∧ C < 64) ∧ ∃ act ch : Nat, A = (act : Int) ∧ C = (ch : Int) ∧ r.toInt = (hbS V n act ch m : Int))) (XW (fun En mi9 ml9 => mi = mi9 ∧ ml = ml9 ∧ En = xIA ∧ ¬ ((0 ≤ A ∧ A ≤ ((2 ^ n - 1 : Nat) : Int)) ∧ (0 ≤ C ∧ C < 64)))) := by
  refine Ct_of (ini := false) pn_X5 hfl (fun h => nomatch h) (Nat.le_of_ble_eq_true rfl) ?_
  show E l RX5 cX5_heard 3 (some .int) false [] (rmE 6 2 12) (wl mi ml) (TgM (wl mi ml) 2 12 (QI (fun r mi9 ml9 => Fr [51, 52] mi mi9 ∧ FL60 ml ml9 ∧ (0 ≤ A ∧ A ≤ ((2 ^ n - 1 : Nat) : Int)) ∧ (0 ≤ C ∧ C < 64) ∧ ∃ act ch : Nat, A = (act : Int) ∧ C = (ch : Int) ∧ r.toInt = (hbS V n act ch m : Int))) (XW (fun En mi9 ml9 => mi = mi9 ∧ ml = ml9 ∧ En = xIA ∧ ¬ ((0 ≤ A ∧ A ≤ ((2 ^ n - 1 : Nat) : Int)) ∧ (0 ≤ C ∧ C < 64))))) 0 0 0 [(0, .ref 0), (1, .int a), (2, .int c)] [] (wl mi ml)
  refine E_aload_n 0 dX5_heard_0 rfl rfl ?_
  refine E_iload_n 1 dX5_heard_1 rfl rfl ?_
  refine E_callVx (c_X5_needSetOfCarriers l hfl mi ml  n ((congrArg Int32.toInt hD.2.1.1).trans hn) (by omega) a A hA) cw_X5_166 (As := [.int a]) (st := []) wi_yX5_needSetOfCarriers we_yX5_needSetOfCarriers (ci := 5) (q := (RX5, TX5, 7)) rfl rfl (wl_atO tw_0) rfl ⟨Nat.le_of_ble_eq_true rfl, Nat.le_of_ble_eq_true rfl, Nat.le_of_ble_eq_true rfl, Nat.le_of_ble_eq_true rfl⟩ (Nat.le_of_ble_eq_true rfl) dX5_heard_2 rfl (Nat.le_of_ble_eq_true rfl) (Nat.le_of_ble_eq_true rfl) (XW.w (by rintro _ _ _ ⟨rfl, rfl, rfl, q⟩; exact ⟨rfl, rfl, rfl, fun z => q z.1⟩)) rfl (kV (fun mi_2 ml_2 h_2 => ?_))
  obtain ⟨rfl, rfl, h_2⟩ := h_2
  refine E_iload_n 2 dX5_heard_5 rfl rfl ?_
  refine E_callSx (c_X5_needChannel l hfl mi ml  c C hC) cw_X5_229 (As := [.int c]) (st := []) ws_yX5_needChannel rfl ⟨Nat.le_of_ble_eq_true rfl, Nat.le_of_ble_eq_true rfl, Nat.le_of_ble_eq_true rfl, Nat.le_of_ble_eq_true rfl⟩ (Nat.le_of_ble_eq_true rfl) dX5_heard_6 rfl (Nat.le_of_ble_eq_true rfl) (Nat.le_of_ble_eq_true rfl) (XW.w (by rintro _ _ _ ⟨rfl, rfl, rfl, q⟩; exact ⟨rfl, rfl, rfl, fun z => q z.2⟩)) rfl (kV (fun mi_6 ml_6 h_6 => ?_))
  obtain ⟨rfl, rfl, h_6⟩ := h_6
  obtain ⟨act, hact⟩ : ∃ q : Nat, A = (q : Int) := ⟨A.toNat, by omega⟩
  obtain ⟨ch, hch⟩ : ∃ q : Nat, C = (q : Int) := ⟨C.toNat, by omega⟩
  refine E_aload_n 0 dX5_heard_9 rfl rfl ?_
  refine E_iload_n 1 dX5_heard_10 rfl rfl ?_
  refine E_callV (c_X5_mixActive l hfl mi ml V hV hD n hn h10 m hm h5 a act (hA.trans hact)) cw_X5_234 (As := [.int a]) (st := []) wi_yX5_mixActive we_yX5_mixActive (ci := 5) (q := (RX5, TX5, 7)) rfl rfl (wl_atO tw_0) rfl ⟨Nat.le_of_ble_eq_true rfl, Nat.le_of_ble_eq_true rfl, Nat.le_of_ble_eq_true rfl, Nat.le_of_ble_eq_true rfl⟩ (Nat.le_of_ble_eq_true rfl) dX5_heard_11 (fun _ _ h => h) rfl (kV (fun mi_11 ml_11 h_11 => ?_))
  refine E_aload_n 0 dX5_heard_14 rfl rfl ?_
  refine E_iload_n 2 dX5_heard_15 rfl rfl ?_
  refine E_callV (c_X5_mixersOn l hfl mi_11 ml_11 V n m act h5 h_11.2.2 c ch (hC.trans hch) (by omega)) cw_X5_237 (As := [.int c]) (st := []) wi_yX5_mixersOn we_yX5_mixersOn (ci := 5) (q := (RX5, TX5, 7)) rfl rfl (wl_atO tw_0) rfl ⟨Nat.le_of_ble_eq_true rfl, Nat.le_of_ble_eq_true rfl, Nat.le_of_ble_eq_true rfl, Nat.le_of_ble_eq_true rfl⟩ (Nat.le_of_ble_eq_true rfl) dX5_heard_16 (fun _ _ h => h) rfl (kI (fun r_16 mi_16 ml_16 h_16 => ?_))
  obtain ⟨rfl, rfl, h_16⟩ := h_16
  refine E_iret rfl (Nat.le_of_ble_eq_true rfl) (Nat.le_of_ble_eq_true rfl) dX5_heard_19 ?_
  exact okQI ⟨h_11.1, h_11.2.1, h_2, h_6, act, ch, hact, hch, h_16⟩
theorem fitD_iff {V : Nat → Int32} {mi : MI} {n m t s : Nat} {bad : Int32} (hD : DR 1 mi V) (hn : (V 5).toInt = (n : Int)) (hm : (V 26).toInt = (m : Int)) (h5 : m ≤ 5) (ht : (V 32).toInt = (t : Int)) (hb : bad.toInt = (s : Int)) : fitD 1 mi bad t ↔ fitN V n m s t := by
  have e5 : (V 5).toInt.toNat = n := by omega
  have e26 : (V 26).toInt.toNat = m := by omega
  have h : ∀ j, j < t → (((bad &&& mi (1 + 7) j) ≠ 0 ↔ mi (1 + 6) j = 1) ↔ fitT V n m s j) := by
    intro j hj
    have h1 := hD.2.2.2.2 j (by omega)
    rw [e5, e26] at h1
    have hl := hbS_lt V n (tA V j) (tC V j) m
    have h2 := p2_5 h5
    have e : (bad &&& mi (1 + 7) j) = nI (s &&& hbS V n (tA V j) (tC V j) m) := by
      rw [tI_nIx hb, tI_nIx h1.2.2.2]; exact nx_and _ _
    have hlt : (s &&& hbS V n (tA V j) (tC V j) m) < 32 := Nat.lt_of_le_of_lt Nat.and_le_right (by omega)
    unfold fitT
    rw [e, h1.2.2.1, Nat.and_comm (hbS V n (tA V j) (tC V j) m) s]
    have e0 : (nI (s &&& hbS V n (tA V j) (tC V j) m) ≠ 0) ↔ (s &&& hbS V n (tA V j) (tC V j) m) ≠ 0 := by
      constructor
      · intro q z; exact q (by rw [z]; rfl)
      · intro q z
        have := congrArg Int32.toInt z
        rw [tI_nI (by omega)] at this
        exact q (by have h0 : (0 : Int32).toInt = 0 := rfl; omega)
    rw [e0]
  exact ⟨fun q j hj => (h j hj).mp (q j hj), fun q j hj => (h j hj).mpr (q j hj)⟩
set_option maxHeartbeats 1600000 in
set_option maxRecDepth 100000 in
theorem c_X5_countDiagnoses (l : Launch) (hfl : l.stackTraces = false) (mi : MI) (ml : MJ) (V : Nat → Int32) (hV : WFV V) (hD : DR 1 mi V) (n : Nat) (hn : (V 5).toInt = (n : Int)) (h10 : n ≤ 10) (m : Nat) (hm : (V 26).toInt = (m : Int)) (h5 : m ≤ 5) (t : Nat) (ht : (V 32).toInt = (t : Int)) (h16 : t ≤ 16) : Ct l yX5_countDiagnoses (.code yX5_countDiagnoses cX5_countDiagnoses 3 (some .int)) 1 0 0 [.ref 0] (wl mi ml) (QI (fun r mi9 ml9 => mi = mi9 ∧ ml = ml9 ∧ r.toInt = (((fitL V n m t (2 ^ m)).length : Nat) : Int))) noX := by
  refine Ct_of (ini := false) pn_X5 hfl (fun h => nomatch h) (Nat.le_of_ble_eq_true rfl) ?_
  show E l RX5 cX5_countDiagnoses 3 (some .int) false [] (rmE 1 0 0) (wl mi ml) (TgM (wl mi ml) 0 0 (QI (fun r mi9 ml9 => mi = mi9 ∧ ml = ml9 ∧ r.toInt = (((fitL V n m t (2 ^ m)).length : Nat) : Int))) noX) 0 0 0 [(0, .ref 0)] [] (wl mi ml)
  have hp2 := Nat.two_pow_pos m
  have h32 := p2_5 h5
  refine E_iconst 0 (by decide) dX5_countDiagnoses_0 ?_
  refine E_istore_n [(1, .int 0), (0, .ref 0)] dX5_countDiagnoses_1 rfl (by decide) rfl ?_
  refine E_iconst 0 (by decide) dX5_countDiagnoses_2 ?_
  refine E_istore_n [(2, .int 0), (1, .int 0), (0, .ref 0)] dX5_countDiagnoses_3 rfl (by decide) rfl ?_
  have J4 : ∀ (Nm : Nat) (xi xn : Int32) (i : Nat), 2 ^ m - i < Nm → xi.toInt = (i : Int) → i ≤ 2 ^ m → xn.toInt = (((fitL V n m t i).length : Nat) : Int) → E l RX5 cX5_countDiagnoses 3 (some .int) false [] (rmE 1 0 0) (wl mi ml) (TgM (wl mi ml) 0 0 (QI (fun r mi9 ml9 => mi = mi9 ∧ ml = ml9 ∧ r.toInt = (((fitL V n m t (2 ^ m)).length : Nat) : Int))) noX) 0 0 4 [(0, .ref 0), (1, .int xn), (2, .int xi)] [] (wl mi ml) := by
    intro Nm
    induction Nm with
    | zero => intros; omega
    | succ Nm ih4 =>
      intro xi xn i hN4 hi hi5 hv
      refine E_iload_n 2 dX5_countDiagnoses_4 rfl rfl ?_
      refine E_aload_n 0 dX5_countDiagnoses_5 rfl rfl ?_
      refine gf_X5_10 tw_0 rfl dX5_countDiagnoses_6 ?_
      refine E_callV (c_X1_everyMixer l hfl 1 isD_1 mi ml m ((congrArg Int32.toInt hD.2.1.2.1).trans hm) (by omega)) cw_X5_252 (As := []) (st := [.int xi]) wi_yX1_everyMixer we_yX1_everyMixer (ci := 1) (q := (RX1, TX1, 15)) rfl rfl (wl_atO isD_1.t) rfl ⟨Nat.le_of_ble_eq_true rfl, Nat.le_of_ble_eq_true rfl, Nat.le_of_ble_eq_true rfl, Nat.le_of_ble_eq_true rfl⟩ (Nat.le_of_ble_eq_true rfl) dX5_countDiagnoses_9 (fun _ _ h => h) rfl (kE ?_)
      refine Z_gt (i : Int) ((2 ^ m - 1 : Nat) : Int) hi (tI_nI (pw_lt (by omega))) 35 dX5_countDiagnoses_12 (by decide) (fun c_12 => ?_) (fun c_12 => ?_)
      · skip
        refine E_iload_n 1 dX5_countDiagnoses_35 rfl rfl ?_
        refine E_iret rfl (Nat.le_of_ble_eq_true rfl) (Nat.le_of_ble_eq_true rfl) dX5_countDiagnoses_36 ?_
        exact okQI ⟨rfl, rfl, by rw [← show i = 2 ^ m by omega]; exact hv⟩
      · skip
        have hfll := fitL_len V n m t i
        refine E_aload_n 0 dX5_countDiagnoses_15 rfl rfl ?_
        refine gf_X5_10 tw_0 rfl dX5_countDiagnoses_16 ?_
        refine E_iload_n 2 dX5_countDiagnoses_19 rfl rfl ?_
        refine E_callV (c_X1_fitsTests l hfl 1 isD_1 mi ml xi t ((congrArg Int32.toInt hD.2.1.2.2).trans ht) (by omega)) cw_X5_255 (As := [.int xi]) (st := []) wi_yX1_fitsTests we_yX1_fitsTests (ci := 1) (q := (RX1, TX1, 15)) rfl rfl (wl_atO isD_1.t) rfl ⟨Nat.le_of_ble_eq_true rfl, Nat.le_of_ble_eq_true rfl, Nat.le_of_ble_eq_true rfl, Nat.le_of_ble_eq_true rfl⟩ (Nat.le_of_ble_eq_true rfl) dX5_countDiagnoses_20 (fun _ _ h => h) rfl (kE ?_)
        rw [show bI (fitD 1 mi xi t) = bI (fitN V n m i t) from bI_iff (fitD_iff hD hn hm h5 ht (hi.trans (by omega)))]
        refine B_eq 29 dX5_countDiagnoses_23 (by decide) (fun c_23 => ?_) (fun c_23 => ?_)
        · skip
          refine E_iinc 2 (xi + 1) [(2, .int (xi + 1)), (0, .ref 0), (1, .int xn)] dX5_countDiagnoses_29 rfl rfl (by decide) rfl ?_
          refine E_goto 4 dX5_countDiagnoses_32 (by decide) ?_
          refine E_sub [1, 2, 0] rfl ?_
          exact ih4 (xi + 1) xn (i + 1) (by omega) ((tI_add hi (show (1 : Int32).toInt = 1 from rfl) (by omega)).trans (by omega)) (by omega) (hv.trans (by rw [fitL_n c_23]))
        · skip
          refine E_iinc 1 (xn + 1) [(1, .int (xn + 1)), (0, .ref 0), (2, .int xi)] dX5_countDiagnoses_26 rfl rfl (by decide) rfl ?_
          refine E_iinc 2 (xi + 1) [(2, .int (xi + 1)), (1, .int (xn + 1)), (0, .ref 0)] dX5_countDiagnoses_29 rfl rfl (by decide) rfl ?_
          refine E_goto 4 dX5_countDiagnoses_32 (by decide) ?_
          refine E_sub [2, 1, 0] rfl ?_
          exact ih4 (xi + 1) (xn + 1) (i + 1) (by omega) ((tI_add hi (show (1 : Int32).toInt = 1 from rfl) (by omega)).trans (by omega)) (by omega) ((tI_add hv (show (1 : Int32).toInt = 1 from rfl) (by omega)).trans (by rw [fitL_y c_23, List.length_append]; rfl))
  refine E_sub [2, 1, 0] rfl ?_
  exact J4 _ 0 0 0 (Nat.lt_succ_self _) (show (0 : Int32).toInt = 0 from rfl) (Nat.zero_le _) (show (0 : Int32).toInt = 0 from rfl)
set_option maxHeartbeats 1600000 in
set_option maxRecDepth 100000 in
theorem c_X5_diagnoses (l : Launch) (hfl : l.stackTraces = false) (mi : MI) (ml : MJ) (V : Nat → Int32) (hV : WFV V) (hD : DR 1 mi V) (n : Nat) (hn : (V 5).toInt = (n : Int)) (h10 : n ≤ 10) (m : Nat) (hm : (V 26).toInt = (m : Int)) (h5 : m ≤ 5) (t : Nat) (ht : (V 32).toInt = (t : Int)) (h16 : t ≤ 16) : Ct l yX5_diagnoses (.code yX5_diagnoses cX5_diagnoses 1 (some .int)) 2 0 0 [.ref 0] (wl mi ml) (QI (fun r mi9 ml9 => mi = mi9 ∧ ml = ml9 ∧ r.toInt = (((fitL V n m t (2 ^ m)).length : Nat) : Int))) noX := by
  refine Ct_of (ini := false) pn_X5 hfl (fun h => nomatch h) (Nat.le_of_ble_eq_true rfl) ?_
  show E l RX5 cX5_diagnoses 1 (some .int) false [] (rmE 2 0 0) (wl mi ml) (TgM (wl mi ml) 0 0 (QI (fun r mi9 ml9 => mi = mi9 ∧ ml = ml9 ∧ r.toInt = (((fitL V n m t (2 ^ m)).length : Nat) : Int))) noX) 0 0 0 [(0, .ref 0)] [] (wl mi ml)
  refine E_aload_n 0 dX5_diagnoses_0 rfl rfl ?_
  refine E_callV (c_X5_countDiagnoses l hfl mi ml V hV hD n hn h10 m hm h5 t ht h16) cw_X5_244 (As := []) (st := []) wi_yX5_countDiagnoses we_yX5_countDiagnoses (ci := 5) (q := (RX5, TX5, 7)) rfl rfl (wl_atO tw_0) rfl ⟨Nat.le_of_ble_eq_true rfl, Nat.le_of_ble_eq_true rfl, Nat.le_of_ble_eq_true rfl, Nat.le_of_ble_eq_true rfl⟩ (Nat.le_of_ble_eq_true rfl) dX5_diagnoses_1 (fun _ _ h => h) rfl (kI (fun r_1 mi_1 ml_1 h_1 => ?_))
  obtain ⟨rfl, rfl, h_1⟩ := h_1
  refine E_iret rfl (Nat.le_of_ble_eq_true rfl) (Nat.le_of_ble_eq_true rfl) dX5_diagnoses_4 ?_
  exact okQI ⟨rfl, rfl, h_1⟩
theorem bs_nat2 {V : Nat → Int32} {n nm nt i : Nat} {x : Int32} (hb : x.toInt = bsF (fitL V n nm nt i)) (hc : x.toInt ≠ -1) (h : i ≤ 32) : ∃ k : Nat, x.toInt = (k : Int) ∧ k < 1024 := by
  rcases bsF_or (fitL V n nm nt i) with q | ⟨s, hs, q⟩
  · exact absurd (hb.trans q) hc
  · exact ⟨s, hb.trans q, by have := fitL_lt _ _ hs; omega⟩
set_option maxHeartbeats 1600000 in
set_option maxRecDepth 100000 in
theorem c_X5_diagnosis (l : Launch) (hfl : l.stackTraces = false) (mi : MI) (ml : MJ) (V : Nat → Int32) (hV : WFV V) (hD : DR 1 mi V) (n : Nat) (hn : (V 5).toInt = (n : Int)) (h10 : n ≤ 10) (m : Nat) (hm : (V 26).toInt = (m : Int)) (h5 : m ≤ 5) (t : Nat) (ht : (V 32).toInt = (t : Int)) (h16 : t ≤ 16) : Ct l yX5_diagnosis (.code yX5_diagnosis cX5_diagnosis 3 (some .int)) 1 0 0 [.ref 0] (wl mi ml) (QI (fun r mi9 ml9 => mi = mi9 ∧ ml = ml9 ∧ r.toInt = bsF (fitL V n m t (2 ^ m)))) noX := by
  refine Ct_of (ini := false) pn_X5 hfl (fun h => nomatch h) (Nat.le_of_ble_eq_true rfl) ?_
  show E l RX5 cX5_diagnosis 3 (some .int) false [] (rmE 1 0 0) (wl mi ml) (TgM (wl mi ml) 0 0 (QI (fun r mi9 ml9 => mi = mi9 ∧ ml = ml9 ∧ r.toInt = bsF (fitL V n m t (2 ^ m)))) noX) 0 0 0 [(0, .ref 0)] [] (wl mi ml)
  have hp2 := Nat.two_pow_pos m
  have h32 := p2_5 h5
  refine E_iconst (-1) (by decide) dX5_diagnosis_0 ?_
  refine E_istore_n [(1, .int (-1)), (0, .ref 0)] dX5_diagnosis_1 rfl (by decide) rfl ?_
  refine E_iconst 0 (by decide) dX5_diagnosis_2 ?_
  refine E_istore_n [(2, .int 0), (1, .int (-1)), (0, .ref 0)] dX5_diagnosis_3 rfl (by decide) rfl ?_
  have J4 : ∀ (Nm : Nat) (xi xb : Int32) (i : Nat), 2 ^ m - i < Nm → xi.toInt = (i : Int) → i ≤ 2 ^ m → xb.toInt = bsF (fitL V n m t i) → E l RX5 cX5_diagnosis 3 (some .int) false [] (rmE 1 0 0) (wl mi ml) (TgM (wl mi ml) 0 0 (QI (fun r mi9 ml9 => mi = mi9 ∧ ml = ml9 ∧ r.toInt = bsF (fitL V n m t (2 ^ m)))) noX) 0 0 4 [(0, .ref 0), (1, .int xb), (2, .int xi)] [] (wl mi ml) := by
    intro Nm
    induction Nm with
    | zero => intros; omega
    | succ Nm ih4 =>
      intro xi xb i hN4 hi hi5 hb
      refine E_iload_n 2 dX5_diagnosis_4 rfl rfl ?_
      refine E_aload_n 0 dX5_diagnosis_5 rfl rfl ?_
      refine gf_X5_10 tw_0 rfl dX5_diagnosis_6 ?_
      refine E_callV (c_X1_everyMixer l hfl 1 isD_1 mi ml m ((congrArg Int32.toInt hD.2.1.2.1).trans hm) (by omega)) cw_X5_252 (As := []) (st := [.int xi]) wi_yX1_everyMixer we_yX1_everyMixer (ci := 1) (q := (RX1, TX1, 15)) rfl rfl (wl_atO isD_1.t) rfl ⟨Nat.le_of_ble_eq_true rfl, Nat.le_of_ble_eq_true rfl, Nat.le_of_ble_eq_true rfl, Nat.le_of_ble_eq_true rfl⟩ (Nat.le_of_ble_eq_true rfl) dX5_diagnosis_9 (fun _ _ h => h) rfl (kE ?_)
      refine Z_gt (i : Int) ((2 ^ m - 1 : Nat) : Int) hi (tI_nI (pw_lt (by omega))) 50 dX5_diagnosis_12 (by decide) (fun c_12 => ?_) (fun c_12 => ?_)
      · skip
        refine E_iload_n 1 dX5_diagnosis_50 rfl rfl ?_
        refine E_iret rfl (Nat.le_of_ble_eq_true rfl) (Nat.le_of_ble_eq_true rfl) dX5_diagnosis_51 ?_
        exact okQI ⟨rfl, rfl, by rw [← show i = 2 ^ m by omega]; exact hb⟩
      · skip
        refine E_aload_n 0 dX5_diagnosis_15 rfl rfl ?_
        refine gf_X5_10 tw_0 rfl dX5_diagnosis_16 ?_
        refine E_iload_n 2 dX5_diagnosis_19 rfl rfl ?_
        refine E_callV (c_X1_fitsTests l hfl 1 isD_1 mi ml xi t ((congrArg Int32.toInt hD.2.1.2.2).trans ht) (by omega)) cw_X5_255 (As := [.int xi]) (st := []) wi_yX1_fitsTests we_yX1_fitsTests (ci := 1) (q := (RX1, TX1, 15)) rfl rfl (wl_atO isD_1.t) rfl ⟨Nat.le_of_ble_eq_true rfl, Nat.le_of_ble_eq_true rfl, Nat.le_of_ble_eq_true rfl, Nat.le_of_ble_eq_true rfl⟩ (Nat.le_of_ble_eq_true rfl) dX5_diagnosis_20 (fun _ _ h => h) rfl (kE ?_)
        rw [show bI (fitD 1 mi xi t) = bI (fitN V n m i t) from bI_iff (fitD_iff hD hn hm h5 ht (hi.trans (by omega)))]
        refine B_eq 44 dX5_diagnosis_23 (by decide) (fun c_23 => ?_) (fun c_23 => ?_)
        · skip
          refine E_iinc 2 (xi + 1) [(2, .int (xi + 1)), (0, .ref 0), (1, .int xb)] dX5_diagnosis_44 rfl rfl (by decide) rfl ?_
          refine E_goto 4 dX5_diagnosis_47 (by decide) ?_
          refine E_sub [1, 2, 0] rfl ?_
          exact ih4 (xi + 1) xb (i + 1) (by omega) ((tI_add hi (show (1 : Int32).toInt = 1 from rfl) (by omega)).trans (by omega)) (by omega) (by rw [fitL_n c_23]; exact hb)
        · skip
          refine E_iload_n 1 dX5_diagnosis_26 rfl rfl ?_
          refine E_iconst (-1) (by decide) dX5_diagnosis_27 ?_
          refine Z_eq xb.toInt (-1) rfl (show ((-1) : Int32).toInt = (-1) from rfl) 42 dX5_diagnosis_28 (by decide) (fun c_28 => ?_) (fun c_28 => ?_)
          · skip
            refine E_iload_n 2 dX5_diagnosis_42 rfl rfl ?_
            refine E_istore_n [(1, .int xi), (0, .ref 0), (2, .int xi)] dX5_diagnosis_43 rfl (by decide) rfl ?_
            refine E_iinc 2 (xi + 1) [(2, .int (xi + 1)), (1, .int xi), (0, .ref 0)] dX5_diagnosis_44 rfl rfl (by decide) rfl ?_
            refine E_goto 4 dX5_diagnosis_47 (by decide) ?_
            refine E_sub [2, 1, 0] rfl ?_
            exact ih4 (xi + 1) xi (i + 1) (by omega) ((tI_add hi (show (1 : Int32).toInt = 1 from rfl) (by omega)).trans (by omega)) (by omega) (by rw [fitL_y c_23, bsF_add, if_pos (Or.inl (hb.symm.trans c_28))]; exact hi)
          · skip
            obtain ⟨x9, hx9, hx32⟩ := bs_nat2 hb c_28 (by omega)
            refine E_iload_n 2 dX5_diagnosis_31 rfl rfl ?_
            refine E_callS (c_J6_bitCount_0f7a4 l hfl mi ml xi i hi (by omega)) cw_X5_184 (As := [.int xi]) (st := []) ws_yJ6_bitCount_0f7a4 rfl ⟨Nat.le_of_ble_eq_true rfl, Nat.le_of_ble_eq_true rfl, Nat.le_of_ble_eq_true rfl, Nat.le_of_ble_eq_true rfl⟩ (Nat.le_of_ble_eq_true rfl) dX5_diagnosis_32 (fun _ _ h => h) rfl (kE ?_)
            refine E_iload_n 1 dX5_diagnosis_35 rfl rfl ?_
            refine E_callS (c_J6_bitCount_0f7a4 l hfl mi ml xb x9 hx9 (by omega)) cw_X5_184 (As := [.int xb]) (st := [.int (nI (popc i))]) ws_yJ6_bitCount_0f7a4 rfl ⟨Nat.le_of_ble_eq_true rfl, Nat.le_of_ble_eq_true rfl, Nat.le_of_ble_eq_true rfl, Nat.le_of_ble_eq_true rfl⟩ (Nat.le_of_ble_eq_true rfl) dX5_diagnosis_36 (fun _ _ h => h) rfl (kE ?_)
            refine Z_ge ((popc i : Nat) : Int) ((popc x9 : Nat) : Int) (tI_nI (Nat.lt_of_le_of_lt (popc_le _) (by decide))) (tI_nI (Nat.lt_of_le_of_lt (popc_le _) (by decide))) 44 dX5_diagnosis_39 (by decide) (fun c_39 => ?_) (fun c_39 => ?_)
            · skip
              refine E_iinc 2 (xi + 1) [(2, .int (xi + 1)), (0, .ref 0), (1, .int xb)] dX5_diagnosis_44 rfl rfl (by decide) rfl ?_
              refine E_goto 4 dX5_diagnosis_47 (by decide) ?_
              refine E_sub [1, 2, 0] rfl ?_
              exact ih4 (xi + 1) xb (i + 1) (by omega) ((tI_add hi (show (1 : Int32).toInt = 1 from rfl) (by omega)).trans (by omega)) (by omega) (by rw [fitL_y c_23, bsF_add, if_neg (by rw [← hb]; intro q; rcases q with q | q; exact c_28 q; rw [hx9] at q; simp only [Int.toNat_natCast] at q; omega)]; exact hb)
            · skip
              refine E_iload_n 2 dX5_diagnosis_42 rfl rfl ?_
              refine E_istore_n [(1, .int xi), (0, .ref 0), (2, .int xi)] dX5_diagnosis_43 rfl (by decide) rfl ?_
              refine E_iinc 2 (xi + 1) [(2, .int (xi + 1)), (1, .int xi), (0, .ref 0)] dX5_diagnosis_44 rfl rfl (by decide) rfl ?_
              refine E_goto 4 dX5_diagnosis_47 (by decide) ?_
              refine E_sub [2, 1, 0] rfl ?_
              exact ih4 (xi + 1) xi (i + 1) (by omega) ((tI_add hi (show (1 : Int32).toInt = 1 from rfl) (by omega)).trans (by omega)) (by omega) (by rw [fitL_y c_23, bsF_add, if_pos (Or.inr (by rw [← hb, hx9]; simp only [Int.toNat_natCast]; omega))]; exact hi)
  refine E_sub [2, 1, 0] rfl ?_
  exact J4 _ 0 (-1) 0 (Nat.lt_succ_self _) (show (0 : Int32).toInt = 0 from rfl) (Nat.zero_le _) rfl
set_option maxHeartbeats 1600000 in
set_option maxRecDepth 100000 in
theorem c_X5_certain (l : Launch) (hfl : l.stackTraces = false) (mi : MI) (ml : MJ) (V : Nat → Int32) (hV : WFV V) (hD : DR 1 mi V) (n : Nat) (hn : (V 5).toInt = (n : Int)) (h10 : n ≤ 10) (m : Nat) (hm : (V 26).toInt = (m : Int)) (h5 : m ≤ 5) (t : Nat) (ht : (V 32).toInt = (t : Int)) (h16 : t ≤ 16) (xb : Int32) (P : Prop) (hxb : xb = bI P) : Ct l yX5_certain (.code yX5_certain cX5_certain 5 (some .int)) 1 0 0 [.ref 0, .int (bI (P))] (wl mi ml) (QI (fun r mi9 ml9 => mi = mi9 ∧ ml = ml9 ∧ r = ctF (P) (nI (2 ^ m - 1)) (fitL V n m t (2 ^ m)))) noX := by
  subst hxb
  refine Ct_of (ini := false) pn_X5 hfl (fun h => nomatch h) (Nat.le_of_ble_eq_true rfl) ?_
  show E l RX5 cX5_certain 5 (some .int) false [] (rmE 1 0 0) (wl mi ml) (TgM (wl mi ml) 0 0 (QI (fun r mi9 ml9 => mi = mi9 ∧ ml = ml9 ∧ r = ctF (P) (nI (2 ^ m - 1)) (fitL V n m t (2 ^ m)))) noX) 0 0 0 [(0, .ref 0), (1, .int (bI (P)))] [] (wl mi ml)
  have hp2 := Nat.two_pow_pos m
  have h32 := p2_5 h5
  refine E_aload_n 0 dX5_certain_0 rfl rfl ?_
  refine gf_X5_10 tw_0 rfl dX5_certain_1 ?_
  refine E_callV (c_X1_everyMixer l hfl 1 isD_1 mi ml m ((congrArg Int32.toInt hD.2.1.2.1).trans hm) (by omega)) cw_X5_252 (As := []) (st := []) wi_yX1_everyMixer we_yX1_everyMixer (ci := 1) (q := (RX1, TX1, 15)) rfl rfl (wl_atO isD_1.t) rfl ⟨Nat.le_of_ble_eq_true rfl, Nat.le_of_ble_eq_true rfl, Nat.le_of_ble_eq_true rfl, Nat.le_of_ble_eq_true rfl⟩ (Nat.le_of_ble_eq_true rfl) dX5_certain_4 (fun _ _ h => h) rfl (kE ?_)
  refine E_istore_n [(2, .int (nI (2 ^ m - 1))), (0, .ref 0), (1, .int (bI (P)))] dX5_certain_7 rfl (by decide) rfl ?_
  refine E_aload_n 1 dX5_certain_8 rfl rfl ?_
  refine gf_X5_10 tw_0 rfl dX5_certain_9 ?_
  refine E_callV (c_X1_everyMixer l hfl 1 isD_1 mi ml m ((congrArg Int32.toInt hD.2.1.2.1).trans hm) (by omega)) cw_X5_252 (As := []) (st := []) wi_yX1_everyMixer we_yX1_everyMixer (ci := 1) (q := (RX1, TX1, 15)) rfl rfl (wl_atO isD_1.t) rfl ⟨Nat.le_of_ble_eq_true rfl, Nat.le_of_ble_eq_true rfl, Nat.le_of_ble_eq_true rfl, Nat.le_of_ble_eq_true rfl⟩ (Nat.le_of_ble_eq_true rfl) dX5_certain_12 (fun _ _ h => h) rfl (kE ?_)
  refine E_istore_n [(3, .int (nI (2 ^ m - 1))), (2, .int (nI (2 ^ m - 1))), (0, .ref 0), (1, .int (bI (P)))] dX5_certain_15 rfl (by decide) rfl ?_
  refine E_iconst 0 (by decide) dX5_certain_16 ?_
  refine E_istore [(4, .int 0), (3, .int (nI (2 ^ m - 1))), (2, .int (nI (2 ^ m - 1))), (0, .ref 0), (1, .int (bI (P)))] dX5_certain_17 (by decide) rfl ?_
  have J19 : ∀ (Nm : Nat) (xi xp xq : Int32) (i : Nat), 2 ^ m - i < Nm → xi.toInt = (i : Int) → i ≤ 2 ^ m → xp = ctF (True) (nI (2 ^ m - 1)) (fitL V n m t i) → xq = ctF (False) (nI (2 ^ m - 1)) (fitL V n m t i) → E l RX5 cX5_certain 5 (some .int) false [] (rmE 1 0 0) (wl mi ml) (TgM (wl mi ml) 0 0 (QI (fun r mi9 ml9 => mi = mi9 ∧ ml = ml9 ∧ r = ctF (P) (nI (2 ^ m - 1)) (fitL V n m t (2 ^ m)))) noX) 0 0 19 [(0, .ref 0), (1, .int (bI (P))), (2, .int xp), (3, .int xq), (4, .int xi)] [] (wl mi ml) := by
    intro Nm
    induction Nm with
    | zero => intros; omega
    | succ Nm ih19 =>
      intro xi xp xq i hN19 hi hi5 hp hq
      refine E_iload 4 dX5_certain_19 rfl ?_
      refine E_aload_n 0 dX5_certain_21 rfl rfl ?_
      refine gf_X5_10 tw_0 rfl dX5_certain_22 ?_
      refine E_callV (c_X1_everyMixer l hfl 1 isD_1 mi ml m ((congrArg Int32.toInt hD.2.1.2.1).trans hm) (by omega)) cw_X5_252 (As := []) (st := [.int xi]) wi_yX1_everyMixer we_yX1_everyMixer (ci := 1) (q := (RX1, TX1, 15)) rfl rfl (wl_atO isD_1.t) rfl ⟨Nat.le_of_ble_eq_true rfl, Nat.le_of_ble_eq_true rfl, Nat.le_of_ble_eq_true rfl, Nat.le_of_ble_eq_true rfl⟩ (Nat.le_of_ble_eq_true rfl) dX5_certain_25 (fun _ _ h => h) rfl (kE ?_)
      refine Z_gt (i : Int) ((2 ^ m - 1 : Nat) : Int) hi (tI_nI (pw_lt (by omega))) 61 dX5_certain_28 (by decide) (fun c_28 => ?_) (fun c_28 => ?_)
      · skip
        obtain rfl : i = 2 ^ m := by omega
        refine E_iload_n 1 dX5_certain_61 rfl rfl ?_
        refine B_eq 69 dX5_certain_62 (by decide) (fun c_62 => ?_) (fun c_62 => ?_)
        · skip
          refine E_iload_n 3 dX5_certain_69 rfl rfl ?_
          refine E_iret rfl (Nat.le_of_ble_eq_true rfl) (Nat.le_of_ble_eq_true rfl) dX5_certain_70 ?_
          exact okQI ⟨rfl, rfl, by rw [hq, show P = False from propext ⟨c_62, False.elim⟩]⟩
        · skip
          refine E_iload_n 2 dX5_certain_65 rfl rfl ?_
          refine E_goto 70 dX5_certain_66 (by decide) ?_
          refine E_iret rfl (Nat.le_of_ble_eq_true rfl) (Nat.le_of_ble_eq_true rfl) dX5_certain_70 ?_
          exact okQI ⟨rfl, rfl, by rw [hp, show P = True from propext ⟨fun _ => trivial, fun _ => c_62⟩]⟩
      · skip
        refine E_aload_n 0 dX5_certain_31 rfl rfl ?_
        refine gf_X5_10 tw_0 rfl dX5_certain_32 ?_
        refine E_iload 4 dX5_certain_35 rfl ?_
        refine E_callV (c_X1_fitsTests l hfl 1 isD_1 mi ml xi t ((congrArg Int32.toInt hD.2.1.2.2).trans ht) (by omega)) cw_X5_255 (As := [.int xi]) (st := []) wi_yX1_fitsTests we_yX1_fitsTests (ci := 1) (q := (RX1, TX1, 15)) rfl rfl (wl_atO isD_1.t) rfl ⟨Nat.le_of_ble_eq_true rfl, Nat.le_of_ble_eq_true rfl, Nat.le_of_ble_eq_true rfl, Nat.le_of_ble_eq_true rfl⟩ (Nat.le_of_ble_eq_true rfl) dX5_certain_37 (fun _ _ h => h) rfl (kE ?_)
        rw [show bI (fitD 1 mi xi t) = bI (fitN V n m i t) from bI_iff (fitD_iff hD hn hm h5 ht (hi.trans (by omega)))]
        refine B_eq 55 dX5_certain_40 (by decide) (fun c_40 => ?_) (fun c_40 => ?_)
        · skip
          refine E_iinc 4 (xi + 1) [(4, .int (xi + 1)), (0, .ref 0), (1, .int (bI (P))), (2, .int xp), (3, .int xq)] dX5_certain_55 rfl rfl (by decide) rfl ?_
          refine E_goto 19 dX5_certain_58 (by decide) ?_
          refine E_sub [1, 2, 3, 4, 0] rfl ?_
          exact ih19 (xi + 1) xp xq (i + 1) (by omega) ((tI_add hi (show (1 : Int32).toInt = 1 from rfl) (by omega)).trans (by omega)) (by omega) (by rw [fitL_n c_40]; exact hp) (by rw [fitL_n c_40]; exact hq)
        · skip
          refine E_iload_n 2 dX5_certain_43 rfl rfl ?_
          refine E_iload 4 dX5_certain_44 rfl ?_
          refine E_iand dX5_certain_46 ?_
          refine E_istore_n [(2, .int (xp &&& xi)), (0, .ref 0), (1, .int (bI (P))), (3, .int xq), (4, .int xi)] dX5_certain_47 rfl (by decide) rfl ?_
          refine E_iload_n 3 dX5_certain_48 rfl rfl ?_
          refine E_iload 4 dX5_certain_49 rfl ?_
          refine E_iconst (-1) (by decide) dX5_certain_51 ?_
          refine E_ixor dX5_certain_52 ?_
          refine E_iand dX5_certain_53 ?_
          refine E_istore_n [(3, .int (xq &&& (xi ^^^ ((-1) : Int32)))), (2, .int (xp &&& xi)), (0, .ref 0), (1, .int (bI (P))), (4, .int xi)] dX5_certain_54 rfl (by decide) rfl ?_
          refine E_iinc 4 (xi + 1) [(4, .int (xi + 1)), (3, .int (xq &&& (xi ^^^ ((-1) : Int32)))), (2, .int (xp &&& xi)), (0, .ref 0), (1, .int (bI (P)))] dX5_certain_55 rfl rfl (by decide) rfl ?_
          refine E_goto 19 dX5_certain_58 (by decide) ?_
          refine E_sub [3, 4, 2, 1, 0] rfl ?_
          exact ih19 (xi + 1) (xp &&& xi) (xq &&& (xi ^^^ ((-1) : Int32))) (i + 1) (by omega) ((tI_add hi (show (1 : Int32).toInt = 1 from rfl) (by omega)).trans (by omega)) (by omega) (by rw [fitL_y c_40, ctF_add, ifp_t trivial, hp, tI_nIx hi]) (by rw [fitL_y c_40, ctF_add, ifp_f not_false, hq, tI_nIx hi])
  refine E_sub [3, 4, 2, 1, 0] rfl ?_
  exact J19 _ 0 (nI (2 ^ m - 1)) (nI (2 ^ m - 1)) 0 (Nat.lt_succ_self _) (show (0 : Int32).toInt = 0 from rfl) (Nat.zero_le _) rfl rfl
theorem ch_y {L : List Nat} {s h : Nat} (c : (s &&& h) ≠ 0) : cntF (L ++ [s]) h = cntF L h + 1 := by
  rw [cntF, cntF, List.filter_append, List.length_append]; simp [c]
theorem ch_0 {L : List Nat} {s h : Nat} (c : (s &&& h) = 0) : cntF (L ++ [s]) h = cntF L h := by
  rw [cntF, cntF, List.filter_append, List.length_append]; simp [c]
theorem ch_a {V : Nat → Int32} {n m t s h : Nat} (c : (s &&& h) = 0) : cntF (fitL V n m t (s + 1)) h = cntF (fitL V n m t s) h := by
  rcases Classical.em (fitN V n m s t) with q | q
  · rw [fitL_y q, ch_0 c]
  · rw [fitL_n q]
set_option maxHeartbeats 1600000 in
set_option maxRecDepth 100000 in
theorem c_X5_countHeard (l : Launch) (hfl : l.stackTraces = false) (mi : MI) (ml : MJ) (V : Nat → Int32) (hV : WFV V) (hD : DR 1 mi V) (n : Nat) (hn : (V 5).toInt = (n : Int)) (h10 : n ≤ 10) (m : Nat) (hm : (V 26).toInt = (m : Int)) (h5 : m ≤ 5) (t : Nat) (ht : (V 32).toInt = (t : Int)) (h16 : t ≤ 16) (xh : Int32) (hd : Nat) (hxh : xh.toInt = (hd : Int)) : Ct l yX5_countHeard (.code yX5_countHeard cX5_countHeard 4 (some .int)) 1 0 0 [.ref 0, .int xh] (wl mi ml) (QI (fun r mi9 ml9 => mi = mi9 ∧ ml = ml9 ∧ r.toInt = ((cntF (fitL V n m t (2 ^ m)) hd : Nat) : Int))) noX := by
  refine Ct_of (ini := false) pn_X5 hfl (fun h => nomatch h) (Nat.le_of_ble_eq_true rfl) ?_
  show E l RX5 cX5_countHeard 4 (some .int) false [] (rmE 1 0 0) (wl mi ml) (TgM (wl mi ml) 0 0 (QI (fun r mi9 ml9 => mi = mi9 ∧ ml = ml9 ∧ r.toInt = ((cntF (fitL V n m t (2 ^ m)) hd : Nat) : Int))) noX) 0 0 0 [(0, .ref 0), (1, .int xh)] [] (wl mi ml)
  have hp2 := Nat.two_pow_pos m
  have h32 := p2_5 h5
  refine E_iconst 0 (by decide) dX5_countHeard_0 ?_
  refine E_istore_n [(2, .int 0), (0, .ref 0), (1, .int xh)] dX5_countHeard_1 rfl (by decide) rfl ?_
  refine E_iconst 0 (by decide) dX5_countHeard_2 ?_
  refine E_istore_n [(3, .int 0), (2, .int 0), (0, .ref 0), (1, .int xh)] dX5_countHeard_3 rfl (by decide) rfl ?_
  have J4 : ∀ (Nm : Nat) (xi xn : Int32) (i : Nat), 2 ^ m - i < Nm → xi.toInt = (i : Int) → i ≤ 2 ^ m → xn.toInt = ((cntF (fitL V n m t i) hd : Nat) : Int) → E l RX5 cX5_countHeard 4 (some .int) false [] (rmE 1 0 0) (wl mi ml) (TgM (wl mi ml) 0 0 (QI (fun r mi9 ml9 => mi = mi9 ∧ ml = ml9 ∧ r.toInt = ((cntF (fitL V n m t (2 ^ m)) hd : Nat) : Int))) noX) 0 0 4 [(0, .ref 0), (1, .int xh), (2, .int xn), (3, .int xi)] [] (wl mi ml) := by
    intro Nm
    induction Nm with
    | zero => intros; omega
    | succ Nm ih4 =>
      intro xi xn i hN4 hi hi5 hv
      refine E_iload_n 3 dX5_countHeard_4 rfl rfl ?_
      refine E_aload_n 0 dX5_countHeard_5 rfl rfl ?_
      refine gf_X5_10 tw_0 rfl dX5_countHeard_6 ?_
      refine E_callV (c_X1_everyMixer l hfl 1 isD_1 mi ml m ((congrArg Int32.toInt hD.2.1.2.1).trans hm) (by omega)) cw_X5_252 (As := []) (st := [.int xi]) wi_yX1_everyMixer we_yX1_everyMixer (ci := 1) (q := (RX1, TX1, 15)) rfl rfl (wl_atO isD_1.t) rfl ⟨Nat.le_of_ble_eq_true rfl, Nat.le_of_ble_eq_true rfl, Nat.le_of_ble_eq_true rfl, Nat.le_of_ble_eq_true rfl⟩ (Nat.le_of_ble_eq_true rfl) dX5_countHeard_9 (fun _ _ h => h) rfl (kE ?_)
      refine Z_gt (i : Int) ((2 ^ m - 1 : Nat) : Int) hi (tI_nI (pw_lt (by omega))) 41 dX5_countHeard_12 (by decide) (fun c_12 => ?_) (fun c_12 => ?_)
      · skip
        refine E_iload_n 2 dX5_countHeard_41 rfl rfl ?_
        refine E_iret rfl (Nat.le_of_ble_eq_true rfl) (Nat.le_of_ble_eq_true rfl) dX5_countHeard_42 ?_
        exact okQI ⟨rfl, rfl, by rw [← show i = 2 ^ m by omega]; exact hv⟩
      · skip
        have hfll := fitL_len V n m t i
        have hcl := cntF_le (fitL V n m t i) hd
        refine E_iload_n 3 dX5_countHeard_15 rfl rfl ?_
        refine E_iload_n 1 dX5_countHeard_16 rfl rfl ?_
        refine E_iand dX5_countHeard_17 ?_
        rw [show (xi &&& xh) = (nI (i &&& hd)) from (by rw [tI_nIx hi, tI_nIx hxh]; exact nx_and _ _)]
        refine Y_eq ((i &&& hd : Nat) : Int) (tI_nI (Nat.lt_of_le_of_lt Nat.and_le_left (by omega))) 35 dX5_countHeard_18 (by decide) (fun c_18 => ?_) (fun c_18 => ?_)
        · skip
          refine E_iinc 3 (xi + 1) [(3, .int (xi + 1)), (0, .ref 0), (1, .int xh), (2, .int xn)] dX5_countHeard_35 rfl rfl (by decide) rfl ?_
          refine E_goto 4 dX5_countHeard_38 (by decide) ?_
          refine E_sub [1, 2, 3, 0] rfl ?_
          exact ih4 (xi + 1) xn (i + 1) (by omega) ((tI_add hi (show (1 : Int32).toInt = 1 from rfl) (by omega)).trans (by omega)) (by omega) (hv.trans (by rw [ch_a (by omega)]))
        · skip
          refine E_aload_n 0 dX5_countHeard_21 rfl rfl ?_
          refine gf_X5_10 tw_0 rfl dX5_countHeard_22 ?_
          refine E_iload_n 3 dX5_countHeard_25 rfl rfl ?_
          refine E_callV (c_X1_fitsTests l hfl 1 isD_1 mi ml xi t ((congrArg Int32.toInt hD.2.1.2.2).trans ht) (by omega)) cw_X5_255 (As := [.int xi]) (st := []) wi_yX1_fitsTests we_yX1_fitsTests (ci := 1) (q := (RX1, TX1, 15)) rfl rfl (wl_atO isD_1.t) rfl ⟨Nat.le_of_ble_eq_true rfl, Nat.le_of_ble_eq_true rfl, Nat.le_of_ble_eq_true rfl, Nat.le_of_ble_eq_true rfl⟩ (Nat.le_of_ble_eq_true rfl) dX5_countHeard_26 (fun _ _ h => h) rfl (kE ?_)
          rw [show bI (fitD 1 mi xi t) = bI (fitN V n m i t) from bI_iff (fitD_iff hD hn hm h5 ht (hi.trans (by omega)))]
          refine B_eq 35 dX5_countHeard_29 (by decide) (fun c_29 => ?_) (fun c_29 => ?_)
          · skip
            refine E_iinc 3 (xi + 1) [(3, .int (xi + 1)), (0, .ref 0), (1, .int xh), (2, .int xn)] dX5_countHeard_35 rfl rfl (by decide) rfl ?_
            refine E_goto 4 dX5_countHeard_38 (by decide) ?_
            refine E_sub [1, 2, 3, 0] rfl ?_
            exact ih4 (xi + 1) xn (i + 1) (by omega) ((tI_add hi (show (1 : Int32).toInt = 1 from rfl) (by omega)).trans (by omega)) (by omega) (hv.trans (by rw [fitL_n c_29]))
          · skip
            refine E_iinc 2 (xn + 1) [(2, .int (xn + 1)), (0, .ref 0), (1, .int xh), (3, .int xi)] dX5_countHeard_32 rfl rfl (by decide) rfl ?_
            refine E_iinc 3 (xi + 1) [(3, .int (xi + 1)), (2, .int (xn + 1)), (0, .ref 0), (1, .int xh)] dX5_countHeard_35 rfl rfl (by decide) rfl ?_
            refine E_goto 4 dX5_countHeard_38 (by decide) ?_
            refine E_sub [2, 3, 1, 0] rfl ?_
            exact ih4 (xi + 1) (xn + 1) (i + 1) (by omega) ((tI_add hi (show (1 : Int32).toInt = 1 from rfl) (by omega)).trans (by omega)) (by omega) ((tI_add hv (show (1 : Int32).toInt = 1 from rfl) (by omega)).trans (by rw [fitL_y c_29, ch_y (by omega)]; rfl))
  refine E_sub [2, 3, 1, 0] rfl ?_
  exact J4 _ 0 0 0 (Nat.lt_succ_self _) (show (0 : Int32).toInt = 0 from rfl) (Nat.zero_le _) (show (0 : Int32).toInt = 0 from rfl)
noncomputable def cbS (V : Nat → Int32) (n nm act : Nat) (L : List Nat) : Nat → Nat × Nat
  | 0 => (0, L.length)
  | c + 1 => if btW V n nm act L c < (cbS V n nm act L c).2 then (c, btW V n nm act L c) else cbS V n nm act L c
theorem btW_le9 {V : Nat → Int32} {n nm act c : Nat} {L : List Nat} : btW V n nm act L c ≤ L.length := by
  have h := cntF_le L (hbS V n act c nm)
  unfold btW
  split <;> omega
theorem cbS_eq {V : Nat → Int32} {n nm act : Nat} {L : List Nat} (hL : L.length ≤ 32) : ∀ c, cbS V n nm act L (c + 1) = btS V n nm act L (c + 1)
  | 0 => by
    have h := btW_le9 (V := V) (n := n) (nm := nm) (act := act) (c := 0) (L := L)
    have h2 : L.length ≤ btW V n nm act L 0 * 1 ∨ btW V n nm act L 0 < L.length := by omega
    rw [btS_y (show btW V n nm act L 0 < (btS V n nm act L 0).2 from by show _ < 100; omega), cbS]
    rcases h2 with q | q
    · rw [if_neg (by show ¬ _ < L.length; omega)]
      show (0, L.length) = (0, btW V n nm act L 0)
      rw [show btW V n nm act L 0 = L.length by omega]
    · rw [if_pos (by show _ < L.length; exact q)]
  | c + 1 => by rw [cbS, btS, cbS_eq hL c]
theorem cbS_y {V : Nat → Int32} {n nm act c : Nat} {L : List Nat} (h : btW V n nm act L c < (cbS V n nm act L c).2) : cbS V n nm act L (c + 1) = (c, btW V n nm act L c) := by rw [cbS, if_pos h]
theorem cbS_n {V : Nat → Int32} {n nm act c : Nat} {L : List Nat} (h : ¬ btW V n nm act L c < (cbS V n nm act L c).2) : cbS V n nm act L (c + 1) = cbS V n nm act L c := by rw [cbS, if_neg h]
set_option maxHeartbeats 1600000 in
set_option maxRecDepth 100000 in
theorem c_X5_bestTest (l : Launch) (hfl : l.stackTraces = false) (mi : MI) (ml : MJ) (V : Nat → Int32) (hV : WFV V) (hD : DR 1 mi V) (n : Nat) (hn : (V 5).toInt = (n : Int)) (h10 : n ≤ 10) (m : Nat) (hm : (V 26).toInt = (m : Int)) (h5 : m ≤ 5) (t : Nat) (ht : (V 32).toInt = (t : Int)) (h16 : t ≤ 16) (a : Int32) (A : Int) (hA : a.toInt = A) : Ct l yX5_bestTest (.code yX5_bestTest cX5_bestTest 8 (some .int)) 6 1 6 [.ref 0, .int a] (wl mi ml) (QI (fun r mi9 ml9 => Fr [51, 52] mi mi9 ∧ FL60 ml ml9 ∧ (0 ≤ A ∧ A ≤ ((2 ^ n - 1 : Nat) : Int)) ∧ ∃ act : Nat, A = (act : Int) ∧ r.toInt = ((btS V n m act (fitL V n m t (2 ^ m)) 64).1 : Int))) (XW (fun En mi9 ml9 => mi = mi9 ∧ ml = ml9 ∧ En = xIA ∧ ¬ (0 ≤ A ∧ A ≤ ((2 ^ n - 1 : Nat) : Int)))) := by
  refine Ct_of (ini := false) pn_X5 hfl (fun h => nomatch h) (Nat.le_of_ble_eq_true rfl) ?_
  show E l RX5 cX5_bestTest 8 (some .int) false [] (rmE 6 1 6) (wl mi ml) (TgM (wl mi ml) 1 6 (QI (fun r mi9 ml9 => Fr [51, 52] mi mi9 ∧ FL60 ml ml9 ∧ (0 ≤ A ∧ A ≤ ((2 ^ n - 1 : Nat) : Int)) ∧ ∃ act : Nat, A = (act : Int) ∧ r.toInt = ((btS V n m act (fitL V n m t (2 ^ m)) 64).1 : Int))) (XW (fun En mi9 ml9 => mi = mi9 ∧ ml = ml9 ∧ En = xIA ∧ ¬ (0 ≤ A ∧ A ≤ ((2 ^ n - 1 : Nat) : Int))))) 0 0 0 [(0, .ref 0), (1, .int a)] [] (wl mi ml)
  refine E_aload_n 0 dX5_bestTest_0 rfl rfl ?_
  refine E_iload_n 1 dX5_bestTest_1 rfl rfl ?_
  refine E_callVx (c_X5_needSetOfCarriers l hfl mi ml  n ((congrArg Int32.toInt hD.2.1.1).trans hn) (by omega) a A hA) cw_X5_166 (As := [.int a]) (st := []) wi_yX5_needSetOfCarriers we_yX5_needSetOfCarriers (ci := 5) (q := (RX5, TX5, 7)) rfl rfl (wl_atO tw_0) rfl ⟨Nat.le_of_ble_eq_true rfl, Nat.le_of_ble_eq_true rfl, Nat.le_of_ble_eq_true rfl, Nat.le_of_ble_eq_true rfl⟩ (Nat.le_of_ble_eq_true rfl) dX5_bestTest_2 rfl (Nat.le_of_ble_eq_true rfl) (Nat.le_of_ble_eq_true rfl) (XW.w (by rintro _ _ _ ⟨rfl, rfl, rfl, q⟩; exact ⟨rfl, rfl, rfl, q⟩)) rfl (kV (fun mi_2 ml_2 h_2 => ?_))
  obtain ⟨rfl, rfl, h_2⟩ := h_2
  obtain ⟨act, hact⟩ : ∃ q : Nat, A = (q : Int) := ⟨A.toNat, by omega⟩
  have hp2 := Nat.two_pow_pos m
  have h32 := p2_5 h5
  have hfll := fitL_len V n m t (2 ^ m)
  refine E_aload_n 0 dX5_bestTest_5 rfl rfl ?_
  refine E_iload_n 1 dX5_bestTest_6 rfl rfl ?_
  refine E_callV (c_X5_mixActive l hfl mi ml V hV hD n hn h10 m hm h5 a act (hA.trans hact)) cw_X5_234 (As := [.int a]) (st := []) wi_yX5_mixActive we_yX5_mixActive (ci := 5) (q := (RX5, TX5, 7)) rfl rfl (wl_atO tw_0) rfl ⟨Nat.le_of_ble_eq_true rfl, Nat.le_of_ble_eq_true rfl, Nat.le_of_ble_eq_true rfl, Nat.le_of_ble_eq_true rfl⟩ (Nat.le_of_ble_eq_true rfl) dX5_bestTest_7 (fun _ _ h => h) rfl (kV (fun mi_7 ml_7 h_7 => ?_))
  refine E_aload_n 0 dX5_bestTest_10 rfl rfl ?_
  refine E_callV (c_X5_countDiagnoses l hfl mi_7 ml_7 V hV (hD.r8 (h_7.1 1 (by decide)) (h_7.1 2 (by decide)) (h_7.1 3 (by decide)) (h_7.1 4 (by decide)) (h_7.1 5 (by decide)) (h_7.1 6 (by decide)) (h_7.1 7 (by decide)) (h_7.1 8 (by decide))) n hn h10 m hm h5 t ht h16) cw_X5_244 (As := []) (st := []) wi_yX5_countDiagnoses we_yX5_countDiagnoses (ci := 5) (q := (RX5, TX5, 7)) rfl rfl (wl_atO tw_0) rfl ⟨Nat.le_of_ble_eq_true rfl, Nat.le_of_ble_eq_true rfl, Nat.le_of_ble_eq_true rfl, Nat.le_of_ble_eq_true rfl⟩ (Nat.le_of_ble_eq_true rfl) dX5_bestTest_11 (fun _ _ h => h) rfl (kI (fun r_11 mi_11 ml_11 h_11 => ?_))
  obtain ⟨rfl, rfl, h_11⟩ := h_11
  refine E_istore_n [(2, .int r_11), (0, .ref 0), (1, .int a)] dX5_bestTest_14 rfl (by decide) rfl ?_
  refine E_iconst 0 (by decide) dX5_bestTest_15 ?_
  refine E_istore_n [(3, .int 0), (2, .int r_11), (0, .ref 0), (1, .int a)] dX5_bestTest_16 rfl (by decide) rfl ?_
  refine E_iload_n 1 dX5_bestTest_17 rfl rfl ?_
  refine E_istore [(4, .int r_11), (3, .int 0), (2, .int r_11), (0, .ref 0), (1, .int a)] dX5_bestTest_18 (by decide) rfl ?_
  refine E_iconst 0 (by decide) dX5_bestTest_20 ?_
  refine E_istore [(5, .int 0), (4, .int r_11), (3, .int 0), (2, .int r_11), (0, .ref 0), (1, .int a)] dX5_bestTest_21 (by decide) rfl ?_
  have J23 : ∀ (Nm : Nat) (xc xb xr : Int32) (c : Nat), 64 - c < Nm → xc.toInt = (c : Int) → c ≤ 64 → xb.toInt = ((cbS V n m act (fitL V n m t (2 ^ m)) c).1 : Int) → xr.toInt = ((cbS V n m act (fitL V n m t (2 ^ m)) c).2 : Int) → E l RX5 cX5_bestTest 8 (some .int) false [] (rmE 6 1 6) (wl mi ml) (TgM (wl mi ml) 1 6 (QI (fun r mi9 ml9 => Fr [51, 52] mi mi9 ∧ FL60 ml ml9 ∧ (0 ≤ A ∧ A ≤ ((2 ^ n - 1 : Nat) : Int)) ∧ ∃ act : Nat, A = (act : Int) ∧ r.toInt = ((btS V n m act (fitL V n m t (2 ^ m)) 64).1 : Int))) (XW (fun En mi9 ml9 => mi = mi9 ∧ ml = ml9 ∧ En = xIA ∧ ¬ (0 ≤ A ∧ A ≤ ((2 ^ n - 1 : Nat) : Int))))) 1 6 23 [(0, .ref 0), (1, .int a), (2, .int r_11), (3, .int xb), (4, .int xr), (5, .int xc)] [] (wl mi_7 ml_7) := by
    intro Nm
    induction Nm with
    | zero => intros; omega
    | succ Nm ih23 =>
      intro xc xb xr c hN23 hc hc6 hxb hxr
      refine E_iload 5 dX5_bestTest_23 rfl ?_
      refine E_bipush 64 (by decide) dX5_bestTest_25 ?_
      refine Z_ge (c : Int) 64 hc (show (64 : Int32).toInt = 64 from rfl) 73 dX5_bestTest_27 (by decide) (fun c_27 => ?_) (fun c_27 => ?_)
      · skip
        refine E_iload_n 3 dX5_bestTest_73 rfl rfl ?_
        refine E_iret rfl (Nat.le_of_ble_eq_true rfl) (Nat.le_of_ble_eq_true rfl) dX5_bestTest_74 ?_
        obtain rfl : c = 63 + 1 := by omega
        rw [cbS_eq (by omega)] at hxb
        exact okQI ⟨h_7.1, h_7.2.1, h_2, act, hact, hxb⟩
      · skip
        refine E_aload_n 0 dX5_bestTest_30 rfl rfl ?_
        refine E_aload_n 0 dX5_bestTest_31 rfl rfl ?_
        refine E_iload 5 dX5_bestTest_32 rfl ?_
        refine E_callV (c_X5_mixersOn l hfl mi_7 ml_7 V n m act h5 h_7.2.2 xc c (hc.trans (by omega)) (by omega)) cw_X5_237 (As := [.int xc]) (st := [.ref 0]) wi_yX5_mixersOn we_yX5_mixersOn (ci := 5) (q := (RX5, TX5, 7)) rfl rfl (wl_atO tw_0) rfl ⟨Nat.le_of_ble_eq_true rfl, Nat.le_of_ble_eq_true rfl, Nat.le_of_ble_eq_true rfl, Nat.le_of_ble_eq_true rfl⟩ (Nat.le_of_ble_eq_true rfl) dX5_bestTest_34 (fun _ _ h => h) rfl (kI (fun r_34 mi_34 ml_34 h_34 => ?_))
        obtain ⟨rfl, rfl, h_34⟩ := h_34
        refine E_callV (c_X5_countHeard l hfl mi_7 ml_7 V hV (hD.r8 (h_7.1 1 (by decide)) (h_7.1 2 (by decide)) (h_7.1 3 (by decide)) (h_7.1 4 (by decide)) (h_7.1 5 (by decide)) (h_7.1 6 (by decide)) (h_7.1 7 (by decide)) (h_7.1 8 (by decide))) n hn h10 m hm h5 t ht h16 r_34 (hbS V n act c m) (h_34.trans (by omega))) cw_X5_258 (As := [.int r_34]) (st := []) wi_yX5_countHeard we_yX5_countHeard (ci := 5) (q := (RX5, TX5, 7)) rfl rfl (wl_atO tw_0) rfl ⟨Nat.le_of_ble_eq_true rfl, Nat.le_of_ble_eq_true rfl, Nat.le_of_ble_eq_true rfl, Nat.le_of_ble_eq_true rfl⟩ (Nat.le_of_ble_eq_true rfl) dX5_bestTest_37 (fun _ _ h => h) rfl (kI (fun r_37 mi_37 ml_37 h_37 => ?_))
        obtain ⟨rfl, rfl, h_37⟩ := h_37
        have hcl := cntF_le (fitL V n m t (2 ^ m)) (hbS V n act c m)
        refine E_istore [(6, .int r_37), (0, .ref 0), (1, .int a), (2, .int r_11), (3, .int xb), (4, .int xr), (5, .int xc)] dX5_bestTest_40 (by decide) rfl ?_
        refine E_iload 0 dX5_bestTest_42 rfl ?_
        refine E_iload_n 3 dX5_bestTest_44 rfl rfl ?_
        refine E_iload 0 dX5_bestTest_45 rfl ?_
        refine E_isub dX5_bestTest_47 ?_
        refine E_max wl_X5_261 ws_max wz_Math wc_max ⟨Nat.le_of_ble_eq_true rfl, Nat.le_of_ble_eq_true rfl, Nat.le_of_ble_eq_true rfl, Nat.le_of_ble_eq_true rfl⟩ dX5_bestTest_48 ?_
        refine E_istore [(7, .int (if r_37 < (r_11 - r_37) then (r_11 - r_37) else r_37)), (6, .int r_37), (0, .ref 0), (1, .int a), (2, .int r_11), (3, .int xb), (4, .int xr), (5, .int xc)] dX5_bestTest_51 (by decide) rfl ?_
        have hbw : (btW V n m act (fitL V n m t (2 ^ m)) c : Int) = max ((cntF (fitL V n m t (2 ^ m)) (hbS V n act c m) : Nat) : Int) ((((fitL V n m t (2 ^ m)).length : Nat) : Int) - ((cntF (fitL V n m t (2 ^ m)) (hbS V n act c m) : Nat) : Int)) := by unfold btW; split <;> omega
        refine E_iload 0 dX5_bestTest_53 rfl ?_
        refine E_iload 6 dX5_bestTest_55 rfl ?_
        refine Z_ge (max ((cntF (fitL V n m t (2 ^ m)) (hbS V n act c m) : Nat) : Int) ((((fitL V n m t (2 ^ m)).length : Nat) : Int) - ((cntF (fitL V n m t (2 ^ m)) (hbS V n act c m) : Nat) : Int))) ((cbS V n m act (fitL V n m t (2 ^ m)) c).2 : Int) (tI_mx h_37 (tI_sub h_11 h_37 (by omega))) hxr 67 dX5_bestTest_57 (by decide) (fun c_57 => ?_) (fun c_57 => ?_)
        · skip
          refine E_iinc 7 (xc + 1) [(5, .int (xc + 1)), (7, .int (if r_37 < (r_11 - r_37) then (r_11 - r_37) else r_37)), (6, .int r_37), (0, .ref 0), (1, .int a), (2, .int r_11), (3, .int xb), (4, .int xr)] dX5_bestTest_67 rfl rfl (by decide) rfl ?_
          refine E_goto 23 dX5_bestTest_70 (by decide) ?_
          refine E_sub [3, 4, 5, 6, 7, 0] rfl ?_
          exact ih23 (xc + 1) xb xr (c + 1) (by omega) ((tI_add hc (show (1 : Int32).toInt = 1 from rfl) (by omega)).trans (by omega)) (by omega) (by rw [cbS_n (by omega)]; exact hxb) (by rw [cbS_n (by omega)]; exact hxr)
        · skip
          refine E_iload 7 dX5_bestTest_60 rfl ?_
          refine E_istore_n [(3, .int xc), (7, .int (if r_37 < (r_11 - r_37) then (r_11 - r_37) else r_37)), (6, .int r_37), (0, .ref 0), (1, .int a), (2, .int r_11), (4, .int xr), (5, .int xc)] dX5_bestTest_62 rfl (by decide) rfl ?_
          refine E_iload 1 dX5_bestTest_63 rfl ?_
          refine E_istore [(4, .int (if r_37 < (r_11 - r_37) then (r_11 - r_37) else r_37)), (3, .int xc), (7, .int (if r_37 < (r_11 - r_37) then (r_11 - r_37) else r_37)), (6, .int r_37), (0, .ref 0), (1, .int a), (2, .int r_11), (5, .int xc)] dX5_bestTest_65 (by decide) rfl ?_
          refine E_iinc 7 (xc + 1) [(5, .int (xc + 1)), (4, .int (if r_37 < (r_11 - r_37) then (r_11 - r_37) else r_37)), (3, .int xc), (7, .int (if r_37 < (r_11 - r_37) then (r_11 - r_37) else r_37)), (6, .int r_37), (0, .ref 0), (1, .int a), (2, .int r_11)] dX5_bestTest_67 rfl rfl (by decide) rfl ?_
          refine E_goto 23 dX5_bestTest_70 (by decide) ?_
          refine E_sub [5, 6, 7, 2, 1, 0] rfl ?_
          exact ih23 (xc + 1) xc (if r_37 < (r_11 - r_37) then (r_11 - r_37) else r_37) (c + 1) (by omega) ((tI_add hc (show (1 : Int32).toInt = 1 from rfl) (by omega)).trans (by omega)) (by omega) (by rw [cbS_y (by omega)]; exact hc) (by rw [cbS_y (by omega)]; exact (tI_mx h_37 (tI_sub h_11 h_37 (by omega))).trans hbw.symm)
  refine E_sub [4, 5, 3, 2, 1, 0] rfl ?_
  exact J23 _ 0 0 r_11 0 (Nat.lt_succ_self _) (show (0 : Int32).toInt = 0 from rfl) (Nat.zero_le _) rfl h_11
end FA2
