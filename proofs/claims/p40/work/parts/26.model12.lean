section MO12
theorem lg_0 {a b : Int64} (h : (lg_cmp a b).toInt = 0) : a = b := (lg_cmp_eq a b).mp (Int32.toInt_inj.mp h)
theorem lg_1 {a b : Int64} (h : (lg_cmp a b).toInt ≠ 0) : a ≠ b := fun q => h (congrArg Int32.toInt ((lg_cmp_eq a b).mpr q))
/-- does mixer k make a product on the channel, with these carriers active -/
def hbP (V : Nat → Int32) (n act ch k : Nat) : Prop := ((foA (DV V) (prV V ((V (27 + k)).toInt.toNat &&& act) n) (prV V ((V (27 + k)).toInt.toNat &&& act) n).length >>> ((nI ch).toInt64 &&& 63)) &&& 1) = 1
noncomputable def hbS (V : Nat → Int32) (n act ch : Nat) : Nat → Nat
  | 0 => 0
  | k + 1 => hbS V n act ch k + ifp (hbP V n act ch k) (2 ^ k) 0
theorem hbS_lt (V : Nat → Int32) (n act ch : Nat) : ∀ k, hbS V n act ch k < 2 ^ k
  | 0 => Nat.lt_succ_self 0
  | k + 1 => by
    have ih := hbS_lt V n act ch k
    rw [hbS, Nat.pow_succ]
    rcases Classical.em (hbP V n act ch k) with h | h
    · rw [ifp_t h]; omega
    · rw [ifp_f h]; omega
theorem hb_or : ∀ k, k < 5 → ∀ a, a < 2 ^ k → (nI a ||| ((1 : Int32) <<< (nI k &&& 31))) = nI (a + 2 ^ k) := by decide +kernel
theorem hb_or0 : ∀ a, a < 32 → (nI a ||| (0 : Int32)) = nI (a + 0) := by decide +kernel
theorem p2_5 {k : Nat} (h : k ≤ 5) : 2 ^ k ≤ 32 := Nat.pow_le_pow_right (by omega) h
theorem hb_y {V : Nat → Int32} {n act ch k : Nat} {x y : Int32} (hx : x.toInt = (hbS V n act ch k : Int)) (hy : y.toInt = (k : Int)) (hk : k < 5) (h : hbP V n act ch k) : (x ||| ((1 : Int32) <<< (y &&& 31))).toInt = (hbS V n act ch (k + 1) : Int) := by
  rw [tI_nIx hx, tI_nIx hy, hb_or k hk _ (hbS_lt V n act ch k), hbS, ifp_t h]
  have h1 := hbS_lt V n act ch k
  have h2 := p2_5 (show k ≤ 5 by omega)
  exact tI_nI (by omega)
theorem hb_n {V : Nat → Int32} {n act ch k : Nat} {x : Int32} (hx : x.toInt = (hbS V n act ch k : Int)) (hk : k < 5) (h : ¬ hbP V n act ch k) : (x ||| (0 : Int32)).toInt = (hbS V n act ch (k + 1) : Int) := by
  have h1 := hbS_lt V n act ch k
  have h2 := p2_5 (show k ≤ 5 by omega)
  rw [tI_nIx hx, hb_or0 _ (by omega), hbS, ifp_f h]
  exact tI_nI (by omega)
theorem hbP_iff {V : Nat → Int32} {n act ch k mk : Nat} {x : Int32} {r : Int64} (hx : x.toInt = (ch : Int)) (hmk : (V (27 + k)).toInt = (mk : Int)) (hr : r = foA (DV V) (prV V (mk &&& act) n) (prV V (mk &&& act) n).length) : ((r >>> (x.toInt64 &&& 63)) &&& 1) = 1 ↔ hbP V n act ch k := by
  have e : (V (27 + k)).toInt.toNat = mk := by omega
  subst hr
  rw [tI_nIx hx, hbP, e]
end MO12
