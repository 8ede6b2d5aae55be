section MO1
theorem has_bit : ∀ (s k : Nat), s < 1024 → k < 11 → (((nI s) >>> ((nI k) &&& 31)) &&& 1) = if s.testBit k then 1 else 0 := by
  intro s k hs hk
  have h1 : ((nI k &&& 31).toBitVec.smod 32).toNat = k := s_l k (by omega)
  rw [pk_shrN (by omega) _ k h1, pk_andN (m := 1) (by
    have : s / 2 ^ k ≤ s := Nat.div_le_self _ _
    omega) 1 rfl]
  rw [Nat.testBit_eq_decide_div_mod_eq]
  rcases Nat.mod_two_eq_zero_or_one (s / 2 ^ k) with h | h
  · rw [if_neg (by simp [h]), show (2 : Nat) ^ 1 = 2 from rfl, h]; rfl
  · rw [if_pos (by simp [h]), show (2 : Nat) ^ 1 = 2 from rfl, h]; rfl
theorem has_toInt {a b : Int32} {s k : Nat} (ha : a.toInt = (s : Int)) (hb : b.toInt = (k : Int)) (hs : s < 1024) (hk : k < 11) : ((a >>> (b &&& 31)) &&& 1).toInt = if s.testBit k then 1 else 0 := by
  rw [tI_nIx ha, tI_nIx hb, has_bit s k hs hk]
  split <;> rfl
end MO1
