section MO5
def rmB (x low : Int32) : Int32 := (x &&& low) ||| ((x >>> (1 &&& 31)) &&& (low ^^^ (-1)))
theorem rm_a {mk mj : MI} {x : Int32} {b i : Nat} (h2 : ∀ j, b ≤ j → j < i → mj 62 (6 + 2 * j) = mk 62 (6 + 2 * (j + 1)) ∧ mj 62 (7 + 2 * j) = mk 62 (7 + 2 * (j + 1))) (h3 : ∀ k, (k < 6 + 2 * b ∨ 6 + 2 * i ≤ k) → mj 62 k = (u2 (u2 mk 62 32 0) 62 5 x) 62 k) (hb : b ≤ i) (hi : i < 9) :
    ∀ j, b ≤ j → j < i + 1 → (u2 (u2 mj 62 (6 + 2 * i) (mj 62 (6 + 2 * (i + 1)))) 62 (7 + 2 * i) (mj 62 (7 + 2 * (i + 1)))) 62 (6 + 2 * j) = mk 62 (6 + 2 * (j + 1)) ∧ (u2 (u2 mj 62 (6 + 2 * i) (mj 62 (6 + 2 * (i + 1)))) 62 (7 + 2 * i) (mj 62 (7 + 2 * (i + 1)))) 62 (7 + 2 * j) = mk 62 (7 + 2 * (j + 1)) := by
  intro j hj hj2
  rcases Nat.lt_or_ge j i with q | q
  · rw [u2_n (by omega), u2_n (by omega), u2_n (by omega), u2_n (by omega)]
    exact h2 j hj q
  · have e : j = i := by omega
    subst e
    rw [u2_n (by omega), u2_s, u2_s, h3 _ (by omega), h3 _ (by omega), u2_n (by omega), u2_n (by omega), u2_n (by omega), u2_n (by omega)]
    exact ⟨rfl, rfl⟩
theorem rm_b {mi mk mj mq : MI} {x c v0 : Int32} {b i n nm i2 : Nat} {kc : Nat} (hK : Kept (u2 mi 61 kc v0) mk) (hF : Fr [62] (u2 (u2 mk 62 32 0) 62 5 x) mj) (h2 : ∀ j, b ≤ j → j < i → mj 62 (6 + 2 * j) = mk 62 (6 + 2 * (j + 1)) ∧ mj 62 (7 + 2 * j) = mk 62 (7 + 2 * (j + 1))) (h3 : ∀ k, (k < 6 + 2 * b ∨ 6 + 2 * i ≤ k) → mj 62 k = (u2 (u2 mk 62 32 0) 62 5 x) 62 k)
    (hF2 : Fr [62] mj mq) (q2 : ∀ k, k < i2 → mq 62 (27 + k) = rmB (mj 62 (27 + k)) (((1 : Int32) <<< (c &&& 31)) - 1)) (q3 : ∀ k, (k < 27 ∨ 27 + i2 ≤ k) → mq 62 k = mj 62 k) (hb9 : b < n) (hin : i + 1 = n) (hnm : i2 = nm) (hn : n ≤ 10) (hm : nm ≤ 5) (hq5 : mq 62 5 = x) (hx : x.toInt = (n : Int) - 1) :
    Fr [62] mk mq ∧ (∀ j, b ≤ j → j + 1 < n → mq 62 (6 + 2 * j) = mi 62 (6 + 2 * (j + 1)) ∧ mq 62 (7 + 2 * j) = mi 62 (7 + 2 * (j + 1))) ∧ (∀ k, k < nm → mq 62 (27 + k) = rmB (mi 62 (27 + k)) (((1 : Int32) <<< (c &&& 31)) - 1)) ∧ (∀ k, k < 6 + 2 * b → k ≠ 5 → mq 62 k = mi 62 k) ∧ mq 62 26 = mi 62 26 ∧ (mq 62 5).toInt = (n : Int) - 1 ∧ mq 62 32 = 0 := by
  have hk62 : ∀ k, mk 62 k = mi 62 k := fun k => by rw [hK.1 62 (by decide)]; exact u2_n (Or.inl (by decide))
  subst hin; subst hnm
  refine ⟨fun p hp => ?_, fun j h1 h4 => ?_, fun k hk => ?_, fun k hk hk5 => ?_, ?_, by rw [hq5]; exact hx, ?_⟩
  · have : p ≠ 62 := fun e => hp (by rw [e]; decide)
    rw [hF2 p hp, hF p hp, u2_p this, u2_p this]
  · rw [q3 _ (by omega), q3 _ (by omega), (h2 j h1 (by omega)).1, (h2 j h1 (by omega)).2, hk62, hk62]
    exact ⟨rfl, rfl⟩
  · rw [q2 k hk, h3 _ (by omega), u2_n (by omega), u2_n (by omega), hk62]
  · rw [q3 _ (by omega), h3 _ (by omega), u2_n (by omega), u2_n (by omega), hk62]
  · rw [q3 _ (by omega), h3 _ (by omega), u2_n (by omega), u2_n (by omega), hk62]
  · rw [q3 _ (by omega), h3 _ (by omega), u2_n (by omega), u2_s]
end MO5
