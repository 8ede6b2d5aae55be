section MO3
theorem keep_a {mi : MI} {sc : Nat} (hsc : (mi 61 2).toInt = (sc : Int)) (h : sc < 4) : ∀ mf, (Fr [61, 63] mi mf ∧ (∀ k, k ≠ 2 → mf 61 k = mi 61 k) ∧ (mf 61 2).toInt = (sc : Int) + 1 ∧ (∀ k, k < 81 → mf 63 (81 * sc + k) = mi 62 k) ∧ ∀ q, q < 81 * sc → mf 63 q = mi 63 q) → Kept mi mf := by
  intro mf ⟨a1, a2, a3, a4, a5⟩
  refine ⟨a1, a2, sc, sc + 1, hsc, by omega, by omega, Or.inl ⟨h, rfl, fun i k hi hk => a5 _ (by omega)⟩, fun k hk => ?_⟩
  rw [show sc + 1 - 1 = sc by omega]
  exact a4 k hk
theorem keep_b {mi mj : MI} {sc i : Nat} {x : Int32} (hsc : (mi 61 2).toInt = (sc : Int)) (h4 : (sc : Int) = 4) (hF : Fr [63] mi mj) (h2 : ∀ k, k < i → mj 63 k = mi 63 (k + 81)) (h3 : ∀ q, i ≤ q → mj 63 q = mi 63 q) (hi : 243 ≤ i) : ∀ mf, (Fr [61, 63] (u2 mj 61 2 x) mf ∧ (∀ k, k ≠ 2 → mf 61 k = (u2 mj 61 2 x) 61 k) ∧ (mf 61 2).toInt = (3 : Int) + 1 ∧ (∀ k, k < 81 → mf 63 (81 * 3 + k) = (u2 mj 61 2 x) 62 k) ∧ ∀ q, q < 81 * 3 → mf 63 q = (u2 mj 61 2 x) 63 q) → Kept mi mf := by
  intro mf ⟨a1, a2, a3, a4, a5⟩
  refine ⟨fun p hp => ?_, fun k hk => ?_, sc, 4, hsc, by omega, by omega, Or.inr ⟨by omega, rfl, fun i k hi hk => ?_⟩, fun k hk => ?_⟩
  · rw [a1 p hp, u2_p (fun e => hp (by rw [e]; decide)), hF p (fun q => hp (by simp at q; simp [q]))]
  · rw [a2 k hk, u2_n (Or.inr hk), hF 61 (by decide)]
  · rw [a5 _ (by omega), u2_n (by omega), h2 _ (by omega)]
    congr 1
    omega
  · rw [a4 k hk, u2_p (by decide), hF 62 (by decide)]
end MO3
