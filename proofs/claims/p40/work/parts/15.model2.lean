section MO2
theorem ex_t {P : Nat → Prop} {i : Nat} (h : ∃ j, j < i ∧ P j) : (1 : Int32) = bI (∃ j, j < i + 1 ∧ P j) := b1 (h.elim fun j h => ⟨j, by omega, h.2⟩)
theorem ex_n {P : Nat → Prop} {i : Nat} (h : P i) : (1 : Int32) = bI (∃ j, j < i + 1 ∧ P j) := b1 ⟨i, by omega, h⟩
theorem ex_f {P : Nat → Prop} {i : Nat} (h : ¬ ∃ j, j < i ∧ P j) (hn : ¬ P i) : (0 : Int32) = bI (∃ j, j < i + 1 ∧ P j) := b0 (fun ⟨j, h1, h2⟩ => by
  rcases Nat.lt_or_ge j i with q | q
  · exact h ⟨j, q, h2⟩
  · have e : j = i := by omega
    rw [e] at h2
    exact hn h2)
theorem all_t {P : Nat → Prop} {i : Nat} (h : ∀ j, j < i → P j) (hn : P i) : (1 : Int32) = bI (∀ j, j < i + 1 → P j) := b1 (lt_s h hn)
theorem all_f {P : Nat → Prop} {i : Nat} (h : ¬ ∀ j, j < i → P j) : (0 : Int32) = bI (∀ j, j < i + 1 → P j) := b0 (fun q => h (fun j hj => q j (by omega)))
theorem all_n {P : Nat → Prop} {i : Nat} (h : ¬ P i) : (0 : Int32) = bI (∀ j, j < i + 1 → P j) := b0 (fun q => h (q i (by omega)))
theorem tI_pow {n : Nat} (h : n ≤ 10) : (nI (2 ^ n - 1)).toInt = ((2 ^ n - 1 : Nat) : Int) := by
  have h1 : 2 ^ n ≤ 2 ^ 10 := Nat.pow_le_pow_right (by omega) h
  exact tI_nI (by omega)
def popc (s : Nat) : Nat := ((List.range 10).filter (fun i => s.testBit i)).length
theorem bits_step : ∀ t, t < 1024 → t ≠ 0 → (nI t &&& (nI t - 1)) = nI (t &&& (t - 1)) ∧ (t &&& (t - 1)) < t ∧ popc (t &&& (t - 1)) + 1 = popc t := by decide +kernel
theorem popc_0 : popc 0 = 0 := by decide
theorem popc_le (s : Nat) : popc s ≤ 10 := by
  have h := List.length_filter_le (fun i => s.testBit i) (List.range 10)
  simpa [popc] using h
/-- places outside F are as they were -/
def Fr (F : List Nat) (mi mi' : MI) : Prop := ∀ p, p ∉ F → mi' p = mi p
theorem Fr.rfl' {F : List Nat} {mi : MI} : Fr F mi mi := fun _ _ => rfl
theorem Fr.trans {F G H : List Nat} {a b c : MI} (h1 : Fr F a b) (h2 : Fr G b c) (hF : ∀ p, p ∈ F → p ∈ H) (hG : ∀ p, p ∈ G → p ∈ H) : Fr H a c := fun p hp => (h2 p (fun q => hp (hG p q))).trans (h1 p (fun q => hp (hF p q)))
theorem Fr.u {F : List Nat} {mi mi' : MI} {p k : Nat} {v : Int32} (h : Fr F mi mi') (hp : p ∈ F) : Fr F mi (u2 mi' p k v) := fun q hq => (u2_p (fun e => hq (by rw [e]; exact hp))).trans (h q hq)
/-- what keep() does to the saved blocks -/
def Kept (mi mi' : MI) : Prop := Fr [61, 63] mi mi' ∧ (∀ k, k ≠ 2 → mi' 61 k = mi 61 k) ∧ ∃ sc sc' : Nat, (mi 61 2).toInt = (sc : Int) ∧ (mi' 61 2).toInt = (sc' : Int) ∧ sc ≤ 4 ∧ ((sc < 4 ∧ sc' = sc + 1 ∧ ∀ i k, i < sc → k < 81 → mi' 63 (81 * i + k) = mi 63 (81 * i + k)) ∨ (sc = 4 ∧ sc' = 4 ∧ ∀ i k, i < 3 → k < 81 → mi' 63 (81 * i + k) = mi 63 (81 * (i + 1) + k))) ∧ ∀ k, k < 81 → mi' 63 (81 * (sc' - 1) + k) = mi 62 k
end MO2
