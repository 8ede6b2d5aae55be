section MO9
/-- no product of these three carriers hits a row -/
def nHt (D : RD) (g : Int) (N kd a b c : Nat) : Prop := ∀ k, k < N → Sg D kd a b c → ¬ ((0 - g) ≤ (pCh D kd a b c - D.2.2.2.1 k) ∧ (pCh D kd a b c - D.2.2.2.1 k) ≤ g)
def gP (D : RD) (g sp : Int) (N a b : Nat) : Prop := a ≠ b → ¬ ((1 - sp) ≤ (D.2.2.2.1 a - D.2.2.2.1 b) ∧ (D.2.2.2.1 a - D.2.2.2.1 b) ≤ (sp - 1)) ∧ nHt D g N 0 a b 0 ∧ nHt D g N 2 a b 0
def gT (D : RD) (g : Int) (N a b c : Nat) : Prop := a < b → c ≠ a → c ≠ b → nHt D g N 1 a b c
/-- the carriers of the first N rows are clean -/
def ClR (D : RD) (g sp : Int) (N : Nat) : Prop := ∀ a, a < N → ∀ b, b < N → gP D g sp N a b ∧ ∀ c, c < N → gT D g N a b c
theorem hF_y {D : RD} {g : Int} {N kd a b c : Nat} {r : Int32} (hv : (Sg D kd a b c ∧ r.toInt = pCh D kd a b c) ∨ (¬ Sg D kd a b c ∧ r = -1)) (h : ¬ ∃ k : Nat, k < N ∧ r.toInt ≠ -1 ∧ ((0 - g) ≤ (r.toInt - D.2.2.2.1 k) ∧ (r.toInt - D.2.2.2.1 k) ≤ g)) : nHt D g N kd a b c := by
  intro k hk hS hn
  rcases hv with q | q
  · have h0 := hS.1.1
    exact h ⟨k, hk, by omega, by rw [q.2]; exact hn⟩
  · exact q.1 hS
theorem hF_n {D : RD} {g : Int} {N kd a b c : Nat} {r : Int32} (hv : (Sg D kd a b c ∧ r.toInt = pCh D kd a b c) ∨ (¬ Sg D kd a b c ∧ r = -1)) (h : ∃ k : Nat, k < N ∧ r.toInt ≠ -1 ∧ ((0 - g) ≤ (r.toInt - D.2.2.2.1 k) ∧ (r.toInt - D.2.2.2.1 k) ≤ g)) : ¬ nHt D g N kd a b c := by
  obtain ⟨k, hk, h1, h2⟩ := h
  rcases hv with q | q
  · intro z
    rw [q.2] at h2
    exact z k hk q.1 h2
  · rw [q.2] at h1
    exact absurd rfl h1
theorem fl_rng {D : RD} {kd a b c : Nat} {r : Int32} (hv : (Sg D kd a b c ∧ r.toInt = pCh D kd a b c) ∨ (¬ Sg D kd a b c ∧ r = -1)) : r.toInt = -1 ∨ (0 ≤ r.toInt ∧ r.toInt ≤ 63) := by
  rcases hv with q | q
  · have := q.1.1; omega
  · rw [q.2]; exact Or.inl rfl
end MO9
