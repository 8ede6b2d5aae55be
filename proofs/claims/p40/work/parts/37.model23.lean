section MO23
theorem ifp_inr {α : Type} {P : Prop} {e : Nat} {x : Sum Nat α} {y : α} (h : ifp P (.inl e) x = .inr y) : ¬ P ∧ x = .inr y := by
  rcases Classical.em P with q | q
  · rw [ifp_t q] at h; cases h
  · rw [ifp_f q] at h; exact ⟨q, h⟩
theorem pcS_inv {t : Nat → Int} {D D9 : List (Nat × Nat)} {p q : Nat} (h : pcS t D p = .inr (D9, q)) : ∃ q1 v w : Nat, D.length ≠ 10 ∧ rdO t (p + 1) ∧ q1 = p + 1 + rdI t (p + 1) ∧ v = rdV t (p + 1) (rdI t (p + 1)) ∧ ¬ (63 < v ∨ ∃ d, d ∈ D ∧ d.1 = v) ∧ t q1 = 44 ∧ rdO t (q1 + 1) ∧ q = q1 + 1 + rdI t (q1 + 1) ∧ w = rdV t (q1 + 1) (rdI t (q1 + 1)) ∧ ¬ 60 < w ∧ D9 = D ++ [(v, w)] := by
  unfold pcS at h
  obtain ⟨a1, h⟩ := ifp_inr h
  obtain ⟨a2, h⟩ := ifp_inr h
  obtain ⟨a3, h⟩ := ifp_inr h
  obtain ⟨a4, h⟩ := ifp_inr h
  obtain ⟨a5, h⟩ := ifp_inr h
  obtain ⟨a6, h⟩ := ifp_inr h
  cases h
  exact ⟨_, _, _, a1, Classical.byContradiction a2, rfl, rfl, a3, Classical.byContradiction a4, Classical.byContradiction a5, rfl, rfl, a6, rfl⟩
theorem rdO_N {row : Nat → Int32} {N p : Nat} (h : rdO (tX row N) p) : p + rdI (tX row N) p ≤ N := by
  have h1 := h.1
  have h2 := dg_lt (rdI_d (t := tX row N) (p := p) (rdI (tX row N) p - 1) (by omega))
  omega
theorem pcS_b {row : Nat → Int32} {N : Nat} {D D9 : List (Nat × Nat)} {p q : Nat} (h : pcS (tX row N) D p = .inr (D9, q)) : q ≤ N ∧ p < q ∧ D.length ≠ 10 ∧ D9.length = D.length + 1 := by
  obtain ⟨q1, v, w, a1, -, a2, -, -, -, a3, a4, -, -, a5⟩ := pcS_inv h
  have := rdO_N a3
  exact ⟨by omega, by omega, a1, by rw [a5, List.length_append]; rfl⟩
theorem pmS_b {row : Nat → Int32} {N nD : Nat} : ∀ {f s p s9 q : Nat}, pmS (tX row N) nD f s p = .inr (s9, q) → q ≤ N ∧ p < q
  | 0, _, _, _, _, h => by rw [pmS] at h; cases h
  | f + 1, s, p, s9, q, h => by
    rw [pmS] at h
    obtain ⟨a1, h⟩ := ifp_inr h
    obtain ⟨a2, h⟩ := ifp_inr h
    have a3 := Classical.byContradiction a1
    have h3 := rdO_N a3
    have h4 := a3.1
    rcases Classical.em (tX row N (p + rdI (tX row N) p) = 44) with z | z
    · rw [ifp_t z] at h
      have := pmS_b h
      omega
    · rw [ifp_f z] at h
      cases h
      omega
theorem pmT_b {row : Nat → Int32} {N nD p s q : Nat} {M : List Nat} (h : pmT (tX row N) nD M p = .inr (s, q)) : q ≤ N ∧ p < q ∧ M.length ≠ 5 := by
  unfold pmT at h
  obtain ⟨a1, h⟩ := ifp_inr h
  have := pmS_b h
  exact ⟨this.1, by omega, a1⟩
/-- the whole text -/
noncomputable def paS (t : Nat → Int) (N : Nat) : Nat → List (Nat × Nat) → List Nat → Nat → Nat → Sum Nat (List (Nat × Nat) × List Nat × Nat)
  | 0, _, _, _, _ => .inl 0
  | f + 1, D, M, p, it => ifp (N ≤ p) (.inr (D, M, it)) (ifp (t p = 99)
      (match pcS t D p with | .inl e => .inl e | .inr (D9, q) => ifp (t q = 59) (paS t N f D9 M (q + 1) (it + 1)) (.inl q))
      (ifp (t p = 109) (match pmT t D.length M p with | .inl e => .inl e | .inr (s, q) => ifp (t q = 59) (paS t N f D (M ++ [s]) (q + 1) (it + 1)) (.inl q)) (.inl p)))
section
variable {t : Nat → Int} {N f p it : Nat} {D : List (Nat × Nat)} {M : List Nat}
theorem pa_0 (h : N ≤ p) : paS t N (f + 1) D M p it = .inr (D, M, it) := by rw [paS, ifp_t h]
theorem pa_1 (h : p < N) (h1 : t p ≠ 99) (h2 : t p ≠ 109) : paS t N (f + 1) D M p it = .inl p := by rw [paS, ifp_f (by omega), ifp_f h1, ifp_f h2]
theorem pa_c1 {e : Nat} (h : p < N) (h1 : t p = 99) (h2 : pcS t D p = .inl e) : paS t N (f + 1) D M p it = .inl e := by rw [paS, ifp_f (by omega), ifp_t h1, h2]
theorem pa_c2 {D9 : List (Nat × Nat)} {q : Nat} (h : p < N) (h1 : t p = 99) (h2 : pcS t D p = .inr (D9, q)) (h3 : t q ≠ 59) : paS t N (f + 1) D M p it = .inl q := by rw [paS, ifp_f (by omega), ifp_t h1, h2]; simp only [ifp_f h3]
theorem pa_c3 {D9 : List (Nat × Nat)} {q : Nat} (h : p < N) (h1 : t p = 99) (h2 : pcS t D p = .inr (D9, q)) (h3 : t q = 59) : paS t N (f + 1) D M p it = paS t N f D9 M (q + 1) (it + 1) := by rw [paS, ifp_f (by omega), ifp_t h1, h2]; simp only [ifp_t h3]
theorem pa_m1 {e : Nat} (h : p < N) (h0 : t p ≠ 99) (h1 : t p = 109) (h2 : pmT t D.length M p = .inl e) : paS t N (f + 1) D M p it = .inl e := by rw [paS, ifp_f (by omega), ifp_f h0, ifp_t h1, h2]
theorem pa_m2 {s q : Nat} (h : p < N) (h0 : t p ≠ 99) (h1 : t p = 109) (h2 : pmT t D.length M p = .inr (s, q)) (h3 : t q ≠ 59) : paS t N (f + 1) D M p it = .inl q := by rw [paS, ifp_f (by omega), ifp_f h0, ifp_t h1, h2]; simp only [ifp_f h3]
theorem pa_m3 {s q : Nat} (h : p < N) (h0 : t p ≠ 99) (h1 : t p = 109) (h2 : pmT t D.length M p = .inr (s, q)) (h3 : t q = 59) : paS t N (f + 1) D M p it = paS t N f D (M ++ [s]) (q + 1) (it + 1) := by rw [paS, ifp_f (by omega), ifp_f h0, ifp_t h1, h2]; simp only [ifp_t h3]
end
end MO23
