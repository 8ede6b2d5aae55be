section MO7
theorem RowM_of {mj : MI} {V : Nat → Int32} {n : Nat} (hw : WFV V) (hn : (V 5).toInt = (n : Int)) (h : ∀ c, c < n → mj 65 c = V (6 + 2 * c) ∧ mj 66 c = V (7 + 2 * c)) : RowM mj (DV V) n := by
  intro k hk
  have h1 := hw.2.2.1 k (by omega)
  rw [(h k hk).1, (h k hk).2]
  exact ⟨⟨rfl, h1.1.1, h1.1.2⟩, ⟨rfl, h1.2.1, h1.2.2⟩⟩
theorem LsP_0 {D : RD} {mi : MI} {x : Int32} (hx : x = 0) : LsP D mi (u2 mi 61 9 x) [] := ⟨Fr.rfl'.u (by decide), fun k hk => u2_n (by omega), by rw [u2_s, hx]; rfl, encd_nil _ _⟩
theorem vB_t {s kd a b : Nat} (h : kd = 1 → a < b) (h1 : (a : Int) ≠ (b : Int)) (h2 : s.testBit a = true) (h3 : s.testBit b = true) : vB s kd a b := ⟨h, by omega, h2, h3⟩
theorem la_b {D : RD} {mi1 md : MI} {s n kd a b c : Nat} {xv : Int32} (h6 : (xv = 1 ∧ vB s kd a b) ∨ (xv = 0 ∧ ¬ vB s kd a b ∧ c = 0)) (h : LsP D mi1 md (stK D s n kd ++ stA D s n kd a ++ stB D s n kd a b ++ stC D s kd a b c)) (hh : xv.toInt = 0 ∨ c = nCs n kd) : LsP D mi1 md (stK D s n kd ++ stA D s n kd a ++ stB D s n kd a (b + 1)) := by
  rcases h6 with ⟨h1, h2⟩ | ⟨h1, h2, h3⟩
  · rcases hh with hh | hh
    · rw [h1] at hh; exact absurd hh (by decide)
    · rw [st_b1 h2, ← List.append_assoc, ← hh]; exact h
  · rw [st_b0 h2]
    rw [h3, show stC D s kd a b 0 = [] from rfl, List.append_nil] at h
    exact h
theorem la_k {D : RD} {mi1 md : MI} {s n kd a : Nat} (h : LsP D mi1 md (stK D s n kd ++ stA D s n kd a)) (e : a = n) : LsP D mi1 md (stK D s n (kd + 1)) := by
  subst e; exact h
theorem la_a {D : RD} {mi1 md : MI} {s n kd a b : Nat} (h : LsP D mi1 md (stK D s n kd ++ stA D s n kd a ++ stB D s n kd a b)) (e : b = n) : LsP D mi1 md (stK D s n kd ++ stA D s n kd (a + 1)) := by
  subst e
  rw [stA, ← List.append_assoc]; exact h
theorem la_b1 {D : RD} {mi1 md : MI} {s n kd a : Nat} (e : kd = 1) (h : LsP D mi1 md (stK D s n kd ++ stA D s n kd a)) : LsP D mi1 md (stK D s n kd ++ stA D s n kd a ++ stB D s n kd a (a + 1)) := by
  subst e
  rw [stB_0 _ (Nat.le_refl _), List.append_nil]; exact h
theorem la_c0 {D : RD} {mi1 md : MI} {s n kd a b c : Nat} (h : LsP D mi1 md (stK D s n kd ++ stA D s n kd a ++ stB D s n kd a b ++ stC D s kd a b c)) (hv : ¬ (vC s kd a b c ∧ Sg D kd a b c)) : LsP D mi1 md (stK D s n kd ++ stA D s n kd a ++ stB D s n kd a b ++ stC D s kd a b (c + 1)) := by
  rw [st_c0 hv]; exact h
theorem la_c1 {D : RD} {mi1 md mf : MI} {s n kd a b c : Nat} (h : LsP D mi1 md (stK D s n kd ++ stA D s n kd a ++ stB D s n kd a b ++ stC D s kd a b c)) (hv : vC s kd a b c) (hS : Sg D kd a b c) (h1 : Fr [61, 67] md mf) (h2 : ∀ k, k ≠ 9 → mf 61 k = md 61 k) (h3 : (mf 61 9).toInt = ((stK D s n kd ++ stA D s n kd a ++ stB D s n kd a b ++ stC D s kd a b c).length : Int) + 1) (h4 : ∀ k, k < 6 * (stK D s n kd ++ stA D s n kd a ++ stB D s n kd a b ++ stC D s kd a b c).length → mf 67 k = md 67 k) (h5 : encq D (mf 67) (stK D s n kd ++ stA D s n kd a ++ stB D s n kd a b ++ stC D s kd a b c).length (kd, a, b, c)) :
    LsP D mi1 mf (stK D s n kd ++ stA D s n kd a ++ stB D s n kd a b ++ stC D s kd a b (c + 1)) := by
  rw [st_c1 hv hS, ← List.append_assoc]
  exact LsP_step h h1 h2 h3 h4 h5
end MO7
