section MO19
/-- the least span and its ruler -/
def lsE (V : Nat → Int32) (m : Nat) (r : Int32) (v : Int64) : Prop := (∃ (s : Nat) (R : List Nat), s ≤ 40 ∧ r.toInt = (s : Int) ∧ skFA V m s = some R ∧ v = rbF R ∧ ∀ t, t < s → skFA V m t = none) ∨ (r = -1 ∧ ∀ t, t ≤ 40 → skFA V m t = none)
theorem sk_yes {V : Nat → Int32} {m sp : Nat} {r : Int32} {v : Int64} (h : skE V m sp True r v) (c : 0 < r.toInt) : ∃ R, skFA V m sp = some R ∧ v = rbF R := by
  rcases h.2 trivial with q | q
  · exact q.2
  · rw [q.1] at c; exact absurd c (by decide)
theorem sk_not {V : Nat → Int32} {m sp : Nat} {r : Int32} {v : Int64} (h : skE V m sp True r v) (c : r.toInt ≤ 0) : skFA V m sp = none := by
  rcases h.2 trivial with q | q
  · rw [q.1] at c; exact absurd c (by decide)
  · exact q.2
theorem SM_k {mi mj : MI} {c : Int32} (h : Fr [65, 66, 68] (u2 mi 61 5 c) mj) : SM c mi mj :=
  ⟨Fr.trans (F := [61]) (Fr.rfl'.u (by decide)) h (by decide) (by decide), by rw [h 61 (by decide), u2_n (by omega)], by rw [h 61 (by decide), u2_n (by omega)], by rw [h 61 (by decide), u2_s]⟩
end MO19
