section MO18
theorem rmC_l {V : Nat → Int32} {g sp : Int} {R : List Nat} : ClN V R = ClR (DS V R) (V 3).toInt (V 4).toInt R.length := rfl
theorem rwN_2 {mj : MI} {sp : Nat} {v : Int32} (hv : v.toInt = (sp : Int)) : rwN (u2 (u2 mj 65 0 0) 65 1 v) [0, sp] := by
  intro j c hj
  match j, hj with
  | 0, hj => cases hj; rw [u2_n (by omega), u2_s]; rfl
  | 1, hj => cases hj; rw [u2_s]; exact hv
  | j + 2, hj => exact absurd (List.getElem?_eq_some_iff.mp hj).1 (by simp)
theorem R2_b {sp : Nat} (h : sp ≤ 40) : ∀ c, c ∈ [0, sp] → c ≤ 40 := by
  intro c hc
  rcases List.mem_cons.mp hc with q | q
  · omega
  · rcases List.mem_cons.mp q with q | q
    · omega
    · cases q
theorem Ra_b {R : List Nat} {x : Nat} (h : ∀ c, c ∈ R → c ≤ 40) (hx : x ≤ 40) : ∀ c, c ∈ R ++ [x] → c ≤ 40 := by
  intro c hc
  rcases List.mem_append.mp hc with q | q
  · exact h c q
  · have := List.mem_singleton.mp q; omega
end MO18
