section MO25
theorem SM_ra {mi mj : MI} (h : Fr [61, 71, 72] (u2 mi 61 5 0) mj) (hk : KF [15, 16, 18, 20, 21] (u2 mi 61 5 0) mj) : SM 0 mi mj :=
  ⟨Fr.trans (F := [61]) (Fr.rfl'.u (by decide)) h (by decide) (by decide), by rw [hk 2 (by decide), u2_n (by omega)], by rw [hk 4 (by decide), u2_n (by omega)], by rw [hk 5 (by decide), u2_s]⟩
/-- the block shows the draft -/
def prB (V W : Nat → Int32) (D : List (Nat × Nat)) (M : List Nat) : Prop := (W 5).toInt = (D.length : Int) ∧ (W 26).toInt = (M.length : Int) ∧ W 32 = 0 ∧ (∀ (k : Nat) (d : Nat × Nat), D[k]? = some d → (W (6 + 2 * k)).toInt = (d.1 : Int) ∧ (W (7 + 2 * k)).toInt = (d.2 : Int)) ∧ (∀ k s : Nat, M[k]? = some s → (W (27 + k)).toInt = (s : Int)) ∧ (∀ k, k < 5 → W k = V k)
theorem pr_b {mi mk mj mq m0 : MI} {D : List (Nat × Nat)} {M : List Nat} {dc mc : Nat} {x y : Int32} (hdc : D.length = dc) (hM : M.length = mc) (h10 : dc ≤ 10) (h5 : mc ≤ 5) (hx : x.toInt = (dc : Int)) (hy : y.toInt = (mc : Int)) (hd : drR mk D) (hm : drX mk M) (e0 : mk 62 = m0 62)
    (h2 : ∀ j, j < 2 * dc → mj 62 (6 + j) = mk 71 j) (h3 : ∀ j, (j < 6 ∨ 6 + 2 * dc ≤ j) → mj 62 j = (u2 (u2 mk 62 32 0) 62 5 x) 62 j) (q2 : ∀ j, j < mc → mq 62 (27 + j) = mk 72 j) (q3 : ∀ j, (j < 27 ∨ 27 + mc ≤ j) → mq 62 j = (u2 mj 62 26 y) 62 j) : prB (m0 62) (mq 62) D M := by
  refine ⟨?_, ?_, ?_, fun k d h => ?_, fun k s h => ?_, fun k h => ?_⟩
  · rw [q3 5 (by omega), u2_n (by omega), h3 5 (by omega), u2_s, hdc]; exact hx
  · rw [q3 26 (by omega), u2_s, hM]; exact hy
  · rw [q3 32 (by omega), u2_n (by omega), h3 32 (by omega), u2_n (by omega), u2_s]
  · have hk := (List.getElem?_eq_some_iff.mp h).1
    have h1 := hd k d h
    rw [q3 (6 + 2 * k) (by omega), u2_n (by omega), h2 (2 * k) (by omega), q3 (7 + 2 * k) (by omega), u2_n (by omega), show 7 + 2 * k = 6 + (2 * k + 1) by omega, h2 (2 * k + 1) (by omega)]
    exact h1
  · have hk := (List.getElem?_eq_some_iff.mp h).1
    rw [q2 k (by omega)]
    exact hm k s h
  · rw [q3 k (by omega), u2_n (by omega), h3 k (by omega), u2_n (by omega), u2_n (by omega), e0]
end MO25
