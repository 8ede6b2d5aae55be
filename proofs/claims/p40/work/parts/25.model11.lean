section MO11
/-- the carriers, and one more -/
def DVO (V : Nat → Int32) (n : Nat) (c l : Int) : RD := ((V 0).toInt.toNat, (V 1).toInt, (V 2).toInt, (fun k => if k < n then (V (6 + 2 * k)).toInt else c), (fun k => if k < n then (V (7 + 2 * k)).toInt else l))
def opP (V : Nat → Int32) (n : Nat) (l : Int) (c : Nat) : Prop := (∀ j, j < n → (V (6 + 2 * j)).toInt ≠ (c : Int)) ∧ ClR (DVO V n c l) (V 3).toInt (V 4).toInt (n + 1)
noncomputable def opS (V : Nat → Int32) (n : Nat) (l : Int) : Nat → Int64
  | 0 => 0
  | c + 1 => opS V n l c ||| ifp (opP V n l c) ((1 : Int64) <<< ((nI c).toInt64 &&& 63)) 0
theorem opS_y {V : Nat → Int32} {n c : Nat} {l : Int} {x : Int32} (hx : x.toInt = (c : Int)) (h : opP V n l c) : opS V n l (c + 1) = opS V n l c ||| ((1 : Int64) <<< (x.toInt64 &&& 63)) := by rw [opS, ifp_t h, tI_nIx hx]
theorem opS_n {V : Nat → Int32} {n c : Nat} {l : Int} (h : ¬ opP V n l c) : opS V n l (c + 1) = opS V n l c ||| 0 := by rw [opS, ifp_f h]
theorem RowM_O {mj : MI} {V : Nat → Int32} {n c : Nat} {l : Int} (hw : WFV V) (hn : (V 5).toInt = (n : Int)) (hc : c < 64) (hl : 0 ≤ l ∧ l ≤ 60) (h : ∀ k, k < n → mj 65 k = V (6 + 2 * k) ∧ mj 66 k = V (7 + 2 * k)) (h5 : (mj 65 n).toInt = (c : Int)) (h6 : (mj 66 n).toInt = l) : RowM mj (DVO V n c l) (n + 1) := by
  intro k hk
  show ((mj 65 k).toInt = (if k < n then (V (6 + 2 * k)).toInt else (c : Int)) ∧ 0 ≤ (if k < n then (V (6 + 2 * k)).toInt else (c : Int)) ∧ (if k < n then (V (6 + 2 * k)).toInt else (c : Int)) ≤ 63) ∧ ((mj 66 k).toInt = (if k < n then (V (7 + 2 * k)).toInt else l) ∧ 0 ≤ (if k < n then (V (7 + 2 * k)).toInt else l) ∧ (if k < n then (V (7 + 2 * k)).toInt else l) ≤ 60)
  rcases Nat.lt_or_ge k n with q | q
  · have h1 := hw.2.2.1 k (by omega)
    rw [if_pos q, if_pos q, (h k q).1, (h k q).2]
    exact ⟨⟨rfl, h1.1.1, h1.1.2⟩, ⟨rfl, h1.2.1, h1.2.2⟩⟩
  · have e : k = n := by omega
    subst e
    rw [if_neg (by omega), if_neg (by omega)]
    exact ⟨⟨h5, by omega, by omega⟩, ⟨h6, hl.1, hl.2⟩⟩
theorem SetM_O {mj : MI} {V : Nat → Int32} {n : Nat} {c l : Int} (h : SetM mj (DV V)) : SetM mj (DVO V n c l) := SetM_e (by simp only [DV, DVO]) (by simp only [DV, DVO]) (by simp only [DV, DVO]) h
end MO11
