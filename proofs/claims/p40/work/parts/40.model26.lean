section MO26
def hF9 (h : Int64) (L : List Int32) : Int64 := L.foldl (fun h v => 31 * h + v.toInt64) h
theorem hF9_add {h x y : Int64} {L : List Int32} {a b : Int32} (hx : x = hF9 h L) (e : a = b) (hy : y = 31 * x + a.toInt64) : y = hF9 h (L ++ [b]) := by
  subst e
  unfold hF9 at hx ⊢
  rw [List.foldl_append, ← hx]; exact hy
theorem mp_s {A : List Int32} {f : Nat → Int32} {k : Nat} : (A ++ (List.range k).map f) ++ [f k] = A ++ (List.range (k + 1)).map f := by rw [List.range_succ, List.map_append, List.append_assoc]; rfl
def FK (ml mk : MJ) : Prop := ∀ p k, (p ≠ 61 ∨ k ≠ 22) → mk p k = ml p k
theorem FK.r {ml : MJ} : FK ml ml := fun _ _ _ => rfl
theorem FK.u {ml mk : MJ} {v : Int64} (h : FK ml mk) : FK ml (u2 mk 61 22 v) := fun p k hp => (u2_n (by omega)).trans (h p k hp)
theorem FK.t {ml mk mn : MJ} (h : FK ml mk) (h2 : FK mk mn) : FK ml mn := fun p k hp => (h2 p k hp).trans (h p k hp)
end MO26
