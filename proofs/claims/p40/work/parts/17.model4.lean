section MO4

/-- the channels of n carriers, as bits -/
def chS (f : Nat → Int32) : Nat → Int64
  | 0 => 0
  | n + 1 => chS f n ||| ((1 : Int64) <<< ((f n).toInt64 &&& 63))
theorem chS_c {f g : Nat → Int32} : ∀ {n : Nat}, (∀ j, j < n → f j = g j) → chS f n = chS g n
  | 0, _ => rfl
  | n + 1, h => by rw [chS, chS, chS_c (fun j hj => h j (by omega)), h n (by omega)]
end MO4
