section MO10
/-- carriers that stay when those of s go -/
def keepL (n s : Nat) : List Nat := (List.range n).filter (fun c => !s.testBit c)
theorem keepL_s {n s : Nat} : keepL (n + 1) s = keepL n s ++ (if s.testBit n then [] else [n]) := by
  unfold keepL
  rw [List.range_succ, List.filter_append]
  congr 1
  by_cases h : s.testBit n = true <;> simp [h]
theorem keepL_t {n s : Nat} (h : s.testBit n = true) : keepL (n + 1) s = keepL n s := by rw [keepL_s, if_pos h, List.append_nil]
theorem keepL_f {n s : Nat} (h : ¬ s.testBit n = true) : keepL (n + 1) s = keepL n s ++ [n] := by rw [keepL_s, if_neg h]
theorem keepL_len (n s : Nat) : (keepL n s).length ≤ n := by
  have h := List.length_filter_le (fun c => !s.testBit c) (List.range n)
  simpa [keepL] using h
theorem keepL_in {n s c : Nat} (h : c ∈ keepL n s) : c < n := List.mem_range.mp (List.mem_filter.mp h).1
/-- rows by a list of carriers -/
def DVL (V : Nat → Int32) (L : List Nat) : RD := ((V 0).toInt.toNat, (V 1).toInt, (V 2).toInt, (fun k => (V (6 + 2 * L.getD k 0)).toInt), (fun k => (V (7 + 2 * L.getD k 0)).toInt))
def rowsL (mi : MI) (V : Nat → Int32) (L : List Nat) : Prop := ∀ k c, L[k]? = some c → mi 65 k = V (6 + 2 * c) ∧ mi 66 k = V (7 + 2 * c)
theorem RowM_L {mj : MI} {V : Nat → Int32} {n : Nat} {L : List Nat} (hw : WFV V) (hn : (V 5).toInt = (n : Int)) (hL : ∀ c, c ∈ L → c < n) (h : rowsL mj V L) : RowM mj (DVL V L) L.length := by
  intro k hk
  have hc : L[k]? = some (L[k]) := List.getElem?_eq_getElem hk
  have h0 := hL _ (List.mem_of_getElem? hc)
  have h1 := hw.2.2.1 (L[k]) (by omega)
  have e : L.getD k 0 = L[k] := by rw [List.getD_eq_getElem?_getD, hc]; rfl
  have h2 := h k _ hc
  refine ⟨⟨?_, ?_⟩, ⟨?_, ?_⟩⟩
  · show (mj 65 k).toInt = (V (6 + 2 * L.getD k 0)).toInt
    rw [e, h2.1]
  · show 0 ≤ (V (6 + 2 * L.getD k 0)).toInt ∧ (V (6 + 2 * L.getD k 0)).toInt ≤ 63
    rw [e]; exact h1.1
  · show (mj 66 k).toInt = (V (7 + 2 * L.getD k 0)).toInt
    rw [e, h2.2]
  · show 0 ≤ (V (7 + 2 * L.getD k 0)).toInt ∧ (V (7 + 2 * L.getD k 0)).toInt ≤ 60
    rw [e]; exact h1.2
theorem SetM_e {mj : MI} {D D' : RD} (h1 : D'.1 = D.1) (h2 : D'.2.1 = D.2.1) (h3 : D'.2.2.1 = D.2.2.1) (h : SetM mj D) : SetM mj D' := by
  unfold SetM at h ⊢
  rw [h1, h2, h3]
  exact h
theorem SetM_L {mj : MI} {V : Nat → Int32} {L : List Nat} (h : SetM mj (DV V)) : SetM mj (DVL V L) := SetM_e (by simp only [DV, DVL]) (by simp only [DV, DVL]) (by simp only [DV, DVL]) h
theorem rowsL_add {mi : MI} {V : Nat → Int32} {L : List Nat} {c : Nat} (h : rowsL mi V L) : rowsL (u2 (u2 mi 65 L.length (V (6 + 2 * c))) 66 L.length (V (7 + 2 * c))) V (L ++ [c]) := by
  intro k x hx
  rcases Nat.lt_or_ge k L.length with hl | hl
  · rw [List.getElem?_append_left hl] at hx
    rw [u2_n (by omega), u2_n (by omega), u2_n (by omega), u2_n (by omega)]
    exact h k x hx
  · rw [List.getElem?_append_right hl] at hx
    have h1 : k - L.length < 1 := (List.getElem?_eq_some_iff.mp hx).1
    have h2 : k = L.length := by omega
    subst h2
    rw [Nat.sub_self] at hx
    cases hx
    rw [u2_n (by omega), u2_s, u2_s]
    exact ⟨rfl, rfl⟩
/-- the least positive value over a set of pairs, -1 without one -/
def mnP (f : Nat → Nat → Int) (S : Nat → Nat → Prop) (x : Int) : Prop := (x = -1 ∧ ∀ a b, S a b → f a b ≤ 0) ∨ ((∃ a b, S a b ∧ 0 < f a b ∧ x = f a b) ∧ ∀ a b, S a b → 0 < f a b → x ≤ f a b)
theorem mnP_y {f : Nat → Nat → Int} {S S' : Nat → Nat → Prop} {x : Int} {a b : Nat} (h : mnP f S x) (hS : ∀ a1 b1, S' a1 b1 ↔ S a1 b1 ∨ (a1 = a ∧ b1 = b)) (h1 : 0 < f a b) (h2 : x = -1 ∨ f a b < x) : mnP f S' (f a b) := by
  refine Or.inr ⟨⟨a, b, (hS a b).mpr (Or.inr ⟨rfl, rfl⟩), h1, rfl⟩, fun a1 b1 hs h3 => ?_⟩
  rcases (hS a1 b1).mp hs with q | ⟨rfl, rfl⟩
  · rcases h with z | z
    · have := z.2 a1 b1 q; omega
    · have := z.2 a1 b1 q h3; obtain ⟨⟨a2, b2, -, h5, h6⟩, -⟩ := z; omega
  · exact Int.le_refl _
theorem mnP_n {f : Nat → Nat → Int} {S S' : Nat → Nat → Prop} {x : Int} {a b : Nat} (h : mnP f S x) (hS : ∀ a1 b1, S' a1 b1 ↔ S a1 b1 ∨ (a1 = a ∧ b1 = b)) (h1 : f a b ≤ 0 ∨ (x ≠ -1 ∧ x ≤ f a b)) : mnP f S' x := by
  rcases h with z | z
  · refine Or.inl ⟨z.1, fun a1 b1 hs => ?_⟩
    rcases (hS a1 b1).mp hs with q | ⟨rfl, rfl⟩
    · exact z.2 a1 b1 q
    · have := z.1; omega
  · obtain ⟨⟨a2, b2, h4, h5, h6⟩, h7⟩ := z
    refine Or.inr ⟨⟨a2, b2, (hS _ _).mpr (Or.inl h4), h5, h6⟩, fun a1 b1 hs h3 => ?_⟩
    rcases (hS a1 b1).mp hs with q | ⟨rfl, rfl⟩
    · exact h7 a1 b1 q h3
    · omega
theorem mnP_c {f : Nat → Nat → Int} {S S' : Nat → Nat → Prop} {x : Int} (h : mnP f S x) (hS : ∀ a b, S' a b ↔ S a b) : mnP f S' x := by
  have e : S' = S := by funext a b; exact propext (hS a b)
  rw [e]; exact h
/-- the smallest set without which the others are clean -/
def rmS (V : Nat → Int32) (n : Nat) (best : Nat) : Prop := best ≤ 2 ^ n - 1 ∧ ClR (DVL V (keepL n best)) (V 3).toInt (V 4).toInt (keepL n best).length ∧ ∀ s, s ≤ 2 ^ n - 1 → ClR (DVL V (keepL n s)) (V 3).toInt (V 4).toInt (keepL n s).length → popc best < popc s ∨ (popc best = popc s ∧ best ≤ s)
/-- .. as far as the sets from t on have been seen -/
def rmT (V : Nat → Int32) (n t best : Nat) : Prop := (best ≤ 2 ^ n - 1 ∧ t ≤ best ∧ ClR (DVL V (keepL n best)) (V 3).toInt (V 4).toInt (keepL n best).length) ∧ ∀ s, t ≤ s → s ≤ 2 ^ n - 1 → ClR (DVL V (keepL n s)) (V 3).toInt (V 4).toInt (keepL n s).length → popc best < popc s ∨ (popc best = popc s ∧ best ≤ s)
theorem keepL_all : ∀ n, n < 11 → keepL n (2 ^ n - 1) = [] := by decide
theorem rmT_0 {V : Nat → Int32} {n : Nat} (hn : n ≤ 10) : rmT V n (2 ^ n) (2 ^ n - 1) ∨ True := Or.inr trivial
theorem ClR_0 {D : RD} {g sp : Int} : ClR D g sp 0 := fun a h => absurd h (Nat.not_lt_zero a)
theorem rmT_y {V : Nat → Int32} {n t best : Nat} (h : rmT V n (t + 1) best) (ht : t ≤ 2 ^ n - 1) (h1 : popc t ≤ popc best) (h2 : ClR (DVL V (keepL n t)) (V 3).toInt (V 4).toInt (keepL n t).length) : rmT V n t t := by
  refine ⟨⟨ht, Nat.le_refl _, h2⟩, fun s hs hs2 hc => ?_⟩
  rcases Nat.lt_or_ge t s with q | q
  · have := h.2 s (by omega) hs2 hc
    omega
  · have e : s = t := by omega
    rw [e]; exact Or.inr ⟨rfl, Nat.le_refl _⟩
theorem rmT_n {V : Nat → Int32} {n t best : Nat} (h : rmT V n (t + 1) best) (h1 : popc best < popc t ∨ ¬ ClR (DVL V (keepL n t)) (V 3).toInt (V 4).toInt (keepL n t).length) : rmT V n t best := by
  refine ⟨⟨h.1.1, by have := h.1.2.1; omega, h.1.2.2⟩, fun s hs hs2 hc => ?_⟩
  rcases Nat.lt_or_ge t s with q | q
  · exact h.2 s (by omega) hs2 hc
  · have e : s = t := by omega
    rw [e] at hc ⊢
    rcases h1 with h1 | h1
    · exact Or.inl h1
    · exact absurd hc h1
/-- before the first set: the whole set stands, it leaves nothing -/
def rmB9 (V : Nat → Int32) (n t best : Nat) : Prop := (t = 2 ^ n ∧ best = 2 ^ n - 1) ∨ rmT V n t best
theorem rmB_y {V : Nat → Int32} {n t best : Nat} (h : rmB9 V n (t + 1) best) (ht : t ≤ 2 ^ n - 1) (h1 : popc t ≤ popc best) (h2 : ClR (DVL V (keepL n t)) (V 3).toInt (V 4).toInt (keepL n t).length) : rmB9 V n t t := by
  rcases h with ⟨q1, q2⟩ | q
  · refine Or.inr ⟨⟨ht, Nat.le_refl _, h2⟩, fun s hs hs2 hc => ?_⟩
    have e : s = t := by omega
    rw [e]; exact Or.inr ⟨rfl, Nat.le_refl _⟩
  · exact Or.inr (rmT_y q ht h1 h2)
theorem rmB_n {V : Nat → Int32} {n t best : Nat} (hn : n ≤ 10) (h : rmB9 V n (t + 1) best) (h1 : popc best < popc t ∨ ¬ ClR (DVL V (keepL n t)) (V 3).toInt (V 4).toInt (keepL n t).length) : rmB9 V n t best := by
  rcases h with ⟨q1, q2⟩ | q
  · exfalso
    have e : t = 2 ^ n - 1 := by omega
    rw [q2, e] at h1
    rcases h1 with h1 | h1
    · exact absurd h1 (Nat.lt_irrefl _)
    · apply h1
      rw [keepL_all n (by omega)]
      exact ClR_0
  · exact Or.inr (rmT_n q h1)
theorem rmB_best {V : Nat → Int32} {n t best : Nat} (h : rmB9 V n t best) : best ≤ 2 ^ n - 1 := by
  rcases h with ⟨q1, q2⟩ | q
  · omega
  · exact q.1.1
theorem rmB_end {V : Nat → Int32} {n best : Nat} (h : rmB9 V n 0 best) : rmS V n best := by
  rcases h with ⟨q1, q2⟩ | q
  · have := Nat.two_pow_pos n; omega
  · exact ⟨q.1.1, q.1.2.2, fun s hs hc => q.2 s (Nat.zero_le _) hs hc⟩
end MO10
