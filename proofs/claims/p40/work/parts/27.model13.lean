section MO13
/-- the tests: carriers, channel -/
def tA (V : Nat → Int32) (t : Nat) : Nat := (V (33 + 3 * t)).toInt.toNat
def tC (V : Nat → Int32) (t : Nat) : Nat := (V (34 + 3 * t)).toInt.toNat
theorem WFV_t {V : Nat → Int32} {n t : Nat} (h : WFV V) (hn : (V 5).toInt = (n : Int)) (h10 : n ≤ 10) (ht : (t : Int) < (V 32).toInt) : (V (33 + 3 * t)).toInt = (tA V t : Int) ∧ tA V t < 1024 ∧ (V (34 + 3 * t)).toInt = (tC V t : Int) ∧ tC V t < 64 ∧ (V (35 + 3 * t) = 0 ∨ V (35 + 3 * t) = 1) := by
  have h1 := h.2.2.2.2.2 t ht
  have h2 := Nat.pow_le_pow_right (show 0 < 2 by omega) h10
  have h3 : (V 5).toInt.toNat = n := by omega
  rw [h3] at h1
  unfold tA tC
  exact ⟨by omega, by omega, by omega, by omega, h1.2.2⟩
def fitT (V : Nat → Int32) (n nm s t : Nat) : Prop := (hbS V n (tA V t) (tC V t) nm &&& s) ≠ 0 ↔ V (35 + 3 * t) = 1
def fitN (V : Nat → Int32) (n nm s k : Nat) : Prop := ∀ t, t < k → fitT V n nm s t
def fxP (V : Nat → Int32) (n nm s k : Nat) (x : Int32) : Prop := (x = 1 ∧ fitN V n nm s k) ∨ (x = 0 ∧ ¬ fitN V n nm s k)
theorem fx_0 {V : Nat → Int32} {n nm s k : Nat} {x : Int32} (h : fxP V n nm s k x) (c : x.toInt = 0) : fxP V n nm s (k + 1) 0 := by
  rcases h with h | h
  · rw [h.1] at c; exact absurd c (by decide)
  · exact Or.inr ⟨rfl, fun q => h.2 (fun t ht => q t (by omega))⟩
theorem fx_n {V : Nat → Int32} {n nm s k : Nat} (h : ¬ fitT V n nm s k) : fxP V n nm s (k + 1) 0 := Or.inr ⟨rfl, fun q => h (q k (by omega))⟩
theorem fx_y {V : Nat → Int32} {n nm s k : Nat} {x : Int32} (h : fxP V n nm s k x) (c : x.toInt ≠ 0) (hT : fitT V n nm s k) : fxP V n nm s (k + 1) 1 := by
  rcases h with h | h
  · exact Or.inl ⟨rfl, fun t ht => by
      rcases Nat.lt_or_ge t k with q | q
      · exact h.2 t q
      · have e : t = k := by omega
        rw [e]; exact hT⟩
  · rw [h.1] at c; exact absurd (show (0 : Int32).toInt = 0 from rfl) c
theorem fx_1 {V : Nat → Int32} {n nm s k : Nat} {x : Int32} (h : fxP V n nm s k x) (c : x.toInt ≠ 0) : fitN V n nm s k := by
  rcases h with q | q
  · exact q.2
  · exact absurd (show x.toInt = 0 by rw [q.1]; rfl) c
theorem fx_2 {V : Nat → Int32} {n nm s k : Nat} {x : Int32} (h : fxP V n nm s k x) (c : x.toInt = 0) : ¬ fitN V n nm s k := by
  rcases h with q | q
  · rw [q.1] at c; exact absurd c (by decide)
  · exact q.2
theorem tI_1 {x : Int32} (h : x.toInt = 1) : x = 1 := Int32.toInt_inj.mp h
theorem fT_pp {q : Nat} {v : Int32} (a : (q : Int) ≠ 0) (b : v.toInt = 1) : q ≠ 0 ↔ v = 1 := ⟨fun _ => tI_1 b, fun _ => by omega⟩
theorem fT_nn {q : Nat} {v : Int32} (a : (q : Int) = 0) (b : v.toInt ≠ 1) : q ≠ 0 ↔ v = 1 := ⟨fun h => absurd a (by omega), fun h => absurd (by rw [h]; rfl) b⟩
theorem fT_pn {q : Nat} {v : Int32} (a : (q : Int) ≠ 0) (b : v.toInt ≠ 1) : ¬ (q ≠ 0 ↔ v = 1) := fun h => b (by rw [h.mp (by omega)]; rfl)
theorem fT_np {q : Nat} {v : Int32} (a : (q : Int) = 0) (b : v.toInt = 1) : ¬ (q ≠ 0 ↔ v = 1) := fun h => h.mpr (tI_1 b) (by omega)
/-- the diagnoses -/
noncomputable def fitL (V : Nat → Int32) (n nm nt : Nat) : Nat → List Nat
  | 0 => []
  | s + 1 => fitL V n nm nt s ++ ifp (fitN V n nm s nt) [s] []
theorem fitL_y {V : Nat → Int32} {n nm nt s : Nat} (h : fitN V n nm s nt) : fitL V n nm nt (s + 1) = fitL V n nm nt s ++ [s] := by rw [fitL, ifp_t h]
theorem fitL_n {V : Nat → Int32} {n nm nt s : Nat} (h : ¬ fitN V n nm s nt) : fitL V n nm nt (s + 1) = fitL V n nm nt s := by rw [fitL, ifp_f h, List.append_nil]
theorem fitL_len (V : Nat → Int32) (n nm nt : Nat) : ∀ s, (fitL V n nm nt s).length ≤ s
  | 0 => Nat.le_refl _
  | s + 1 => by
    have ih := fitL_len V n nm nt s
    rcases Classical.em (fitN V n nm s nt) with h | h
    · rw [fitL_y h, List.length_append]; simp only [List.length_cons, List.length_nil]; omega
    · rw [fitL_n h]; omega
theorem fitL_lt {V : Nat → Int32} {n nm nt : Nat} : ∀ s x, x ∈ fitL V n nm nt s → x < s
  | 0, x, h => by cases h
  | s + 1, x, h => by
    rcases Classical.em (fitN V n nm s nt) with q | q
    · rw [fitL_y q] at h
      rcases List.mem_append.mp h with h | h
      · have := fitL_lt s x h; omega
      · have := List.mem_singleton.mp h; omega
    · rw [fitL_n q] at h
      have := fitL_lt s x h; omega
def lsN (mi : MI) (L : List Nat) : Prop := ∀ k s, L[k]? = some s → mi 70 k = nI s
theorem lsN_add {mi : MI} {L : List Nat} {s : Nat} {v : Int32} (hv : v.toInt = (s : Int)) (h : lsN mi L) : lsN (u2 mi 70 L.length v) (L ++ [s]) := by
  intro k x hx
  rcases Nat.lt_or_ge k L.length with hl | hl
  · rw [List.getElem?_append_left hl] at hx
    rw [u2_n (by omega)]
    exact h k x hx
  · rw [List.getElem?_append_right hl] at hx
    have h1 : k - L.length < 1 := (List.getElem?_eq_some_iff.mp hx).1
    have h2 : k = L.length := by omega
    subst h2
    rw [Nat.sub_self] at hx
    cases hx
    rw [u2_s]
    exact tI_nIx hv
theorem lsN_u {mi : MI} {L : List Nat} {p k : Nat} {v : Int32} (hp : p ≠ 70) (h : lsN mi L) : lsN (u2 mi p k v) L := fun j s hs => (u2_n (Or.inl (fun e => hp e.symm))).trans (h j s hs)
theorem pw_nI : ∀ k, k < 6 → ((1 : Int32) <<< (nI k &&& 31)) = nI (2 ^ k) := by decide +kernel
theorem pw_x {x : Int32} {k : Nat} (h : x.toInt = (k : Int)) (hk : k ≤ 5) : ((1 : Int32) <<< (x &&& 31)) = nI (2 ^ k) := by rw [tI_nIx h]; exact pw_nI k (by omega)
/-- what diagnose leaves -/
def DgS (mi mj : MI) (n nm nt : Nat) : Prop := Fr [61, 65, 66, 67, 69, 70] mi mj ∧ (∀ k, k ≠ 9 → k ≠ 14 → mj 61 k = mi 61 k) ∧ (mj 61 14).toInt = ((fitL (mi 62) n nm nt (2 ^ nm)).length : Int) ∧ lsN mj (fitL (mi 62) n nm nt (2 ^ nm))
def hdS (mi mj : MI) (n nm k : Nat) : Prop := ∀ t, t < k → (mj 69 t).toInt = (hbS (mi 62) n (tA (mi 62) t) (tC (mi 62) t) nm : Int)
theorem hdS_s {mi mj : MI} {n nm k : Nat} {v : Int32} (h : hdS mi mj n nm k) (hv : v.toInt = (hbS (mi 62) n (tA (mi 62) k) (tC (mi 62) k) nm : Int)) : hdS mi (u2 mj 69 k v) n nm (k + 1) := fun t ht => by
  rcases Nat.lt_or_ge t k with q | q
  · rw [u2_n (by omega)]; exact h t q
  · have e : t = k := by omega
    subst e
    rw [u2_s]; exact hv
theorem hdS_c {mi mj mk : MI} {n nm k : Nat} (h : hdS mi mj n nm k) (e : mk 69 = mj 69) : hdS mi mk n nm k := fun t ht => by rw [e]; exact h t ht
end MO13
