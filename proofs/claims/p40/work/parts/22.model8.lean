section MO8
/-- what a reading call of the model leaves: its code, its scratch rows -/
def SM (c : Int32) (mi mi9 : MI) : Prop := Fr [61, 65, 66, 67, 68, 69, 70, 71, 72] mi mi9 ∧ mi9 61 2 = mi 61 2 ∧ mi9 61 4 = mi 61 4 ∧ mi9 61 5 = c
theorem Fr.w {F G : List Nat} {a b : MI} (h : Fr F a b) (hF : ∀ p, p ∈ F → p ∈ G) : Fr G a b := fun p hp => h p (fun q => hp (hF p q))
theorem SM_0 {mi : MI} {c : Int32} : SM c mi (u2 mi 61 5 c) := ⟨Fr.rfl'.u (by decide), u2_n (by omega), u2_n (by omega), u2_s _ _ _ _⟩
theorem SM_l {mi mj : MI} {c : Int32} (h : Fr [61, 65, 66, 67] (u2 mi 61 5 c) mj) (h2 : ∀ k, k ≠ 9 → mj 61 k = (u2 mi 61 5 c) 61 k) : SM c mi mj :=
  ⟨(Fr.trans (F := [61]) (Fr.rfl'.u (by decide)) h (by decide) (by decide)), by rw [h2 2 (by decide), u2_n (by omega)], by rw [h2 4 (by decide), u2_n (by omega)], by rw [h2 5 (by decide), u2_s]⟩
/-- the products of a block -/
noncomputable def prV (V : Nat → Int32) (s n : Nat) : List Q4 := stK (DV V) s n 3
theorem prV_len {V : Nat → Int32} {s n : Nat} (hn : n ≤ 10) : (prV V s n).length ≤ 540 := Nat.le_trans (stK_len _ _ _ _) (cK_le n (by omega))
theorem stC_in {D : RD} {s kd a b : Nat} : ∀ {c : Nat} {q : Q4}, q ∈ stC D s kd a b c → Sg D q.1 q.2.1 q.2.2.1 q.2.2.2
  | 0, q, h => by simp [stC] at h
  | c + 1, q, h => by
    rw [stC] at h
    rcases List.mem_append.mp h with h | h
    · exact stC_in h
    · rcases Classical.em (vC s kd a b c ∧ Sg D kd a b c) with z | z
      · rw [ifp_t z] at h
        rw [List.mem_singleton.mp h]
        exact z.2
      · rw [ifp_f z] at h
        cases h
theorem stB_in {D : RD} {s n kd a : Nat} : ∀ {b : Nat} {q : Q4}, q ∈ stB D s n kd a b → Sg D q.1 q.2.1 q.2.2.1 q.2.2.2
  | 0, q, h => by simp [stB] at h
  | b + 1, q, h => by
    rw [stB] at h
    rcases List.mem_append.mp h with h | h
    · exact stB_in h
    · rcases Classical.em (vB s kd a b) with z | z
      · rw [ifp_t z] at h
        exact stC_in h
      · rw [ifp_f z] at h
        cases h
theorem stA_in {D : RD} {s n kd : Nat} : ∀ {a : Nat} {q : Q4}, q ∈ stA D s n kd a → Sg D q.1 q.2.1 q.2.2.1 q.2.2.2
  | 0, q, h => by simp [stA] at h
  | a + 1, q, h => by
    rw [stA] at h
    rcases List.mem_append.mp h with h | h
    · exact stA_in h
    · exact stB_in h
theorem stK_in {D : RD} {s n : Nat} : ∀ {kd : Nat} {q : Q4}, q ∈ stK D s n kd → Sg D q.1 q.2.1 q.2.2.1 q.2.2.2
  | 0, q, h => by simp [stK] at h
  | kd + 1, q, h => by
    rw [stK] at h
    rcases List.mem_append.mp h with h | h
    · exact stK_in h
    · exact stA_in h
theorem prV_in {V : Nat → Int32} {s n : Nat} : ∀ (i : Nat) (q : Q4), (prV V s n)[i]? = some q → 0 ≤ pCh (DV V) q.1 q.2.1 q.2.2.1 q.2.2.2 ∧ pCh (DV V) q.1 q.2.1 q.2.2.1 q.2.2.2 ≤ 63 := fun i q h => (stK_in (List.mem_of_getElem? h)).1
/-- the channels of products as bits -/
noncomputable def foL (D : RD) : List Q4 → Int64
  | [] => 0
  | q :: L => ((1 : Int64) <<< ((Int32.ofInt (pCh D q.1 q.2.1 q.2.2.1 q.2.2.2)).toInt64 &&& 63)) ||| foL D L
noncomputable def foA (D : RD) (L : List Q4) : Nat → Int64
  | 0 => 0
  | i + 1 => foA D L i ||| ((1 : Int64) <<< ((Int32.ofInt (match L[i]? with | some q => pCh D q.1 q.2.1 q.2.2.1 q.2.2.2 | none => 0)).toInt64 &&& 63))
theorem foA_s {D : RD} {L : List Q4} {i : Nat} {q : Q4} {x : Int32} (h : L[i]? = some q) (hx : x.toInt = pCh D q.1 q.2.1 q.2.2.1 q.2.2.2) : foA D L (i + 1) = foA D L i ||| ((1 : Int64) <<< (x.toInt64 &&& 63)) := by
  rw [foA, h]
  simp only [← hx, Int32.ofInt_toInt]
/-- how many products lie near a channel -/
noncomputable def hcA (D : RD) (g x : Int) (L : List Q4) : Nat → Nat
  | 0 => 0
  | i + 1 => hcA D g x L i + (match L[i]? with | some q => ifp (-g ≤ pCh D q.1 q.2.1 q.2.2.1 q.2.2.2 - x ∧ pCh D q.1 q.2.1 q.2.2.1 q.2.2.2 - x ≤ g) 1 0 | none => 0)
theorem hcA_t {D : RD} {g x : Int} {L : List Q4} {i : Nat} {q : Q4} (h : L[i]? = some q) (hc : -g ≤ pCh D q.1 q.2.1 q.2.2.1 q.2.2.2 - x ∧ pCh D q.1 q.2.1 q.2.2.1 q.2.2.2 - x ≤ g) : hcA D g x L (i + 1) = hcA D g x L i + 1 := by rw [hcA, h]; simp only [ifp_t hc]
theorem hcA_f {D : RD} {g x : Int} {L : List Q4} {i : Nat} {q : Q4} (h : L[i]? = some q) (hc : ¬ (-g ≤ pCh D q.1 q.2.1 q.2.2.1 q.2.2.2 - x ∧ pCh D q.1 q.2.1 q.2.2.1 q.2.2.2 - x ≤ g)) : hcA D g x L (i + 1) = hcA D g x L i + 0 := by rw [hcA, h]; simp only [ifp_f hc]
theorem hcA_le {D : RD} {g x : Int} {L : List Q4} : ∀ i, hcA D g x L i ≤ i
  | 0 => Nat.le_refl _
  | i + 1 => by
    have ih := hcA_le (D := D) (g := g) (x := x) (L := L) i
    cases h : L[i]? with
    | none => rw [hcA, h]; simp only []; omega
    | some q =>
      rcases Classical.em (-g ≤ pCh D q.1 q.2.1 q.2.2.1 q.2.2.2 - x ∧ pCh D q.1 q.2.1 q.2.2.1 q.2.2.2 - x ≤ g) with z | z
      · rw [hcA_t h z]; omega
      · rw [hcA_f h z]; omega
/-- hits on the first carriers -/
noncomputable def hsA (V : Nat → Int32) (L : List Q4) : Nat → Nat
  | 0 => 0
  | c + 1 => hsA V L c + hcA (DV V) (V 3).toInt (V (6 + 2 * c)).toInt L L.length
theorem hsA_le {V : Nat → Int32} {L : List Q4} (hL : L.length ≤ 540) : ∀ c, hsA V L c ≤ 540 * c
  | 0 => Nat.le_refl _
  | c + 1 => by
    have ih := hsA_le (V := V) hL c
    have h := hcA_le (D := DV V) (g := (V 3).toInt) (x := (V (6 + 2 * c)).toInt) (L := L) L.length
    rw [hsA]; omega
theorem SM_l2 {mi mj : MI} {c : Int32} (h : Fr [61, 65, 66, 67] mi mj) (h2 : ∀ k, k ≠ 9 → mj 61 k = mi 61 k) : SM c mi (u2 mj 61 5 c) :=
  ⟨(h.w (by decide)).u (by decide), by rw [u2_n (by omega), h2 2 (by decide)], by rw [u2_n (by omega), h2 4 (by decide)], u2_s _ _ _ _⟩
end MO8
