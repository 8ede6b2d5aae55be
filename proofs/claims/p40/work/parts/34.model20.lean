section MO20
/-- the byte at p of a text of length N, -1 behind it -/
def hV (row : Nat → Int32) (N p : Nat) : Int32 := if p < N then row p else -1
def tX (row : Nat → Int32) (N p : Nat) : Int := if p < N then (row p).toInt else -1
theorem hV_t {row : Nat → Int32} {N p : Nat} : (hV row N p).toInt = tX row N p := by unfold hV tX; split <;> rfl
theorem hV_y {row : Nat → Int32} {N p : Nat} (h : p < N) : row p = hV row N p := by unfold hV; rw [if_pos h]
theorem hV_n {row : Nat → Int32} {N p : Nat} (h : ¬ p < N) : (-1 : Int32) = hV row N p := by unfold hV; rw [if_neg h]
def KF (L : List Nat) (mi mj : MI) : Prop := ∀ k, k ∉ L → mj 61 k = mi 61 k
theorem KF.r {L : List Nat} {mi : MI} : KF L mi mi := fun _ _ => rfl
theorem KF.u {L : List Nat} {mi mj : MI} {k : Nat} {v : Int32} (h : KF L mi mj) (hk : k ∈ L) : KF L mi (u2 mj 61 k v) := fun j hj => (u2_n (Or.inr (fun e => hj (by rw [e]; exact hk)))).trans (h j hj)
theorem KF.p {L : List Nat} {mi mj : MI} {p k : Nat} {v : Int32} (h : KF L mi mj) (hp : p ≠ 61) : KF L mi (u2 mj p k v) := fun j hj => (u2_n (Or.inl (fun e => hp e.symm))).trans (h j hj)
theorem KF.t {L M N : List Nat} {a b c : MI} (h : KF L a b) (g : KF M b c) (h1 : ∀ k, k ∈ L → k ∈ N) (h2 : ∀ k, k ∈ M → k ∈ N) : KF N a c := fun k hk => (g k (fun q => hk (h2 k q))).trans (h k (fun q => hk (h1 k q)))
def dg (v : Int) : Prop := 48 ≤ v ∧ v ≤ 57
/-- how many digits a number has (two at most), what the first i of them say, and whether it is one -/
def rdI (t : Nat → Int) (p : Nat) : Nat := if 48 ≤ t p ∧ t p ≤ 57 then (if 48 ≤ t (p + 1) ∧ t (p + 1) ≤ 57 then 2 else 1) else 0
def rdV (t : Nat → Int) (p : Nat) : Nat → Nat
  | 0 => 0
  | i + 1 => 10 * rdV t p i + (t (p + i) - 48).toNat
def rdO (t : Nat → Int) (p : Nat) : Prop := 0 < rdI t p ∧ ¬ dg (t (p + rdI t p))
theorem rdI_e {t : Nat → Int} {p i : Nat} (hi : i ≤ 2) (hd : ∀ j, j < i → dg (t (p + j))) (he : i = 2 ∨ ¬ dg (t (p + i))) : rdI t p = i := by
  unfold rdI
  match i, hi, hd, he with
  | 0, _, hd, he => exact if_neg (fun q => he.elim (fun z => absurd z (by omega)) (fun z => z q))
  | 1, _, hd, he =>
    rw [if_pos (show 48 ≤ t p ∧ t p ≤ 57 from hd 0 (by omega)), if_neg (show ¬ (48 ≤ t (p + 1) ∧ t (p + 1) ≤ 57) from fun q => he.elim (fun z => absurd z (by omega)) (fun z => z q))]
  | 2, _, hd, he => rw [if_pos (show 48 ≤ t p ∧ t p ≤ 57 from hd 0 (by omega)), if_pos (show 48 ≤ t (p + 1) ∧ t (p + 1) ≤ 57 from hd 1 (by omega))]
theorem rdI_le (t : Nat → Int) (p : Nat) : rdI t p ≤ 2 := by unfold rdI; split; split; all_goals omega
theorem rdI_d {t : Nat → Int} {p : Nat} : ∀ j, j < rdI t p → dg (t (p + j)) := by
  intro j hj
  unfold rdI at hj
  split at hj
  · rename_i h1
    split at hj
    · rename_i h2
      rcases Nat.eq_zero_or_pos j with q | q
      · subst q; exact h1
      · have e : j = 1 := by omega
        subst e; exact h2
    · have e : j = 0 := by omega
      subst e; exact h1
  · omega
theorem rdV_le {t : Nat → Int} {p : Nat} : ∀ {i : Nat}, i ≤ 2 → (∀ j, j < i → dg (t (p + j))) → rdV t p i ≤ 99 ∧ (i ≤ 1 → rdV t p i ≤ 9)
  | 0, _, _ => ⟨by rw [rdV]; omega, fun _ => by rw [rdV]; omega⟩
  | 1, _, hd => by
    have := hd 0 (by omega)
    unfold dg at this
    rw [rdV, rdV]
    constructor
    · omega
    · intro _; omega
  | 2, _, hd => by
    have h1 := (rdV_le (t := t) (p := p) (i := 1) (by omega) (fun j hj => hd j (by omega))).2 (by omega)
    have := hd 1 (by omega)
    unfold dg at this
    rw [rdV]
    constructor
    · omega
    · intro h; omega
theorem tX_lt {row : Nat → Int32} {N p : Nat} (h : tX row N p ≠ -1) : p < N := by
  unfold tX at h
  split at h
  · assumption
  · exact absurd rfl h
theorem dg_lt {row : Nat → Int32} {N p : Nat} (h : dg (tX row N p)) : p < N := by
  have h2 : tX row N p ≠ -1 := by unfold dg at h; omega
  exact tX_lt h2
theorem rdI_N {row : Nat → Int32} {N p : Nat} (hp : p ≤ N) : p + rdI (tX row N) p ≤ N := by
  rcases Nat.eq_zero_or_pos (rdI (tX row N) p) with q | q
  · omega
  · have := dg_lt (rdI_d (t := tX row N) (p := p) (rdI (tX row N) p - 1) (by omega))
    omega
theorem dg_v {t : Nat → Int} {p i : Nat} (h : dg (t (p + i))) : ((rdV t p (i + 1) : Nat) : Int) = 10 * (rdV t p i : Int) + t (p + i) - 48 := by
  unfold dg at h
  rw [rdV]; omega
end MO20
