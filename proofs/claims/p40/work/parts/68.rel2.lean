section RL2
theorem DR_t0 {m : MI} {V : Nat → Int32} (a : m 1 0 = V 0 ∧ m 1 1 = V 1 ∧ m 1 2 = V 2 ∧ m 1 3 = V 3 ∧ m 1 4 = V 4) (b : m 1 5 = V 5) (c : m 1 8 = V 26) (d : m 1 10 = 0) (e : V 32 = 0) (f : ∀ j : Nat, (j : Int) < (V 5).toInt → m 2 j = V (6 + 2 * j) ∧ m 3 j = V (7 + 2 * j)) (g : ∀ k : Nat, (k : Int) < (V 26).toInt → m 4 k = V (27 + k)) : DR 1 m V := by
  refine ⟨a, ⟨b, c, by rw [d, e]⟩, f, g, fun t ht => ?_⟩
  rw [e] at ht
  have : (0 : Int32).toInt = 0 := rfl
  omega
theorem WFV_t0 {V : Nat → Int32} (h32 : V 32 = 0) (h1 : (0 ≤ (V 0).toInt ∧ (V 0).toInt ≤ 7) ∧ (0 ≤ (V 1).toInt ∧ (V 1).toInt ≤ 300) ∧ (0 ≤ (V 2).toInt ∧ (V 2).toInt ≤ 300) ∧ (0 ≤ (V 3).toInt ∧ (V 3).toInt ≤ 5) ∧ (1 ≤ (V 4).toInt ∧ (V 4).toInt ≤ 10)) (h2 : (0 ≤ (V 5).toInt ∧ (V 5).toInt ≤ 10) ∧ (0 ≤ (V 26).toInt ∧ (V 26).toInt ≤ 5))
    (h3 : ∀ c : Nat, (c : Int) < (V 5).toInt → (0 ≤ (V (6 + 2 * c)).toInt ∧ (V (6 + 2 * c)).toInt ≤ 63) ∧ (0 ≤ (V (7 + 2 * c)).toInt ∧ (V (7 + 2 * c)).toInt ≤ 60))
    (h4 : ∀ c d : Nat, (c : Int) < (V 5).toInt → (d : Int) < (V 5).toInt → V (6 + 2 * c) = V (6 + 2 * d) → c = d)
    (h5 : ∀ k : Nat, (k : Int) < (V 26).toInt → 0 ≤ (V (27 + k)).toInt ∧ (V (27 + k)).toInt < ((2 ^ (V 5).toInt.toNat : Nat) : Int)) : WFV V := by
  have e0 : (0 : Int32).toInt = 0 := rfl
  refine ⟨h1, ⟨h2.1, h2.2, by rw [h32]; omega⟩, h3, h4, h5, fun t ht => ?_⟩
  rw [h32] at ht; omega
theorem p2_mono {a b : Nat} (h : a ≤ b) : (2 ^ a : Nat) ≤ 2 ^ b := Nat.pow_le_pow_right (by decide) h
/-- a carrier more -/
theorem ch_ac {mi mk m9 : MI} {V V' : Nat → Int32} {n : Nat} {c v : Int32} (hw : WFV V) (hD : DR 1 mi V) (hn : (V 5).toInt = (n : Int)) (hn10 : n < 10) (hc : 0 ≤ c.toInt ∧ c.toInt < 64) (hv : 0 ≤ v.toInt ∧ v.toInt ≤ 60) (hk : ∀ j, j < n → V (6 + 2 * j) ≠ c)
    (em : ∀ g, 1 ≤ g → g < 9 → mk g = mi g) (e9 : u2 (u2 (u2 (u2 mk 1 5 (V 5 + 1)) 2 n c) 3 n v) 1 10 0 = m9)
    (v5 : (V' 5).toInt = (n : Int) + 1) (vc : V' (6 + 2 * n) = c) (vv : V' (7 + 2 * n) = v) (v32 : V' 32 = 0) (ve : ∀ k, k ≠ 5 → k ≠ 6 + 2 * n → k ≠ 7 + 2 * n → k ≠ 32 → V' k = V k) : WFV V' ∧ DR 1 m9 V' := by
  obtain ⟨d1, d2, d3, d4, d5⟩ := hD
  have x5 : V' 5 = V 5 + 1 := tI_eq v5 (tI_add hn (show (1 : Int32).toInt = 1 from rfl) (by omega)) rfl
  have e26 : V' 26 = V 26 := ve 26 (by decide) (by omega) (by omega) (by decide)
  constructor
  · refine WFV_t0 v32 ?_ ?_ (fun j hj => ?_) (fun a b ha hb hab => ?_) (fun k hk2 => ?_)
    · rw [ve 0 (by decide) (by omega) (by omega) (by decide), ve 1 (by decide) (by omega) (by omega) (by decide), ve 2 (by decide) (by omega) (by omega) (by decide), ve 3 (by decide) (by omega) (by omega) (by decide), ve 4 (by decide) (by omega) (by omega) (by decide)]; exact hw.1
    · rw [v5, e26]; exact ⟨by omega, hw.2.1.2.1⟩
    · rw [v5] at hj
      rcases Nat.lt_or_ge j n with q | q
      · rw [ve (6 + 2 * j) (by omega) (by omega) (by omega) (by omega), ve (7 + 2 * j) (by omega) (by omega) (by omega) (by omega)]; exact hw.b hn q
      · obtain rfl : j = n := by omega
        rw [vc, vv]; omega
    · rw [v5] at ha hb
      have hh : ∀ j, j < n → V' (6 + 2 * j) = V (6 + 2 * j) := fun j hj => ve (6 + 2 * j) (by omega) (by omega) (by omega) (by omega)
      rcases Nat.lt_or_ge a n with qa | qa
      · rcases Nat.lt_or_ge b n with qb | qb
        · rw [hh a qa, hh b qb] at hab
          exact hw.2.2.2.1 a b (by omega) (by omega) hab
        · obtain rfl : b = n := by omega
          rw [hh a qa, vc] at hab
          exact absurd hab (hk a qa)
      · obtain rfl : a = n := by omega
        rcases Nat.lt_or_ge b a with qb | qb
        · rw [hh b qb, vc] at hab
          exact absurd hab.symm (hk b qb)
        · omega
    · rw [e26] at hk2
      have h26 := hw.2.1.2.1
      rw [ve (27 + k) (by omega) (by omega) (by omega) (by omega), v5]
      have h6 := hw.2.2.2.2.1 k hk2
      have h7 := p2_mono (show (V 5).toInt.toNat ≤ ((n : Int) + 1).toNat by omega)
      omega
  · have r1 : ∀ k, k ≠ 5 → k ≠ 10 → m9 1 k = mi 1 k := fun k a b => by rw [← e9, u2_n (Or.inr b), u2_p (by decide), u2_p (by decide), u2_n (Or.inr a), em 1 (by decide) (by decide)]
    refine DR_t0 ?_ ?_ ?_ (by rw [← e9, u2_s]) v32 (fun j hj => ?_) (fun k hk2 => ?_)
    · rw [r1 0 (by decide) (by decide), r1 1 (by decide) (by decide), r1 2 (by decide) (by decide), r1 3 (by decide) (by decide), r1 4 (by decide) (by decide), ve 0 (by decide) (by omega) (by omega) (by decide), ve 1 (by decide) (by omega) (by omega) (by decide), ve 2 (by decide) (by omega) (by omega) (by decide), ve 3 (by decide) (by omega) (by omega) (by decide), ve 4 (by decide) (by omega) (by omega) (by decide)]; exact d1
    · rw [← e9, u2_n (Or.inr (by decide)), u2_p (by decide), u2_p (by decide), u2_s, x5]
    · rw [r1 8 (by decide) (by decide), e26]; exact d2.2.1
    · rw [v5] at hj
      have a2 : m9 2 j = if j = n then c else mi 2 j := by
        rw [← e9, u2_p (show (2 : Nat) ≠ 1 by decide), u2_p (show (2 : Nat) ≠ 3 by decide)]
        split
        · next q => subst q; exact u2_s _ _ _ _
        · next q => rw [u2_n (Or.inr q), u2_p (show (2 : Nat) ≠ 1 by decide), em 2 (by decide) (by decide)]
      have a3 : m9 3 j = if j = n then v else mi 3 j := by
        rw [← e9, u2_p (show (3 : Nat) ≠ 1 by decide)]
        split
        · next q => subst q; exact u2_s _ _ _ _
        · next q => rw [u2_n (Or.inr q), u2_p (show (3 : Nat) ≠ 2 by decide), u2_p (show (3 : Nat) ≠ 1 by decide), em 3 (by decide) (by decide)]
      rw [a2, a3]
      rcases Nat.lt_or_ge j n with q | q
      · rw [if_neg (by omega), if_neg (by omega), ve (6 + 2 * j) (by omega) (by omega) (by omega) (by omega), ve (7 + 2 * j) (by omega) (by omega) (by omega) (by omega)]
        exact d3 j (by omega)
      · obtain rfl : j = n := by omega
        rw [if_pos rfl, if_pos rfl, vc, vv]
        exact ⟨rfl, rfl⟩
    · rw [e26] at hk2
      have h26 := hw.2.1.2.1
      rw [← e9, u2_p (show (4 : Nat) ≠ 1 by decide), u2_p (show (4 : Nat) ≠ 3 by decide), u2_p (show (4 : Nat) ≠ 2 by decide), u2_p (show (4 : Nat) ≠ 1 by decide), em 4 (by decide) (by decide), ve (27 + k) (by omega) (by omega) (by omega) (by omega)]
      exact d4 k hk2
/-- a carrier moved -/
theorem ch_mv {mi mk m9 : MI} {V V' : Nat → Int32} {n b : Nat} {c v : Int32} (hw : WFV V) (hD : DR 1 mi V) (hn : (V 5).toInt = (n : Int)) (h10 : n ≤ 10) (hb : b < n) (hc : 0 ≤ c.toInt ∧ c.toInt < 64) (hv : 0 ≤ v.toInt ∧ v.toInt ≤ 60) (hk : ∀ j, j < n → j ≠ b → V (6 + 2 * j) ≠ c)
    (em : ∀ g, 1 ≤ g → g < 9 → mk g = mi g) (e9 : u2 (u2 (u2 mk 2 b c) 3 b v) 1 10 0 = m9)
    (vc : V' (6 + 2 * b) = c) (vv : V' (7 + 2 * b) = v) (v32 : V' 32 = 0) (ve : ∀ k, k ≠ 6 + 2 * b → k ≠ 7 + 2 * b → k ≠ 32 → V' k = V k) : WFV V' ∧ DR 1 m9 V' := by
  obtain ⟨d1, d2, d3, d4, d5⟩ := hD
  have e5 : V' 5 = V 5 := ve 5 (by omega) (by omega) (by decide)
  have e26 : V' 26 = V 26 := ve 26 (by omega) (by omega) (by decide)
  have h26 := hw.2.1.2.1
  constructor
  · refine WFV_t0 v32 ?_ ?_ (fun j hj => ?_) (fun x y hx hy hab => ?_) (fun k hk2 => ?_)
    · rw [ve 0 (by omega) (by omega) (by decide), ve 1 (by omega) (by omega) (by decide), ve 2 (by omega) (by omega) (by decide), ve 3 (by omega) (by omega) (by decide), ve 4 (by omega) (by omega) (by decide)]; exact hw.1
    · rw [e5, e26]; exact ⟨hw.2.1.1, hw.2.1.2.1⟩
    · rw [e5] at hj
      rcases Decidable.em (j = b) with q | q
      · subst q; rw [vc, vv]; omega
      · rw [ve (6 + 2 * j) (by omega) (by omega) (by omega), ve (7 + 2 * j) (by omega) (by omega) (by omega)]; exact hw.b hn (by omega)
    · rw [e5] at hx hy
      have hh : ∀ j, j < n → j ≠ b → V' (6 + 2 * j) = V (6 + 2 * j) := fun j hj hjb => ve (6 + 2 * j) (by omega) (by omega) (by omega)
      rcases Decidable.em (x = b) with qx | qx
      · subst qx
        rcases Decidable.em (y = x) with qy | qy
        · exact qy.symm
        · rw [hh y (by omega) qy, vc] at hab
          exact absurd hab.symm (hk y (by omega) qy)
      · rcases Decidable.em (y = b) with qy | qy
        · subst qy
          rw [hh x (by omega) qx, vc] at hab
          exact absurd hab (hk x (by omega) qx)
        · rw [hh x (by omega) qx, hh y (by omega) qy] at hab
          exact hw.2.2.2.1 x y hx hy hab
    · rw [e26] at hk2
      rw [ve (27 + k) (by omega) (by omega) (by omega), e5]
      exact hw.2.2.2.2.1 k hk2
  · have r1 : ∀ k, k ≠ 10 → m9 1 k = mi 1 k := fun k a => by rw [← e9, u2_n (Or.inr a), u2_p (by decide), u2_p (by decide), em 1 (by decide) (by decide)]
    refine DR_t0 ?_ ?_ ?_ (by rw [← e9, u2_s]) v32 (fun j hj => ?_) (fun k hk2 => ?_)
    · rw [r1 0 (by decide), r1 1 (by decide), r1 2 (by decide), r1 3 (by decide), r1 4 (by decide), ve 0 (by omega) (by omega) (by decide), ve 1 (by omega) (by omega) (by decide), ve 2 (by omega) (by omega) (by decide), ve 3 (by omega) (by omega) (by decide), ve 4 (by omega) (by omega) (by decide)]; exact d1
    · rw [r1 5 (by decide), e5]; exact d2.1
    · rw [r1 8 (by decide), e26]; exact d2.2.1
    · rw [e5] at hj
      have a2 : m9 2 j = if j = b then c else mi 2 j := by
        rw [← e9, u2_p (show (2 : Nat) ≠ 1 by decide), u2_p (show (2 : Nat) ≠ 3 by decide)]
        split
        · next q => subst q; exact u2_s _ _ _ _
        · next q => rw [u2_n (Or.inr q), em 2 (by decide) (by decide)]
      have a3 : m9 3 j = if j = b then v else mi 3 j := by
        rw [← e9, u2_p (show (3 : Nat) ≠ 1 by decide)]
        split
        · next q => subst q; exact u2_s _ _ _ _
        · next q => rw [u2_n (Or.inr q), u2_p (show (3 : Nat) ≠ 2 by decide), em 3 (by decide) (by decide)]
      rw [a2, a3]
      rcases Decidable.em (j = b) with q | q
      · subst q; rw [if_pos rfl, if_pos rfl, vc, vv]; exact ⟨rfl, rfl⟩
      · rw [if_neg q, if_neg q, ve (6 + 2 * j) (by omega) (by omega) (by omega), ve (7 + 2 * j) (by omega) (by omega) (by omega)]
        exact d3 j hj
    · rw [e26] at hk2
      rw [← e9, u2_p (show (4 : Nat) ≠ 1 by decide), u2_p (show (4 : Nat) ≠ 3 by decide), u2_p (show (4 : Nat) ≠ 2 by decide), em 4 (by decide) (by decide), ve (27 + k) (by omega) (by omega) (by omega)]
      exact d4 k hk2
/-- the settings changed: m9 is mk but for the first five fields and the tests -/
theorem ch_st {mi mk m9 : MI} {V V' : Nat → Int32} (hw : WFV V) (hD : DR 1 mi V) (em : ∀ g, 1 ≤ g → g < 9 → mk g = mi g) (es : ∀ k, k < 5 → m9 1 k = V' k) (e1 : m9 1 5 = mk 1 5) (e8 : m9 1 8 = mk 1 8) (e10 : m9 1 10 = 0) (ep : ∀ g, 2 ≤ g → g < 9 → m9 g = mk g) (v32 : V' 32 = 0) (ve : ∀ k, 5 ≤ k → k ≠ 32 → V' k = V k)
    (h1 : (0 ≤ (V' 0).toInt ∧ (V' 0).toInt ≤ 7) ∧ (0 ≤ (V' 1).toInt ∧ (V' 1).toInt ≤ 300) ∧ (0 ≤ (V' 2).toInt ∧ (V' 2).toInt ≤ 300) ∧ (0 ≤ (V' 3).toInt ∧ (V' 3).toInt ≤ 5) ∧ (1 ≤ (V' 4).toInt ∧ (V' 4).toInt ≤ 10)) : WFV V' ∧ DR 1 m9 V' := by
  obtain ⟨d1, d2, d3, d4, d5⟩ := hD
  have e5 : V' 5 = V 5 := ve 5 (by decide) (by decide)
  have e26 : V' 26 = V 26 := ve 26 (by decide) (by decide)
  have h26 := hw.2.1
  have er := em 1 (by decide) (by decide)
  constructor
  · refine WFV_t0 v32 h1 ?_ (fun j hj => ?_) (fun x y hx hy hab => ?_) (fun k hk2 => ?_)
    · rw [e5, e26]; exact ⟨hw.2.1.1, hw.2.1.2.1⟩
    · rw [e5] at hj
      rw [ve (6 + 2 * j) (by omega) (by omega), ve (7 + 2 * j) (by omega) (by omega)]; exact hw.2.2.1 j hj
    · rw [e5] at hx hy
      rw [ve (6 + 2 * x) (by omega) (by omega), ve (6 + 2 * y) (by omega) (by omega)] at hab
      exact hw.2.2.2.1 x y hx hy hab
    · rw [e26] at hk2
      rw [ve (27 + k) (by omega) (by omega), e5]
      exact hw.2.2.2.2.1 k hk2
  · refine DR_t0 ⟨es 0 (by decide), es 1 (by decide), es 2 (by decide), es 3 (by decide), es 4 (by decide)⟩ ?_ ?_ e10 v32 (fun j hj => ?_) (fun k hk2 => ?_)
    · rw [e1, er, e5]; exact d2.1
    · rw [e8, er, e26]; exact d2.2.1
    · rw [e5] at hj
      rw [ep 2 (by decide) (by decide), ep 3 (by decide) (by decide), em 2 (by decide) (by decide), em 3 (by decide) (by decide), ve (6 + 2 * j) (by omega) (by omega), ve (7 + 2 * j) (by omega) (by omega)]
      exact d3 j hj
    · rw [e26] at hk2
      rw [ep 4 (by decide) (by decide), em 4 (by decide) (by decide), ve (27 + k) (by omega) (by omega)]
      exact d4 k hk2
/-- the mixers changed -/
theorem ch_mx {mi mk m9 : MI} {V V' : Nat → Int32} {m' : Nat} (hw : WFV V) (hD : DR 1 mi V) (em : ∀ g, 1 ≤ g → g < 9 → mk g = mi g) (e1 : ∀ k, k ≠ 8 → k ≠ 10 → m9 1 k = mk 1 k) (e8 : m9 1 8 = V' 26) (e10 : m9 1 10 = 0) (e2 : m9 2 = mk 2) (e3 : m9 3 = mk 3) (e4 : ∀ k, k < m' → m9 4 k = V' (27 + k)) (v26 : (V' 26).toInt = (m' : Int)) (hm' : m' ≤ 5) (v32 : V' 32 = 0) (ve : ∀ k, k < 26 → V' k = V k)
    (hb : ∀ k, k < m' → 0 ≤ (V' (27 + k)).toInt ∧ (V' (27 + k)).toInt < ((2 ^ (V 5).toInt.toNat : Nat) : Int)) : WFV V' ∧ DR 1 m9 V' := by
  obtain ⟨d1, d2, d3, d4, d5⟩ := hD
  have e5 : V' 5 = V 5 := ve 5 (by decide)
  have h26 := hw.2.1
  have er := em 1 (by decide) (by decide)
  constructor
  · refine WFV_t0 v32 ?_ ?_ (fun j hj => ?_) (fun x y hx hy hab => ?_) (fun k hk2 => ?_)
    · rw [ve 0 (by decide), ve 1 (by decide), ve 2 (by decide), ve 3 (by decide), ve 4 (by decide)]; exact hw.1
    · rw [e5, v26]; exact ⟨hw.2.1.1, by omega⟩
    · rw [e5] at hj
      rw [ve (6 + 2 * j) (by omega), ve (7 + 2 * j) (by omega)]; exact hw.2.2.1 j hj
    · rw [e5] at hx hy
      rw [ve (6 + 2 * x) (by omega), ve (6 + 2 * y) (by omega)] at hab
      exact hw.2.2.2.1 x y hx hy hab
    · rw [e5]; exact hb k (by omega)
  · refine DR_t0 ?_ ?_ e8 e10 v32 (fun j hj => ?_) (fun k hk2 => e4 k (by omega))
    · rw [e1 0 (by decide) (by decide), e1 1 (by decide) (by decide), e1 2 (by decide) (by decide), e1 3 (by decide) (by decide), e1 4 (by decide) (by decide), er, ve 0 (by decide), ve 1 (by decide), ve 2 (by decide), ve 3 (by decide), ve 4 (by decide)]; exact d1
    · rw [e1 5 (by decide) (by decide), er, e5]; exact d2.1
    · rw [e5] at hj
      rw [e2, e3, em 2 (by decide) (by decide), em 3 (by decide) (by decide), ve (6 + 2 * j) (by omega), ve (7 + 2 * j) (by omega)]
      exact d3 j hj
end RL2
