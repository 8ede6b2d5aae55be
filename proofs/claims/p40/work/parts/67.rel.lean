section REL
theorem WFV_c {V V' : Nat → Int32} (e : ∀ k, k < 81 → V' k = V k) (h : WFV V) : WFV V' := by
  have h2 := h.2.1
  have e5 := e 5 (by decide)
  refine ⟨?_, ?_, fun c hc => ?_, fun c d hc hd => ?_, fun k hk => ?_, fun t ht => ?_⟩
  · rw [e 0 (by decide), e 1 (by decide), e 2 (by decide), e 3 (by decide), e 4 (by decide)]; exact h.1
  · rw [e5, e 26 (by decide), e 32 (by decide)]; exact h.2.1
  · rw [e5] at hc
    rw [e (6 + 2 * c) (by omega), e (7 + 2 * c) (by omega)]; exact h.2.2.1 c hc
  · rw [e5] at hc hd
    rw [e (6 + 2 * c) (by omega), e (6 + 2 * d) (by omega)]; exact h.2.2.2.1 c d hc hd
  · rw [e 26 (by decide)] at hk
    rw [e (27 + k) (by omega), e5]; exact h.2.2.2.2.1 k hk
  · rw [e 32 (by decide)] at ht
    rw [e (33 + 3 * t) (by omega), e (34 + 3 * t) (by omega), e (35 + 3 * t) (by omega), e5]; exact h.2.2.2.2.2 t ht
theorem DR_c {h : Nat} {mi : MI} {V V' : Nat → Int32} (e : ∀ k, k < 81 → V' k = V k) (hw : WFV V) (H : DR h mi V) : DR h mi V' := by
  have h2 := hw.2.1
  obtain ⟨d1, d2, d3, d4, d5⟩ := H
  refine ⟨?_, ?_, fun c hc => ?_, fun k hk => ?_, fun t ht => ?_⟩
  · rw [e 0 (by decide), e 1 (by decide), e 2 (by decide), e 3 (by decide), e 4 (by decide)]; exact d1
  · rw [e 5 (by decide), e 26 (by decide), e 32 (by decide)]; exact d2
  · rw [e 5 (by decide)] at hc
    rw [e (6 + 2 * c) (by omega), e (7 + 2 * c) (by omega)]; exact d3 c hc
  · rw [e 26 (by decide)] at hk
    rw [e (27 + k) (by omega)]; exact d4 k hk
  · rw [e 32 (by decide)] at ht
    have ea : tA V' t = tA V t := by unfold tA; rw [e (33 + 3 * t) (by omega)]
    have ec : tC V' t = tC V t := by unfold tC; rw [e (34 + 3 * t) (by omega)]
    rw [e (33 + 3 * t) (by omega), e (34 + 3 * t) (by omega), e (35 + 3 * t) (by omega), e 5 (by decide), e 26 (by decide), ea, ec, hbS_c (fun k hk => e k (by omega)) (by omega) _ (by omega)]
    exact d5 t ht
/-- a saved block of the model -/
def blk (mi : MI) (i : Nat) : Nat → Int32 := fun k => mi 63 (81 * i + k)
/-- the saved states of both -/
def RH (mi : MI) : Prop := ∃ p sz : Nat, p < 4 ∧ sz ≤ 4 ∧ (mi 17 1).toInt = (p : Int) ∧ (mi 17 2).toInt = (sz : Int) ∧ (mi 61 2).toInt = (sz : Int) ∧ ∀ j, j < sz → WFV (blk mi (sz - 1 - j)) ∧ DR (19 + 8 * ((p + 4 - j) % 4)) mi (blk mi (sz - 1 - j))
def RT (mi : MI) : Prop := ∃ N : Nat, N ≤ 120 ∧ (mi 58 1).toInt = (N : Int) ∧ (mi 61 4).toInt = (N : Int) ∧ ∀ k, k < N → mi 59 k = mi 64 k
/-- class and model show the same -/
def Rel (mi : MI) (ml : MJ) : Prop := WFV (mi 62) ∧ DR 1 mi (mi 62) ∧ RH mi ∧ RT mi ∧ (ml 56 0 = 0 ∧ ml 57 0 = 0)
theorem RH.c {mi mj : MI} (h : RH mi) (e : ∀ g, 17 ≤ g → g < 51 → mj g = mi g) (e2 : mj 61 2 = mi 61 2) (e3 : mj 63 = mi 63) : RH mj := by
  obtain ⟨p, sz, h1, h2, h3, h4, h5, h6⟩ := h
  refine ⟨p, sz, h1, h2, by rw [e 17 (by decide) (by decide)]; exact h3, by rw [e 17 (by decide) (by decide)]; exact h4, by rw [e2]; exact h5, fun j hj => ?_⟩
  have eb : blk mj (sz - 1 - j) = blk mi (sz - 1 - j) := by unfold blk; rw [e3]
  rw [eb]
  exact ⟨(h6 j hj).1, (h6 j hj).2.fr (fun q hq => e _ (by omega) (by omega))⟩
theorem RT.c {mi mj : MI} (h : RT mi) (e1 : mj 58 1 = mi 58 1) (e2 : mj 61 4 = mi 61 4) (e3 : mj 59 = mi 59) (e4 : mj 64 = mi 64) : RT mj := by
  obtain ⟨N, h1, h2, h3, h4⟩ := h
  exact ⟨N, h1, by rw [e1]; exact h2, by rw [e2]; exact h3, by rw [e3, e4]; exact h4⟩
/-- what a call that asks may change -/
theorem Rel.q {mi mj : MI} {ml mk : MJ} (h : Rel mi ml) (e : ∀ g, (g < 9 ∨ (17 ≤ g ∧ g < 51) ∨ g = 59 ∨ g = 62 ∨ g = 63 ∨ g = 64) → g ≠ 0 → mj g = mi g) (e1 : mj 58 1 = mi 58 1) (e2 : mj 61 2 = mi 61 2) (e4 : mj 61 4 = mi 61 4) (hz : mk 56 0 = 0 ∧ mk 57 0 = 0) : Rel mj mk := by
  have e62 := e 62 (by decide) (by decide)
  refine ⟨by rw [e62]; exact h.1, by rw [e62]; exact h.2.1.fr (fun q hq => e _ (by omega) (by omega)), h.2.2.1.c (fun g a b => e g (by omega) (by omega)) e2 (e 63 (by decide) (by decide)), h.2.2.2.1.c e1 e4 (e 59 (by decide) (by decide)) (e 64 (by decide) (by decide)), hz⟩
/-- both have saved their state -/
theorem RH.ch {mi mk mj mq : MI} {p sz : Nat} (hw : WFV (mi 62)) (hD : DR 1 mi (mi 62)) (h1 : p < 4) (h2 : sz ≤ 4) (h5 : (mi 61 2).toInt = (sz : Int)) (h6 : ∀ j, j < sz → WFV (blk mi (sz - 1 - j)) ∧ DR (19 + 8 * ((p + 4 - j) % 4)) mi (blk mi (sz - 1 - j)))
    (hP : PUS p sz mi mk) (hK : Kept mq mj) (q2 : mq 61 2 = mi 61 2) (q62 : mq 62 = mi 62) (q63 : mq 63 = mi 63) {m9 : MI} (e : ∀ g, 17 ≤ g → g < 51 → m9 g = mk g) (e2 : m9 61 2 = mj 61 2) (e3 : m9 63 = mj 63) : RH m9 := by
  obtain ⟨f1, f2, f3, f4⟩ := hP
  obtain ⟨_, _, sc, sc', k1, k2, k3, k4, k5⟩ := hK
  rw [q2] at k1
  obtain rfl : sc = sz := by omega
  have hs : sc' = min (sc + 1) 4 := by rcases k4 with ⟨a, b, _⟩ | ⟨a, b, _⟩ <;> omega
  subst hs
  rw [q62] at k5
  rw [q63] at k4
  refine ⟨(p + 1) % 4, min (sc + 1) 4, by omega, by omega, by rw [e 17 (by decide) (by decide)]; exact f2, by rw [e 17 (by decide) (by decide)]; exact f3, by rw [e2]; exact k2, fun j hj => ?_⟩
  rcases Nat.eq_zero_or_pos j with q | q
  · subst q
    have eb : ∀ k, k < 81 → blk m9 (min (sc + 1) 4 - 1 - 0) k = mi 62 k := fun k hk => by unfold blk; rw [e3]; exact k5 k hk
    refine ⟨WFV_c eb hw, ?_⟩
    rw [show ((p + 1) % 4 + 4 - 0) % 4 = (p + 1) % 4 by omega]
    exact DR_c eb hw ((f4 _ hw hD).fr (fun q hq => e _ (by omega) (by omega)))
  · have eb : ∀ k, k < 81 → blk m9 (min (sc + 1) 4 - 1 - j) k = blk mi (sc - 1 - (j - 1)) k := by
      intro k hk
      unfold blk
      rw [e3]
      rcases k4 with ⟨a, b, c⟩ | ⟨a, b, c⟩
      · rw [c (min (sc + 1) 4 - 1 - j) k (by omega) hk]
        congr 2; omega
      · rw [c (min (sc + 1) 4 - 1 - j) k (by omega) hk]
        congr 2; omega
    have h7 := h6 (j - 1) (by omega)
    refine ⟨WFV_c eb h7.1, ?_⟩
    have ep : ((p + 1) % 4 + 4 - j) % 4 = (p + 4 - (j - 1)) % 4 := by omega
    have ne : (p + 4 - (j - 1)) % 4 ≠ (p + 1) % 4 := by omega
    rw [ep]
    exact DR_c eb h7.1 (h7.2.fr (fun q hq => (e _ (by omega) (by omega)).trans (f1 _ (by omega) (by omega))))
end REL
