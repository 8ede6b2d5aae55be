section RL5
/-- the end of a pair of calls that ask -/
theorem q_end {mi mi1 mi2 : MI} {ml ml1 ml2 : MJ} {c : Int32} (R : Rel mi ml) (F : Fr [51, 52, 53, 54, 55] mi mi1) (hz : ml1 56 0 = 0 ∧ ml1 57 0 = 0) (S : SM c mi1 mi2) (J : ∀ p, p ≠ 61 → ml2 p = ml1 p) : Rel mi2 ml2 ∧ mi2 61 5 = c := by
  obtain ⟨s1, s2, s4, s5⟩ := S
  have f : ∀ g, g < 51 ∨ 56 ≤ g → mi1 g = mi g := fun g hg => F g (by simp only [List.mem_cons, List.not_mem_nil, or_false, not_or]; omega)
  have h : ∀ g, g ≠ 61 → (g < 65 ∨ 73 ≤ g) → mi2 g = mi1 g := fun g a b => s1 g (by simp only [List.mem_cons, List.not_mem_nil, or_false, not_or]; omega)
  refine ⟨R.q (fun g a b => (h g (by omega) (by omega)).trans (f g (by omega))) ?_ ?_ ?_ ?_, s5⟩
  · rw [h 58 (by decide) (by decide), f 58 (by decide)]
  · rw [s2, f 61 (by decide)]
  · rw [s4, f 61 (by decide)]
  · rw [J 56 (by decide), J 57 (by decide)]; exact hz
/-- the end of a pair of calls that change -/
theorem ch_end {mi mk mi1 mq mj mi2 : MI} {ml ml2 : MJ} {p sz : Nat} (R : Rel mi ml) (hp : (mi 17 1).toInt = (p : Int)) (hsz : (mi 17 2).toInt = (sz : Int)) (hP : PUS p sz mi mk) (h1 : ∀ g, 9 ≤ g → (g < 51 ∨ 56 ≤ g) → mi1 g = mk g) (S : SM 0 mi1 mq) (K : Kept mq mj) (h2 : ∀ g, g < 60 ∨ g = 63 ∨ g = 64 → mi2 g = mj g) (h61 : ∀ k, k = 2 ∨ k = 4 ∨ k = 5 → mi2 61 k = mj 61 k)
    (hN : WFV (mi2 62) ∧ DR 1 mi1 (mi2 62)) (hz : ml2 56 0 = 0 ∧ ml2 57 0 = 0) : Rel mi2 ml2 ∧ mi2 61 5 = 0 := by
  obtain ⟨s1, s2, s4, s5⟩ := S
  have hs : ∀ g, g ≠ 61 → (g < 65 ∨ 73 ≤ g) → mq g = mi1 g := fun g a b => s1 g (by simp only [List.mem_cons, List.not_mem_nil, or_false, not_or]; omega)
  have hk : ∀ g, g ≠ 61 → g ≠ 63 → mj g = mq g := fun g a b => K.1 g (by simp only [List.mem_cons, List.not_mem_nil, or_false, not_or]; omega)
  have hpf : ∀ g, g ≠ 17 → (g < 19 ∨ 51 ≤ g) → mk g = mi g := fun g a b => hP.1 g a (by omega)
  obtain ⟨p', sz', r1, r2, r3, r4, r5, r6⟩ := R.2.2.1
  obtain rfl : p' = p := by omega
  obtain rfl : sz' = sz := by omega
  have g61 : mi1 61 = mi 61 := (h1 61 (by decide) (by decide)).trans (hpf 61 (by decide) (by decide))
  have g62 : mi1 62 = mi 62 := (h1 62 (by decide) (by decide)).trans (hpf 62 (by decide) (by decide))
  have g63 : mi1 63 = mi 63 := (h1 63 (by decide) (by decide)).trans (hpf 63 (by decide) (by decide))
  have hall : ∀ g, g < 60 → mi2 g = mi1 g := fun g hg => (h2 g (Or.inl hg)).trans ((hk g (by omega) (by omega)).trans (hs g (by omega) (by omega)))
  refine ⟨⟨hN.1, hN.2.fr (fun q hq => hall _ (by omega)), ?_, ?_, hz⟩, ?_⟩
  · exact RH.ch R.1 R.2.1 r1 r2 r5 r6 hP K (by rw [s2, g61]) ((hs 62 (by decide) (by decide)).trans g62) ((hs 63 (by decide) (by decide)).trans g63) (fun g a b => (hall g (by omega)).trans (h1 g (by omega) (by omega))) (h61 2 (by decide)) (h2 63 (by decide))
  · refine R.2.2.2.1.c ?_ ?_ ?_ ?_
    · rw [hall 58 (by decide), h1 58 (by decide) (by decide), hpf 58 (by decide) (by decide)]
    · rw [h61 4 (by decide), K.2.1 4 (by decide), s4, g61]
    · rw [hall 59 (by decide), h1 59 (by decide) (by decide), hpf 59 (by decide) (by decide)]
    · rw [h2 64 (by decide), hk 64 (by decide) (by decide), hs 64 (by decide) (by decide), h1 64 (by decide) (by decide), hpf 64 (by decide) (by decide)]
  · rw [h61 5 (by decide), K.2.1 5 (by decide), s5]
/-- what a relation says of the numbers -/
def nV (V : Nat → Int32) : Nat := (V 5).toInt.toNat
def mV (V : Nat → Int32) : Nat := (V 26).toInt.toNat
def tV (V : Nat → Int32) : Nat := (V 32).toInt.toNat
theorem wf_n {V : Nat → Int32} (h : WFV V) : (V 5).toInt = (nV V : Int) ∧ nV V ≤ 10 := by have := h.2.1; unfold nV; omega
theorem wf_m {V : Nat → Int32} (h : WFV V) : (V 26).toInt = (mV V : Int) ∧ mV V ≤ 5 := by have := h.2.1; unfold mV; omega
theorem wf_t {V : Nat → Int32} (h : WFV V) : (V 32).toInt = (tV V : Int) ∧ tV V ≤ 16 := by have := h.2.1; unfold tV; omega
theorem CtH.mono {l : Launch} {y : MethodName} {cw : Cond} {d mc ms : Nat} {As : List Value} {w : AW} {Q Q' : Option Value → AW → Prop} {X : String → AW → Prop} (h : CtH l y cw d mc ms As w Q X) (hq : ∀ rv w, Q rv w → Q' rv w) : CtH l y cw d mc ms As w Q' X := by
  intro g ad sz
  refine MetFree.mono (P' := fun a U => PcE g ad sz As w a U ∧ Nc2 U) (h g ad sz) (fun _ _ h => h) (fun _ _ _ _ _ h => h) (fun a s o t _ hv => ?_)
  rcases hv with ⟨⟨⟨rv, w', e1, e2, e3⟩, e4⟩, e5⟩ | hv
  · exact Or.inl ⟨⟨⟨rv, w', e1, hq rv w' e2, e3⟩, e4⟩, e5⟩
  · exact Or.inr hv
theorem Ct.mono {l : Launch} {y : MethodName} {cw : Cond} {d mc ms : Nat} {As : List Value} {w : AW} {Q Q' : Option Value → AW → Prop} {X : String → AW → Prop} (h : Ct l y cw d mc ms As w Q X) (hq : ∀ rv w, Q rv w → Q' rv w) : Ct l y cw d mc ms As w Q' X := by
  intro g ad sz
  refine MetFree.mono (P' := PcE g ad sz As w) (h g ad sz) (fun _ _ h => h) (fun _ _ _ _ _ h => h) (fun a s o t _ hv => ?_)
  rcases hv with ⟨⟨⟨rv, w', e1, e2, e3⟩, e4⟩, e5⟩ | hv
  · exact Or.inl ⟨⟨⟨rv, w', e1, hq rv w' e2, e3⟩, e4⟩, e5⟩
  · exact Or.inr hv
end RL5
