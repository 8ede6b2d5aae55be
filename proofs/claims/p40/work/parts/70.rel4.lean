section RL4
/-- a plan that was read -/
def GdP (D : List (Nat × Nat)) (M : List Nat) : Prop := (∀ d, d ∈ D → d.1 < 64 ∧ d.2 ≤ 60) ∧ (∀ (i j : Nat) (a b : Nat × Nat), D[i]? = some a → D[j]? = some b → a.1 = b.1 → i = j) ∧ ∀ s, s ∈ M → s < 2 ^ D.length
theorem GdP_c {D : List (Nat × Nat)} {M : List Nat} {v w : Nat} (h : GdP D M) (hv : ¬ (63 < v ∨ ∃ d, d ∈ D ∧ d.1 = v)) (hw : ¬ 60 < w) : GdP (D ++ [(v, w)]) M := by
  obtain ⟨h1, h2, h3⟩ := h
  have hnd : ∀ d, d ∈ D → d.1 ≠ v := fun d hd e => hv (Or.inr ⟨d, hd, e⟩)
  refine ⟨fun d hd => ?_, fun i j a b ha hb e => ?_, fun s hs => ?_⟩
  · rcases List.mem_append.mp hd with q | q
    · exact h1 d q
    · rw [List.mem_singleton.mp q]
      exact ⟨by have : ¬ 63 < v := fun z => hv (Or.inl z)
                show v < 64
                omega, by show w ≤ 60; omega⟩
  · have key : ∀ (i : Nat) (a : Nat × Nat), (D ++ [(v, w)])[i]? = some a → (i < D.length ∧ D[i]? = some a) ∨ (i = D.length ∧ a = (v, w)) := by
      intro i a ha
      rcases Nat.lt_or_ge i D.length with q | q
      · rw [List.getElem?_append_left q] at ha; exact Or.inl ⟨q, ha⟩
      · rw [List.getElem?_append_right q] at ha
        have h4 : i - D.length < 1 := (List.getElem?_eq_some_iff.mp ha).1
        have h5 : i = D.length := by omega
        subst h5
        rw [Nat.sub_self] at ha
        cases ha
        exact Or.inr ⟨rfl, rfl⟩
    rcases key i a ha with ⟨i1, i2⟩ | ⟨i1, i2⟩
    · rcases key j b hb with ⟨j1, j2⟩ | ⟨j1, j2⟩
      · exact h2 i j a b i2 j2 e
      · rw [j2] at e; exact absurd e (hnd a (List.mem_of_getElem? i2))
    · rcases key j b hb with ⟨j1, j2⟩ | ⟨j1, j2⟩
      · rw [i2] at e; exact absurd e.symm (hnd b (List.mem_of_getElem? j2))
      · omega
  · have h4 := h3 s hs
    rw [List.length_append]
    exact Nat.lt_of_lt_of_le h4 (p2_mono (by omega))
theorem pmS_w {t : Nat → Int} {nD : Nat} : ∀ {f s p s9 q : Nat}, pmS t nD f s p = .inr (s9, q) → s < 2 ^ nD → s9 < 2 ^ nD
  | 0, s, p, s9, q, h, _ => by rw [pmS] at h; cases h
  | f + 1, s, p, s9, q, h, hs => by
    rw [pmS] at h
    obtain ⟨_, h⟩ := ifp_inr h
    obtain ⟨a2, h⟩ := ifp_inr h
    have hlt : s ||| 2 ^ rdV t p (rdI t p) < 2 ^ nD := Nat.or_lt_two_pow hs (Nat.pow_lt_pow_right (by decide) (Nat.not_le.mp (fun z => a2 (Or.inl z))))
    rcases Classical.em (t (p + rdI t p) = 44) with z | z
    · rw [ifp_t z] at h; exact pmS_w h hlt
    · rw [ifp_f z] at h; cases h; exact hlt
theorem paS_w {t : Nat → Int} {N : Nat} {D9 : List (Nat × Nat)} {M9 : List Nat} {it9 : Nat} : ∀ {f : Nat} {D : List (Nat × Nat)} {M : List Nat} {p it : Nat}, paS t N f D M p it = .inr (D9, M9, it9) → GdP D M → GdP D9 M9
  | 0, D, M, p, it, h, _ => by rw [paS] at h; cases h
  | f + 1, D, M, p, it, h, hg => by
    rw [paS] at h
    rcases Classical.em (N ≤ p) with z | z
    · rw [ifp_t z] at h; cases h; exact hg
    · rw [ifp_f z] at h
      rcases Classical.em (t p = 99) with z1 | z1
      · rw [ifp_t z1] at h
        cases h3 : pcS t D p with
        | inl e2 => rw [h3] at h; cases h
        | inr y =>
          obtain ⟨D8, q8⟩ := y
          rw [h3] at h
          obtain ⟨q1, v, w, -, -, -, -, b1, -, -, -, -, b2, b3⟩ := pcS_inv h3
          rcases Classical.em (t q8 = 59) with w9 | w9
          · simp only [ifp_t w9] at h
            exact paS_w h (by rw [b3]; exact GdP_c hg b1 b2)
          · simp only [ifp_f w9] at h; cases h
      · rw [ifp_f z1] at h
        rcases Classical.em (t p = 109) with z2 | z2
        · rw [ifp_t z2] at h
          cases h3 : pmT t D.length M p with
          | inl e2 => rw [h3] at h; cases h
          | inr y =>
            obtain ⟨s8, q8⟩ := y
            rw [h3] at h
            unfold pmT at h3
            obtain ⟨_, h3⟩ := ifp_inr h3
            have hs := pmS_w h3 (Nat.two_pow_pos _)
            rcases Classical.em (t q8 = 59) with w9 | w9
            · simp only [ifp_t w9] at h
              refine paS_w h ⟨hg.1, hg.2.1, fun s hs2 => ?_⟩
              rcases List.mem_append.mp hs2 with r | r
              · exact hg.2.2 s r
              · rw [List.mem_singleton.mp r]; exact hs
            · simp only [ifp_f w9] at h; cases h
        · rw [ifp_f z2] at h; cases h
theorem GdP_0 : GdP [] [] := ⟨fun d hd => (by cases hd), fun i j a b ha => (by simp at ha), fun s hs => (by cases hs)⟩
/-- the last saved state comes back -/
theorem RH.un {mi m9 : MI} {p sz : Nat} (h1 : p < 4) (h2 : sz ≤ 4) (h6 : ∀ j, j < sz → WFV (blk mi (sz - 1 - j)) ∧ DR (19 + 8 * ((p + 4 - j) % 4)) mi (blk mi (sz - 1 - j))) (hs : 0 < sz) (hP : POS p sz mi m9) {m2 : MI} (e : ∀ g, g < 60 → m2 g = m9 g) (e2 : (m2 61 2).toInt = (sz : Int) - 1) (e3 : m2 63 = mi 63) (e62 : ∀ k, k < 81 → m2 62 k = mi 63 (81 * (sz - 1) + k)) : WFV (m2 62) ∧ DR 1 m2 (m2 62) ∧ RH m2 := by
  obtain ⟨f1, f2, f3, f4⟩ := hP
  have h0 := h6 0 hs
  rw [show (p + 4 - 0) % 4 = p by omega] at h0
  have eb : ∀ k, k < 81 → m2 62 k = blk mi (sz - 1 - 0) k := fun k hk => e62 k hk
  refine ⟨WFV_c eb h0.1, DR_c eb h0.1 ((f4 _ h0.1 h0.2).fr (fun q hq => e _ (by omega))), (p + 3) % 4, sz - 1, by omega, by omega, by rw [e 17 (by decide)]; exact f2, by rw [e 17 (by decide)]; exact f3, by omega, fun j hj => ?_⟩
  have h := h6 (j + 1) (by omega)
  have ebk : blk m2 (sz - 1 - 1 - j) = blk mi (sz - 1 - (j + 1)) := by
    unfold blk
    rw [e3, show sz - 1 - 1 - j = sz - 1 - (j + 1) by omega]
  rw [ebk, show ((p + 3) % 4 + 4 - j) % 4 = (p + 4 - (j + 1)) % 4 by omega]
  exact ⟨h.1, h.2.fr (fun q hq => (e _ (by omega)).trans (f1 _ (by omega) (by omega)))⟩
end RL4
