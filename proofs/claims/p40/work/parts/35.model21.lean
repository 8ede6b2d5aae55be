section MO21
/-- a carrier of the text, its letter at p -/
noncomputable def pcS (t : Nat → Int) (D : List (Nat × Nat)) (p : Nat) : Sum Nat (List (Nat × Nat) × Nat) :=
  ifp (D.length = 10) (.inl p) (ifp (¬ rdO t (p + 1)) (.inl (p + 1 + rdI t (p + 1))) (ifp (63 < rdV t (p + 1) (rdI t (p + 1)) ∨ ∃ d, d ∈ D ∧ d.1 = rdV t (p + 1) (rdI t (p + 1))) (.inl (p + 1)) (ifp (t (p + 1 + rdI t (p + 1)) ≠ 44) (.inl (p + 1 + rdI t (p + 1)))
    (ifp (¬ rdO t (p + 1 + rdI t (p + 1) + 1)) (.inl (p + 1 + rdI t (p + 1) + 1 + rdI t (p + 1 + rdI t (p + 1) + 1))) (ifp (60 < rdV t (p + 1 + rdI t (p + 1) + 1) (rdI t (p + 1 + rdI t (p + 1) + 1))) (.inl (p + 1 + rdI t (p + 1) + 1))
      (.inr (D ++ [(rdV t (p + 1) (rdI t (p + 1)), rdV t (p + 1 + rdI t (p + 1) + 1) (rdI t (p + 1 + rdI t (p + 1) + 1)))], p + 1 + rdI t (p + 1) + 1 + rdI t (p + 1 + rdI t (p + 1) + 1)))))))) 
theorem pc_1 {t : Nat → Int} {D : List (Nat × Nat)} {p : Nat} (h : D.length = 10) : pcS t D p = .inl p := by unfold pcS; rw [ifp_t h]
theorem pc_2 {t : Nat → Int} {D : List (Nat × Nat)} {p q : Nat} (h : ¬ D.length = 10) (hq : q = p + 1 + rdI t (p + 1)) (h2 : ¬ rdO t (p + 1)) : pcS t D p = .inl q := by unfold pcS; rw [ifp_f h, ifp_t h2, ← hq]
theorem pc_3 {t : Nat → Int} {D : List (Nat × Nat)} {p q v : Nat} (h : ¬ D.length = 10) (hq : q = p + 1 + rdI t (p + 1)) (hv : v = rdV t (p + 1) (rdI t (p + 1))) (h2 : rdO t (p + 1)) (h3 : 63 < v ∨ ∃ d, d ∈ D ∧ d.1 = v) : pcS t D p = .inl (p + 1) := by unfold pcS; rw [ifp_f h, ifp_f (fun z => z h2), ← hv, ifp_t h3]
theorem pc_4 {t : Nat → Int} {D : List (Nat × Nat)} {p q v : Nat} (h : ¬ D.length = 10) (hq : q = p + 1 + rdI t (p + 1)) (hv : v = rdV t (p + 1) (rdI t (p + 1))) (h2 : rdO t (p + 1)) (h3 : ¬ (63 < v ∨ ∃ d, d ∈ D ∧ d.1 = v)) (h4 : ¬ t q = 44) : pcS t D p = .inl q := by unfold pcS; rw [ifp_f h, ifp_f (fun z => z h2), ← hv, ifp_f h3, ← hq, ifp_t h4]
theorem pc_5 {t : Nat → Int} {D : List (Nat × Nat)} {p q v q2 : Nat} (h : ¬ D.length = 10) (hq : q = p + 1 + rdI t (p + 1)) (hv : v = rdV t (p + 1) (rdI t (p + 1))) (h2 : rdO t (p + 1)) (h3 : ¬ (63 < v ∨ ∃ d, d ∈ D ∧ d.1 = v)) (h4 : t q = 44) (hq2 : q2 = q + 1 + rdI t (q + 1)) (h5 : ¬ rdO t (q + 1)) : pcS t D p = .inl q2 := by unfold pcS; rw [ifp_f h, ifp_f (fun z => z h2), ← hv, ifp_f h3, ← hq, ifp_f (fun z => z h4), ifp_t h5, ← hq2]
theorem pc_6 {t : Nat → Int} {D : List (Nat × Nat)} {p q v q2 w : Nat} (h : ¬ D.length = 10) (hq : q = p + 1 + rdI t (p + 1)) (hv : v = rdV t (p + 1) (rdI t (p + 1))) (h2 : rdO t (p + 1)) (h3 : ¬ (63 < v ∨ ∃ d, d ∈ D ∧ d.1 = v)) (h4 : t q = 44) (hq2 : q2 = q + 1 + rdI t (q + 1)) (hw : w = rdV t (q + 1) (rdI t (q + 1))) (h5 : rdO t (q + 1)) (h6 : 60 < w) : pcS t D p = .inl (q + 1) := by unfold pcS; rw [ifp_f h, ifp_f (fun z => z h2), ← hv, ifp_f h3, ← hq, ifp_f (fun z => z h4), ifp_f (fun z => z h5), ← hw, ifp_t h6]
theorem pc_7 {t : Nat → Int} {D : List (Nat × Nat)} {p q v q2 w : Nat} (h : ¬ D.length = 10) (hq : q = p + 1 + rdI t (p + 1)) (hv : v = rdV t (p + 1) (rdI t (p + 1))) (h2 : rdO t (p + 1)) (h3 : ¬ (63 < v ∨ ∃ d, d ∈ D ∧ d.1 = v)) (h4 : t q = 44) (hq2 : q2 = q + 1 + rdI t (q + 1)) (hw : w = rdV t (q + 1) (rdI t (q + 1))) (h5 : rdO t (q + 1)) (h6 : ¬ 60 < w) : pcS t D p = .inr (D ++ [(v, w)], q2) := by unfold pcS; rw [ifp_f h, ifp_f (fun z => z h2), ← hv, ifp_f h3, ← hq, ifp_f (fun z => z h4), ifp_f (fun z => z h5), ← hw, ifp_f h6, ← hq2]
def drR (mi : MI) (D : List (Nat × Nat)) : Prop := ∀ (k : Nat) (d : Nat × Nat), D[k]? = some d → (mi 71 (2 * k)).toInt = (d.1 : Int) ∧ (mi 71 (2 * k + 1)).toInt = (d.2 : Int)
theorem drR_add {mi mj : MI} {D : List (Nat × Nat)} {v w dc : Nat} (h : drR mi D) (hdc : D.length = dc) (e1 : ∀ k, k < 2 * dc → mj 71 k = mi 71 k) (e2 : (mj 71 (2 * dc)).toInt = (v : Int)) (e3 : (mj 71 (2 * dc + 1)).toInt = (w : Int)) : drR mj (D ++ [(v, w)]) := by
  subst hdc
  intro k x hx
  rcases Nat.lt_or_ge k D.length with hl | hl
  · rw [List.getElem?_append_left hl] at hx
    rw [e1 _ (by omega), e1 _ (by omega)]
    exact h k x hx
  · rw [List.getElem?_append_right hl] at hx
    have h1 : k - D.length < 1 := (List.getElem?_eq_some_iff.mp hx).1
    have h2 : k = D.length := by omega
    subst h2
    rw [Nat.sub_self] at hx
    cases hx
    exact ⟨e2, e3⟩
def tkP (D : List (Nat × Nat)) (v i : Nat) : Prop := 63 < v ∨ ∃ d, d ∈ D.take i ∧ d.1 = v
theorem tk_s {α : Type} {L : List α} {i : Nat} {s : α} (h : L[i]? = some s) : L.take (i + 1) = L.take i ++ [s] := by rw [List.take_add_one, h]; rfl
theorem tk_1 {D : List (Nat × Nat)} {v i : Nat} {x : Int32} {d : Nat × Nat} (h : x = bI (tkP D v i)) (c : x.toInt ≠ 0) (hd : D[i]? = some d) : (1 : Int32) = bI (tkP D v (i + 1)) := b1 (by
  rcases xB_t h c with q | ⟨y, hy, e⟩
  · exact Or.inl q
  · exact Or.inr ⟨y, by rw [tk_s hd]; exact List.mem_append_left _ hy, e⟩)
theorem tk_2 {D : List (Nat × Nat)} {v i : Nat} {d : Nat × Nat} (hd : D[i]? = some d) (e : d.1 = v) : (1 : Int32) = bI (tkP D v (i + 1)) := b1 (Or.inr ⟨d, by rw [tk_s hd]; exact List.mem_append_right _ (List.mem_singleton.mpr rfl), e⟩)
theorem tk_3 {D : List (Nat × Nat)} {v i : Nat} {x : Int32} {d : Nat × Nat} (h : x = bI (tkP D v i)) (c : x.toInt = 0) (hd : D[i]? = some d) (e : d.1 ≠ v) : (0 : Int32) = bI (tkP D v (i + 1)) := b0 (fun q => by
  have hn := xB_f h c
  rcases q with q | ⟨y, hy, e2⟩
  · exact hn (Or.inl q)
  · rw [tk_s hd] at hy
    rcases List.mem_append.mp hy with z | z
    · exact hn (Or.inr ⟨y, z, e2⟩)
    · rw [List.mem_singleton.mp z] at e2; exact e e2)
def RfQ (P : Prop) (q m n : Nat) : Prop := (P → q = m) ∧ (¬ P → q = n)
theorem rf_q {x a b : Int32} {P : Prop} {m n : Nat} (hy : P → x = a) (hn : ¬ P → x = b) (ha : a.toInt = (m : Int)) (hb : b.toInt = (n : Int)) : ∃ q : Nat, x.toInt = (q : Int) ∧ RfQ P q m n := by
  rcases Classical.em P with h | h
  · exact ⟨m, by rw [hy h]; exact ha, fun _ => rfl, fun z => absurd h z⟩
  · exact ⟨n, by rw [hn h]; exact hb, fun z => absurd z h, fun _ => rfl⟩
end MO21
