/-! THE PRODUCTS, in order: (kind, a, b, c) -/
section PRD
abbrev Q4 : Type := Nat × Nat × Nat × Nat
/-- kinds, both losses, the channels and the levels -/
abbrev RD : Type := Nat × Int × Int × (Nat → Int) × (Nat → Int)
def pCh (D : RD) (kd a b c : Nat) : Int := if kd = 0 then 2 * D.2.2.2.1 a - D.2.2.2.1 b else if kd = 1 then D.2.2.2.1 a + D.2.2.2.1 b - D.2.2.2.1 c else 3 * D.2.2.2.1 a - 2 * D.2.2.2.1 b
def pLv (D : RD) (kd a b c : Nat) : Int := if kd = 2 then 3 * D.2.2.2.2 a + 2 * D.2.2.2.2 b - D.2.2.1 else D.2.2.2.2 a + D.2.2.2.2 b + D.2.2.2.2 (if kd = 0 then a else c) - D.2.1
def Sg (D : RD) (kd a b c : Nat) : Prop := (0 ≤ pCh D kd a b c ∧ pCh D kd a b c ≤ 63) ∧ D.1.testBit kd = true ∧ 0 ≤ pLv D kd a b c
/-- may c stand with a and b -/
def vC (s kd a b c : Nat) : Prop := kd ≠ 1 ∨ (c ≠ a ∧ c ≠ b ∧ s.testBit c = true)
def vB (s kd a b : Nat) : Prop := (kd = 1 → a < b) ∧ a ≠ b ∧ s.testBit a = true ∧ s.testBit b = true
def nCs (n kd : Nat) : Nat := if kd = 1 then n else 1
noncomputable def ifp {α : Type} (P : Prop) (x y : α) : α := @ite _ P (Classical.propDecidable P) x y
theorem ifp_t {α : Type} {P : Prop} {x y : α} (h : P) : ifp P x y = x := by unfold ifp; rw [if_pos h]
theorem ifp_f {α : Type} {P : Prop} {x y : α} (h : ¬ P) : ifp P x y = y := by unfold ifp; rw [if_neg h]
noncomputable def stC (D : RD) (s kd a b : Nat) : Nat → List Q4
  | 0 => []
  | c + 1 => stC D s kd a b c ++ ifp (vC s kd a b c ∧ Sg D kd a b c) [(kd, a, b, c)] []
noncomputable def stB (D : RD) (s n kd a : Nat) : Nat → List Q4
  | 0 => []
  | b + 1 => stB D s n kd a b ++ ifp (vB s kd a b) (stC D s kd a b (nCs n kd)) []
noncomputable def stA (D : RD) (s n kd : Nat) : Nat → List Q4
  | 0 => []
  | a + 1 => stA D s n kd a ++ stB D s n kd a n
noncomputable def stK (D : RD) (s n : Nat) : Nat → List Q4
  | 0 => []
  | kd + 1 => stK D s n kd ++ stA D s n kd n
/-- counts of what may come at most -/
def cC (kd a b : Nat) : Nat → Nat
  | 0 => 0
  | c + 1 => cC kd a b c + (if kd = 1 ∧ (c = a ∨ c = b) then 0 else 1)
def cB (n kd a : Nat) : Nat → Nat
  | 0 => 0
  | b + 1 => cB n kd a b + (if (kd = 1 ∧ b ≤ a) ∨ a = b then 0 else cC kd a b (nCs n kd))
def cA (n kd : Nat) : Nat → Nat
  | 0 => 0
  | a + 1 => cA n kd a + cB n kd a n
def cK (n : Nat) : Nat → Nat
  | 0 => 0
  | kd + 1 => cK n kd + cA n kd n
theorem cK_le : ∀ n, n < 11 → cK n 3 ≤ 540 := by decide +kernel
theorem mono_of {f : Nat → Nat} (h : ∀ k, f k ≤ f (k + 1)) {a b : Nat} (hab : a ≤ b) : f a ≤ f b := by
  induction b with
  | zero => rw [show a = 0 by omega]; exact Nat.le_refl _
  | succ b ih =>
    rcases Nat.lt_or_ge b a with q | q
    · rw [show a = b + 1 by omega]; exact Nat.le_refl _
    · exact Nat.le_trans (ih q) (h b)
theorem cC_m (kd a b : Nat) {x y : Nat} (h : x ≤ y) : cC kd a b x ≤ cC kd a b y := mono_of (fun k => by rw [cC]; omega) h
theorem cB_m (n kd a : Nat) {x y : Nat} (h : x ≤ y) : cB n kd a x ≤ cB n kd a y := mono_of (fun k => by rw [cB]; omega) h
theorem cA_m (n kd : Nat) {x y : Nat} (h : x ≤ y) : cA n kd x ≤ cA n kd y := mono_of (fun k => by rw [cA]; omega) h
theorem cK_m (n : Nat) {x y : Nat} (h : x ≤ y) : cK n x ≤ cK n y := mono_of (fun k => by rw [cK]; omega) h
theorem stC_len (D : RD) (s kd a b : Nat) : ∀ c, (stC D s kd a b c).length ≤ cC kd a b c
  | 0 => Nat.le_refl _
  | c + 1 => by
    have ih := stC_len D s kd a b c
    rw [stC, cC, List.length_append]
    rcases Classical.em (vC s kd a b c ∧ Sg D kd a b c) with h | h
    · rw [ifp_t h]
      have : ¬ (kd = 1 ∧ (c = a ∨ c = b)) := by
        rintro ⟨h1, h2⟩
        rcases h.1 with q | q
        · exact q h1
        · rcases h2 with h2 | h2
          · exact q.1 h2
          · exact q.2.1 h2
      rw [if_neg this]
      simp only [List.length_cons, List.length_nil]
      omega
    · rw [ifp_f h]
      simp only [List.length_nil]
      omega
theorem stB_len (D : RD) (s n kd a : Nat) : ∀ b, (stB D s n kd a b).length ≤ cB n kd a b
  | 0 => Nat.le_refl _
  | b + 1 => by
    have ih := stB_len D s n kd a b
    have hc := stC_len D s kd a b (nCs n kd)
    rw [stB, cB, List.length_append]
    rcases Classical.em (vB s kd a b) with h | h
    · rw [ifp_t h]
      have : ¬ ((kd = 1 ∧ b ≤ a) ∨ a = b) := by
        rintro (⟨h1, h2⟩ | h2)
        · have := h.1 h1; omega
        · exact h.2.1 h2
      rw [if_neg this]
      omega
    · rw [ifp_f h]
      simp only [List.length_nil]
      omega
theorem stA_len (D : RD) (s n kd : Nat) : ∀ a, (stA D s n kd a).length ≤ cA n kd a
  | 0 => Nat.le_refl _
  | a + 1 => by
    have ih := stA_len D s n kd a
    have hc := stB_len D s n kd a n
    rw [stA, cA, List.length_append]
    omega
theorem stK_len (D : RD) (s n : Nat) : ∀ kd, (stK D s n kd).length ≤ cK n kd
  | 0 => Nat.le_refl _
  | kd + 1 => by
    have ih := stK_len D s n kd
    have hc := stA_len D s n kd n
    rw [stK, cK, List.length_append]
    omega
/-- room for one more -/
theorem st_room {D : RD} {s n kd a b c : Nat} (hn : n ≤ 10) (hk : kd < 3) (ha : a < n) (hb : b < n) (hc : c < nCs n kd) (hvB : ¬ ((kd = 1 ∧ b ≤ a) ∨ a = b)) (hvC : ¬ (kd = 1 ∧ (c = a ∨ c = b))) :
    (stK D s n kd).length + (stA D s n kd a).length + (stB D s n kd a b).length + (stC D s kd a b c).length < 540 := by
  have h1 := stK_len D s n kd
  have h2 := stA_len D s n kd a
  have h3 := stB_len D s n kd a b
  have h4 := stC_len D s kd a b c
  have h5 : cC kd a b (c + 1) ≤ cC kd a b (nCs n kd) := cC_m kd a b hc
  rw [cC, if_neg hvC] at h5
  have h6 : cB n kd a (b + 1) ≤ cB n kd a n := cB_m n kd a hb
  rw [cB, if_neg hvB] at h6
  have h7 : cA n kd (a + 1) ≤ cA n kd n := cA_m n kd ha
  rw [cA] at h7
  have h8 : cK n (kd + 1) ≤ cK n 3 := cK_m n hk
  rw [cK] at h8
  have h9 := cK_le n (by omega)
  omega
theorem stB_0 {D : RD} {s n a : Nat} : ∀ b, b ≤ a + 1 → stB D s n 1 a b = []
  | 0, _ => rfl
  | b + 1, h => by
    rw [stB, stB_0 b (by omega), ifp_f]
    · rfl
    · intro q
      have := q.1 rfl
      omega
theorem stC_off {D : RD} {s kd a b : Nat} (h : D.1.testBit kd = false) : ∀ c, stC D s kd a b c = []
  | 0 => rfl
  | c + 1 => by
    rw [stC, stC_off h c, ifp_f]
    · rfl
    · intro q
      have := q.2.2.1
      rw [h] at this
      cases this
theorem stB_off {D : RD} {s n kd a : Nat} (h : D.1.testBit kd = false) : ∀ b, stB D s n kd a b = []
  | 0 => rfl
  | b + 1 => by
    rw [stB, stB_off h b, stC_off h]
    rcases Classical.em (vB s kd a b) with q | q
    · rw [ifp_t q]; rfl
    · rw [ifp_f q]; rfl
theorem stA_off {D : RD} {s n kd : Nat} (h : D.1.testBit kd = false) : ∀ a, stA D s n kd a = []
  | 0 => rfl
  | a + 1 => by rw [stA, stA_off h a, stB_off h]; rfl
/-- six numbers for each product, in a row of the memory -/
def encq (D : RD) (r : Nat → Int32) (i : Nat) (q : Q4) : Prop :=
  (r (6 * i)).toInt = q.1 ∧ (r (6 * i + 1)).toInt = q.2.1 ∧ (r (6 * i + 2)).toInt = q.2.2.1 ∧ (r (6 * i + 3)).toInt = (if q.1 = 1 then (q.2.2.2 : Int) else -1) ∧ (r (6 * i + 4)).toInt = pCh D q.1 q.2.1 q.2.2.1 q.2.2.2 ∧ (r (6 * i + 5)).toInt = pLv D q.1 q.2.1 q.2.2.1 q.2.2.2
def encd (D : RD) (r : Nat → Int32) (L : List Q4) : Prop := ∀ i q, L[i]? = some q → encq D r i q
theorem encd_nil (D : RD) (r : Nat → Int32) : encd D r [] := fun i q h => by simp at h
theorem encq_c {D : RD} {r r' : Nat → Int32} {i : Nat} {q : Q4} (h : encq D r i q) (hr : ∀ k, k < 6 * i + 6 → r' k = r k) : encq D r' i q := by
  unfold encq at h ⊢
  rw [hr _ (by omega), hr _ (by omega), hr _ (by omega), hr _ (by omega), hr _ (by omega), hr _ (by omega)]
  exact h
theorem encd_add {D : RD} {r r' : Nat → Int32} {L : List Q4} {q : Q4} (h : encd D r L) (hr : ∀ k, k < 6 * L.length → r' k = r k) (hq : encq D r' L.length q) : encd D r' (L ++ [q]) := by
  intro i x hx
  rcases Nat.lt_or_ge i L.length with hl | hl
  · rw [List.getElem?_append_left hl] at hx
    exact encq_c (h i x hx) (fun k hk => hr k (by omega))
  · rw [List.getElem?_append_right hl] at hx
    have h1 : i - L.length < 1 := (List.getElem?_eq_some_iff.mp hx).1
    have h2 : i = L.length := by omega
    subst h2
    rw [Nat.sub_self] at hx
    cases hx
    exact hq
end PRD
section PRM
def SetM (mi : MI) (D : RD) : Prop := ((mi 62 0).toInt = (D.1 : Int) ∧ D.1 < 8) ∧ ((mi 62 1).toInt = D.2.1 ∧ 0 ≤ D.2.1 ∧ D.2.1 ≤ 300) ∧ ((mi 62 2).toInt = D.2.2.1 ∧ 0 ≤ D.2.2.1 ∧ D.2.2.1 ≤ 300)
theorem SetM.c {mi mi' : MI} {D : RD} (h : SetM mi D) (e : mi' 62 = mi 62) : SetM mi' D := by unfold SetM at h ⊢; rw [e]; exact h
def RowM (mi : MI) (D : RD) (N : Nat) : Prop := ∀ k, k < N → ((mi 65 k).toInt = D.2.2.2.1 k ∧ 0 ≤ D.2.2.2.1 k ∧ D.2.2.2.1 k ≤ 63) ∧ ((mi 66 k).toInt = D.2.2.2.2 k ∧ 0 ≤ D.2.2.2.2 k ∧ D.2.2.2.2 k ≤ 60)
theorem RowM.c {mi mi' : MI} {D : RD} {N : Nat} (h : RowM mi D N) (e5 : mi' 65 = mi 65) (e6 : mi' 66 = mi 66) : RowM mi' D N := by unfold RowM at h ⊢; rw [e5, e6]; exact h
theorem pCh_0 {K : Nat} {L3 L5 : Int} {rc rl : Nat → Int} {kd a b c : Nat} (h : kd = 0) : pCh (K, L3, L5, rc, rl) kd a b c = 2 * rc a - rc b := by subst h; rfl
theorem pCh_1 {K : Nat} {L3 L5 : Int} {rc rl : Nat → Int} {kd a b c : Nat} (h : kd = 1) : pCh (K, L3, L5, rc, rl) kd a b c = rc a + rc b - rc c := by subst h; rfl
theorem pCh_2 {K : Nat} {L3 L5 : Int} {rc rl : Nat → Int} {kd a b c : Nat} (h : kd ≠ 0) (h1 : kd ≠ 1) : pCh (K, L3, L5, rc, rl) kd a b c = 3 * rc a - 2 * rc b := by unfold pCh; rw [if_neg h, if_neg h1]
theorem pLv_2 {K : Nat} {L3 L5 : Int} {rc rl : Nat → Int} {kd a b c : Nat} (h : kd = 2) : pLv (K, L3, L5, rc, rl) kd a b c = 3 * rl a + 2 * rl b - L5 := by subst h; rfl
theorem pLv_0 {K : Nat} {L3 L5 : Int} {rc rl : Nat → Int} {kd a b c : Nat} (h : kd = 0) : pLv (K, L3, L5, rc, rl) kd a b c = rl a + rl b + rl a - L3 := by subst h; rfl
theorem pLv_1 {K : Nat} {L3 L5 : Int} {rc rl : Nat → Int} {kd a b c : Nat} (h : kd ≠ 0) (h2 : kd ≠ 2) : pLv (K, L3, L5, rc, rl) kd a b c = rl a + rl b + rl c - L3 := by unfold pLv; rw [if_neg h2, if_neg h]
end PRM
section WFS
/-- a block of the model that can stand -/
def WFV (V : Nat → Int32) : Prop :=
  ((0 ≤ (V 0).toInt ∧ (V 0).toInt ≤ 7) ∧ (0 ≤ (V 1).toInt ∧ (V 1).toInt ≤ 300) ∧ (0 ≤ (V 2).toInt ∧ (V 2).toInt ≤ 300) ∧ (0 ≤ (V 3).toInt ∧ (V 3).toInt ≤ 5) ∧ (1 ≤ (V 4).toInt ∧ (V 4).toInt ≤ 10)) ∧
  ((0 ≤ (V 5).toInt ∧ (V 5).toInt ≤ 10) ∧ (0 ≤ (V 26).toInt ∧ (V 26).toInt ≤ 5) ∧ (0 ≤ (V 32).toInt ∧ (V 32).toInt ≤ 16)) ∧
  (∀ c : Nat, (c : Int) < (V 5).toInt → (0 ≤ (V (6 + 2 * c)).toInt ∧ (V (6 + 2 * c)).toInt ≤ 63) ∧ (0 ≤ (V (7 + 2 * c)).toInt ∧ (V (7 + 2 * c)).toInt ≤ 60)) ∧
  (∀ c d : Nat, (c : Int) < (V 5).toInt → (d : Int) < (V 5).toInt → V (6 + 2 * c) = V (6 + 2 * d) → c = d) ∧
  (∀ k : Nat, (k : Int) < (V 26).toInt → 0 ≤ (V (27 + k)).toInt ∧ (V (27 + k)).toInt < ((2 ^ (V 5).toInt.toNat : Nat) : Int)) ∧
  (∀ t : Nat, (t : Int) < (V 32).toInt → (0 ≤ (V (33 + 3 * t)).toInt ∧ (V (33 + 3 * t)).toInt < ((2 ^ (V 5).toInt.toNat : Nat) : Int)) ∧ (0 ≤ (V (34 + 3 * t)).toInt ∧ (V (34 + 3 * t)).toInt ≤ 63) ∧ (V (35 + 3 * t) = 0 ∨ V (35 + 3 * t) = 1))
/-- what the products need of a block -/
def DV (V : Nat → Int32) : RD := ((V 0).toInt.toNat, (V 1).toInt, (V 2).toInt, (fun k => (V (6 + 2 * k)).toInt), (fun k => (V (7 + 2 * k)).toInt))
theorem WFV.n {V : Nat → Int32} (h : WFV V) : ∃ n : Nat, (V 5).toInt = (n : Int) ∧ n ≤ 10 := ⟨(V 5).toInt.toNat, by have := h.2.1.1; omega, by have := h.2.1.1; omega⟩
theorem SetM_of {mi : MI} (h : WFV (mi 62)) : SetM mi (DV (mi 62)) := by
  have h1 := h.1
  refine ⟨⟨?_, ?_⟩, ⟨rfl, h1.2.1.1, h1.2.1.2⟩, ⟨rfl, h1.2.2.1.1, h1.2.2.1.2⟩⟩
  · show (mi 62 0).toInt = ((mi 62 0).toInt.toNat : Int)
    omega
  · show (mi 62 0).toInt.toNat < 8
    omega
/-- the list of a world's products stands at L -/
def LsP (D : RD) (mi mj : MI) (L : List Q4) : Prop := Fr [61, 67] mi mj ∧ (∀ k, k ≠ 9 → mj 61 k = mi 61 k) ∧ (mj 61 9).toInt = (L.length : Int) ∧ encd D (mj 67) L
theorem LsP_step {D : RD} {mi mj mk : MI} {L : List Q4} {q : Q4} (h : LsP D mi mj L) (h1 : Fr [61, 67] mj mk) (h2 : ∀ k, k ≠ 9 → mk 61 k = mj 61 k) (h3 : (mk 61 9).toInt = (L.length : Int) + 1) (h4 : ∀ k, k < 6 * L.length → mk 67 k = mj 67 k) (h5 : encq D (mk 67) L.length q) : LsP D mi mk (L ++ [q]) :=
  ⟨h.1.trans h1 (fun _ h => h) (fun _ h => h), fun k hk => (h2 k hk).trans (h.2.1 k hk), by rw [h3, List.length_append]; simp, encd_add h.2.2.2 h4 h5⟩
theorem st_b1 {D : RD} {s n kd a b : Nat} (h : vB s kd a b) : stB D s n kd a (b + 1) = stB D s n kd a b ++ stC D s kd a b (nCs n kd) := by rw [stB, ifp_t h]
theorem st_b0 {D : RD} {s n kd a b : Nat} (h : ¬ vB s kd a b) : stB D s n kd a (b + 1) = stB D s n kd a b := by rw [stB, ifp_f h, List.append_nil]
theorem st_c1 {D : RD} {s kd a b c : Nat} (h : vC s kd a b c) (h2 : Sg D kd a b c) : stC D s kd a b (c + 1) = stC D s kd a b c ++ [(kd, a, b, c)] := by rw [stC, ifp_t ⟨h, h2⟩]
theorem st_c0 {D : RD} {s kd a b c : Nat} (h : ¬ (vC s kd a b c ∧ Sg D kd a b c)) : stC D s kd a b (c + 1) = stC D s kd a b c := by rw [stC, ifp_f h, List.append_nil]
end WFS
