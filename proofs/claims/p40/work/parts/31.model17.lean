section MO17
/-- rows of one level, 60 -/
def DS (V : Nat → Int32) (R : List Nat) : RD := ((V 0).toInt.toNat, (V 1).toInt, (V 2).toInt, (fun k => (R.getD k 0 : Int)), (fun _ => 60))
def ClN (V : Nat → Int32) (R : List Nat) : Prop := ClR (DS V R) (V 3).toInt (V 4).toInt R.length
theorem SetM_S {mj : MI} {V : Nat → Int32} {R : List Nat} (h : SetM mj (DV V)) : SetM mj (DS V R) := SetM_e (by simp only [DV, DS]) (by simp only [DV, DS]) (by simp only [DV, DS]) h
def rwN (mi : MI) (R : List Nat) : Prop := ∀ k c : Nat, R[k]? = some c → (mi 65 k).toInt = (c : Int)
theorem RowM_S {mj : MI} {V : Nat → Int32} {m : Nat} {R : List Nat} (h : rwN mj R) (hb : ∀ c, c ∈ R → c ≤ 40) (hl : ∀ k, k < m → mj 66 k = 60) (hm : R.length ≤ m) : RowM mj (DS V R) R.length := by
  intro k hk
  have hc : R[k]? = some (R[k]) := List.getElem?_eq_getElem hk
  have e : R.getD k 0 = R[k] := by rw [List.getD_eq_getElem?_getD, hc]; rfl
  have h1 := h k _ hc
  have h2 := hb _ (List.getElem_mem hk)
  show ((mj 65 k).toInt = (R.getD k 0 : Int) ∧ 0 ≤ (R.getD k 0 : Int) ∧ (R.getD k 0 : Int) ≤ 63) ∧ ((mj 66 k).toInt = 60 ∧ (0 : Int) ≤ 60 ∧ (60 : Int) ≤ 60)
  rw [e, hl k (by omega)]
  exact ⟨⟨h1, by omega, by omega⟩, rfl, by decide, by decide⟩
/-- sums and first hits over y from x on -/
def smF (f : Nat → Nat) : Nat → Nat → Nat
  | _, 0 => 0
  | x, k + 1 => f x + smF f (x + 1) k
def frF (f : Nat → Option (List Nat)) : Nat → Nat → Option (List Nat)
  | _, 0 => none
  | x, k + 1 => (f x).or (frF f (x + 1) k)
/-- the ways to put `left` more marks, from x on, below sp -/
noncomputable def skC (V : Nat → Int32) (sp : Nat) : Nat → List Nat → Nat → Nat
  | 0, _, _ => 1
  | l + 1, R, x => smF (fun y => ifp (ClN V (R ++ [y])) (skC V sp l (R ++ [y]) (y + 1)) 0) x (sp - x)
/-- the first of them -/
noncomputable def skF (V : Nat → Int32) (sp : Nat) : Nat → List Nat → Nat → Option (List Nat)
  | 0, R, _ => some R
  | l + 1, R, x => frF (fun y => ifp (ClN V (R ++ [y])) (skF V sp l (R ++ [y]) (y + 1)) none) x (sp - x)
/-- how long the search goes on -/
def stS : Nat → Nat → Nat
  | 0, _ => 0
  | l + 1, k => 1 + (List.range k).foldl (fun a i => a + (1 + stS l i)) 0
theorem stS_s (l k : Nat) : stS (l + 1) (k + 1) = 1 + stS l k + stS (l + 1) k := by
  rw [stS, stS, List.range_succ, List.foldl_append]
  simp only [List.foldl_cons, List.foldl_nil]
  omega
theorem stS_0 (l : Nat) : 1 ≤ stS (l + 1) 0 := by rw [stS]; omega
theorem skC_e {V : Nat → Int32} {sp l x : Nat} {R : List Nat} (h : sp ≤ x) : skC V sp (l + 1) R x = 0 := by rw [skC, show sp - x = 0 by omega, smF]
theorem skF_e {V : Nat → Int32} {sp l x : Nat} {R : List Nat} (h : sp ≤ x) : skF V sp (l + 1) R x = none := by rw [skF, show sp - x = 0 by omega, frF]
theorem skC_y {V : Nat → Int32} {sp l x : Nat} {R : List Nat} (h : x < sp) (c : ClN V (R ++ [x])) : skC V sp (l + 1) R x = skC V sp l (R ++ [x]) (x + 1) + skC V sp (l + 1) R (x + 1) := by
  rw [skC, show sp - x = (sp - (x + 1)) + 1 by omega, smF]
  simp only [ifp_t c]
  rw [skC]
theorem skC_n {V : Nat → Int32} {sp l x : Nat} {R : List Nat} (h : x < sp) (c : ¬ ClN V (R ++ [x])) : skC V sp (l + 1) R x = skC V sp (l + 1) R (x + 1) := by
  rw [skC, show sp - x = (sp - (x + 1)) + 1 by omega, smF]
  simp only [ifp_f c]
  rw [skC, Nat.zero_add]
theorem skF_y {V : Nat → Int32} {sp l x : Nat} {R : List Nat} (h : x < sp) (c : ClN V (R ++ [x])) : skF V sp (l + 1) R x = (skF V sp l (R ++ [x]) (x + 1)).or (skF V sp (l + 1) R (x + 1)) := by
  rw [skF, show sp - x = (sp - (x + 1)) + 1 by omega, frF]
  simp only [ifp_t c]
  rw [skF]
theorem skF_n {V : Nat → Int32} {sp l x : Nat} {R : List Nat} (h : x < sp) (c : ¬ ClN V (R ++ [x])) : skF V sp (l + 1) R x = skF V sp (l + 1) R (x + 1) := by
  rw [skF, show sp - x = (sp - (x + 1)) + 1 by omega, frF]
  simp only [ifp_f c]
  rw [skF, Option.none_or]
theorem smF_le {f : Nat → Nat} {b : Nat} (h : ∀ y, f y ≤ b) : ∀ k x, smF f x k ≤ b * k
  | 0, _ => Nat.le_refl _
  | k + 1, x => by
    have ih := smF_le h k (x + 1)
    have h1 := h x
    rw [smF, Nat.mul_succ]; omega
theorem skC_le (V : Nat → Int32) {sp : Nat} (hs : sp ≤ 40) : ∀ l R x, skC V sp l R x ≤ 40 ^ l
  | 0, _, _ => Nat.le_refl _
  | l + 1, R, x => by
    have h := smF_le (f := fun y => ifp (ClN V (R ++ [y])) (skC V sp l (R ++ [y]) (y + 1)) 0) (b := 40 ^ l) (fun y => by
      rcases Classical.em (ClN V (R ++ [y])) with q | q
      · simp only [ifp_t q]; exact skC_le V hs l _ _
      · simp only [ifp_f q]; exact Nat.zero_le _) (sp - x) x
    rw [skC, Nat.pow_succ]
    exact Nat.le_trans h (Nat.mul_le_mul_left _ (by omega))
/-- a search: all of it -/
noncomputable def skCA (V : Nat → Int32) (m sp : Nat) : Nat := if m = 1 then (if sp = 0 then 1 else 0) else if sp = 0 then 0 else ifp (ClN V [0, sp]) (skC V sp (m - 2) [0, sp] 1) 0
noncomputable def skFA (V : Nat → Int32) (m sp : Nat) : Option (List Nat) := if m = 1 then (if sp = 0 then some [0] else none) else if sp = 0 then none else ifp (ClN V [0, sp]) (skF V sp (m - 2) [0, sp] 1) none
/-- the channels of a ruler -/
def rbF (R : List Nat) : Int64 := R.foldl (fun w x => w ||| ((1 : Int64) <<< ((nI x).toInt64 &&& 63))) 0
theorem rbF_add (R : List Nat) (x : Nat) : rbF (R ++ [x]) = rbF R ||| ((1 : Int64) <<< ((nI x).toInt64 &&& 63)) := by unfold rbF; rw [List.foldl_append]; rfl
def FJ (ml mk : MJ) : Prop := ∀ p k, (p ≠ 61 ∨ k ≠ 11) → mk p k = ml p k
theorem FJ.r {ml : MJ} : FJ ml ml := fun _ _ _ => rfl
theorem FJ.u {ml mk : MJ} {v : Int64} (h : FJ ml mk) : FJ ml (u2 mk 61 11 v) := fun p k hp => (u2_n (by omega)).trans (h p k hp)
theorem FJ.t {ml mk mn : MJ} (h : FJ ml mk) (h2 : FJ mk mn) : FJ ml mn := fun p k hp => (h2 p k hp).trans (h p k hp)
/-- what a search answers -/
def skE (V : Nat → Int32) (m sp : Nat) (P : Prop) (r : Int32) (v : Int64) : Prop := (¬ P → r.toInt = (skCA V m sp : Int)) ∧ (P → (r = 1 ∧ ∃ R, skFA V m sp = some R ∧ v = rbF R) ∨ (r = 0 ∧ skFA V m sp = none))
theorem sk_1 {V : Nat → Int32} {m sp : Nat} {P : Prop} (h : m = 1) (hs : sp = 0) : skE V m sp P 1 1 := by
  subst h; subst hs
  exact ⟨fun _ => rfl, fun _ => Or.inl ⟨rfl, [0], rfl, by decide +kernel⟩⟩
theorem sk_2 {V : Nat → Int32} {m sp : Nat} {P : Prop} {v : Int64} (h : m = 1) (hs : sp ≠ 0) : skE V m sp P 0 v := by
  subst h
  exact ⟨fun _ => by rw [skCA, if_pos rfl, if_neg hs]; rfl, fun _ => Or.inr ⟨rfl, by rw [skFA, if_pos rfl, if_neg hs]⟩⟩
theorem sk_3 {V : Nat → Int32} {m sp : Nat} {P : Prop} {v : Int64} (h : m ≠ 1) (hs : sp = 0) : skE V m sp P 0 v := by
  subst hs
  exact ⟨fun _ => by rw [skCA, if_neg h, if_pos rfl]; rfl, fun _ => Or.inr ⟨rfl, by rw [skFA, if_neg h, if_pos rfl]⟩⟩
theorem sk_4 {V : Nat → Int32} {m sp : Nat} {P : Prop} {v : Int64} (h : m ≠ 1) (hs : sp ≠ 0) (c : ¬ ClN V [0, sp]) : skE V m sp P 0 v :=
  ⟨fun _ => by rw [skCA, if_neg h, if_neg hs, ifp_f c]; rfl, fun _ => Or.inr ⟨rfl, by rw [skFA, if_neg h, if_neg hs, ifp_f c]⟩⟩
theorem sk_b : ∀ s, s < 64 → ((1 : Int64) ||| ((1 : Int64) <<< ((nI s).toInt64 &&& 63))) = rbF [0, s] := by decide +kernel
theorem sk_5 {V : Nat → Int32} {m sp : Nat} {P : Prop} {x : Int32} (h : m = 2) (hs : sp ≠ 0) (h4 : sp ≤ 40) (c : ClN V [0, sp]) (hx : x.toInt = (sp : Int)) : skE V m sp P 1 ((1 : Int64) ||| ((1 : Int64) <<< (x.toInt64 &&& 63))) := by
  subst h
  refine ⟨fun _ => ?_, fun _ => Or.inl ⟨rfl, [0, sp], ?_, ?_⟩⟩
  · rw [skCA, if_neg (by decide), if_neg hs, ifp_t c]; rfl
  · rw [skFA, if_neg (by decide), if_neg hs, ifp_t c]; rfl
  · rw [tI_nIx hx]; exact sk_b sp (by omega)
/-- the frames of the search, the innermost first -/
def frOK (mj : MI) (sp : Nat) : List (List Nat × Nat) → Prop
  | [] => True
  | (R, x) :: fs => R.length = fs.length + 2 ∧ (mj 68 (fs.length + 2)).toInt = (x : Int) ∧ x ≤ sp ∧ rwN mj R ∧ (∀ c, c ∈ R → c ≤ 40) ∧ frOK mj sp fs
theorem frOK_u {mj : MI} {sp k : Nat} {v : Int32} : ∀ {fs : List (List Nat × Nat)}, fs.length + 2 ≤ k → frOK mj sp fs → frOK (u2 mj 65 k v) sp fs
  | [], _, _ => trivial
  | (R, x) :: fs, hk, h => by
    have hk2 : fs.length + 1 + 2 ≤ k := hk
    refine ⟨h.1, by rw [u2_n (by omega)]; exact h.2.1, h.2.2.1, fun j c hj => ?_, h.2.2.2.2.1, frOK_u (by omega) h.2.2.2.2.2⟩
    have hl := (List.getElem?_eq_some_iff.mp hj).1
    rw [u2_n (by have := h.1; omega)]
    exact h.2.2.2.1 j c hj
theorem frOK_v {mj : MI} {sp k : Nat} {v : Int32} : ∀ {fs : List (List Nat × Nat)}, fs.length + 2 ≤ k → frOK mj sp fs → frOK (u2 mj 68 k v) sp fs
  | [], _, _ => trivial
  | (R, x) :: fs, hk, h => by
    have hk2 : fs.length + 1 + 2 ≤ k := hk
    exact ⟨h.1, by rw [u2_n (by omega)]; exact h.2.1, h.2.2.1, fun j c hj => by rw [u2_n (by omega)]; exact h.2.2.2.1 j c hj, h.2.2.2.2.1, frOK_v (by omega) h.2.2.2.2.2⟩
noncomputable def rmC (V : Nat → Int32) (m sp : Nat) : List (List Nat × Nat) → Nat
  | [] => 0
  | (R, x) :: fs => skC V sp (m - R.length) R x + rmC V m sp fs
noncomputable def rmF9 (V : Nat → Int32) (m sp : Nat) : List (List Nat × Nat) → Option (List Nat)
  | [] => none
  | (R, x) :: fs => (skF V sp (m - R.length) R x).or (rmF9 V m sp fs)
def rmM (m sp : Nat) : List (List Nat × Nat) → Nat
  | [] => 0
  | (R, x) :: fs => stS (m - R.length) (sp - x) + rmM m sp fs
/-- what stays of a search -/
def skI (V : Nat → Int32) (m sp : Nat) (P : Prop) (fc : Nat) (fs : List (List Nat × Nat)) : Prop := (¬ P → fc + rmC V m sp fs = skCA V m sp) ∧ (P → fc = 0 ∧ rmF9 V m sp fs = skFA V m sp)
theorem ml_s {m l : Nat} (h : l + 1 ≤ m) : m - l = (m - (l + 1)) + 1 := by omega
theorem sk_pop {V : Nat → Int32} {m sp fc x : Nat} {P : Prop} {R : List Nat} {fs : List (List Nat × Nat)} (hm : R.length + 1 ≤ m) (hx : sp ≤ x) (h : skI V m sp P fc ((R, x) :: fs)) : skI V m sp P fc fs ∧ rmM m sp fs < rmM m sp ((R, x) :: fs) := by
  obtain ⟨h1, h2⟩ := h
  rw [rmC, ml_s hm, skC_e hx, Nat.zero_add] at h1
  rw [rmF9, ml_s hm, skF_e hx, Option.none_or] at h2
  refine ⟨⟨h1, h2⟩, ?_⟩
  rw [rmM, ml_s hm, show sp - x = 0 by omega]
  have := stS_0 (m - (R.length + 1))
  omega
theorem sk_no {V : Nat → Int32} {m sp fc x : Nat} {P : Prop} {R : List Nat} {fs : List (List Nat × Nat)} (hm : R.length + 1 ≤ m) (hx : x < sp) (c : ¬ ClN V (R ++ [x])) (h : skI V m sp P fc ((R, x) :: fs)) : skI V m sp P fc ((R, x + 1) :: fs) ∧ rmM m sp ((R, x + 1) :: fs) < rmM m sp ((R, x) :: fs) := by
  obtain ⟨h1, h2⟩ := h
  rw [rmC, ml_s hm, skC_n hx c] at h1
  rw [rmF9, ml_s hm, skF_n hx c] at h2
  refine ⟨⟨fun q => by rw [rmC, ml_s hm]; exact h1 q, fun q => by rw [rmF9, ml_s hm]; exact h2 q⟩, ?_⟩
  rw [rmM, rmM, ml_s hm, show sp - x = (sp - (x + 1)) + 1 by omega, stS_s]
  omega
theorem sk_in {V : Nat → Int32} {m sp fc x : Nat} {P : Prop} {R : List Nat} {fs : List (List Nat × Nat)} (hm : R.length + 1 < m) (hx : x < sp) (c : ClN V (R ++ [x])) (h : skI V m sp P fc ((R, x) :: fs)) : skI V m sp P fc ((R ++ [x], x + 1) :: (R, x + 1) :: fs) ∧ rmM m sp ((R ++ [x], x + 1) :: (R, x + 1) :: fs) < rmM m sp ((R, x) :: fs) := by
  obtain ⟨h1, h2⟩ := h
  have e : m - (R ++ [x]).length = m - (R.length + 1) := by rw [List.length_append]; rfl
  rw [rmC, ml_s (by omega), skC_y hx c] at h1
  rw [rmF9, ml_s (by omega), skF_y hx c] at h2
  refine ⟨⟨fun q => ?_, fun q => ?_⟩, ?_⟩
  · rw [rmC, rmC, e, ml_s (l := R.length) (by omega), ← Nat.add_assoc, ← Nat.add_assoc]
    rw [← Nat.add_assoc, ← Nat.add_assoc] at h1
    exact h1 q
  · rw [rmF9, rmF9, e, ml_s (l := R.length) (by omega), ← Option.or_assoc]
    exact h2 q
  · rw [rmM, rmM, rmM, e, ml_s (l := R.length) (by omega), show sp - x = (sp - (x + 1)) + 1 by omega, stS_s]
    omega
theorem sk_one {V : Nat → Int32} {m sp fc x : Nat} {P : Prop} {R : List Nat} {fs : List (List Nat × Nat)} (hP : ¬ P) (hm : R.length + 1 = m) (hx : x < sp) (c : ClN V (R ++ [x])) (h : skI V m sp P fc ((R, x) :: fs)) : skI V m sp P (fc + 1) ((R, x + 1) :: fs) ∧ rmM m sp ((R, x + 1) :: fs) < rmM m sp ((R, x) :: fs) := by
  obtain ⟨h1, h2⟩ := h
  have e : m - R.length = 0 + 1 := by omega
  rw [rmC, e, skC_y hx c, skC] at h1
  refine ⟨⟨fun q => ?_, fun q => absurd q hP⟩, ?_⟩
  · rw [rmC, e]
    have := h1 q
    omega
  · rw [rmM, rmM, e, show sp - x = (sp - (x + 1)) + 1 by omega, stS_s]
    omega
theorem sk_hit {V : Nat → Int32} {m sp fc x : Nat} {P : Prop} {R : List Nat} {fs : List (List Nat × Nat)} {v : Int64} (hP : P) (hm : R.length + 1 = m) (hx : x < sp) (c : ClN V (R ++ [x])) (h : skI V m sp P fc ((R, x) :: fs)) (hv : v = rbF (R ++ [x])) : skE V m sp P 1 v := by
  obtain ⟨h1, h2⟩ := h
  have e : m - R.length = 0 + 1 := by omega
  rw [rmF9, e, skF_y hx c, skF] at h2
  refine ⟨fun q => absurd hP q, fun _ => Or.inl ⟨rfl, R ++ [x], ?_, hv⟩⟩
  rw [← (h2 hP).2]
  rfl
theorem sk_end {V : Nat → Int32} {m sp fc : Nat} {P : Prop} {r : Int32} {v : Int64} (hr : r.toInt = (fc : Int)) (h : skI V m sp P fc []) : skE V m sp P r v := by
  refine ⟨fun q => ?_, fun q => Or.inr ⟨?_, ?_⟩⟩
  · rw [← h.1 q]; exact hr
  · rw [tI_nIx hr, (h.2 q).1]; rfl
  · rw [← (h.2 q).2]; rfl
theorem sk_beg {V : Nat → Int32} {m sp : Nat} {P : Prop} (hm : 3 ≤ m) (hs : sp ≠ 0) (c : ClN V [0, sp]) : skI V m sp P 0 [([0, sp], 1)] := by
  refine ⟨fun _ => ?_, fun _ => ⟨rfl, ?_⟩⟩
  · rw [skCA, if_neg (by omega), if_neg hs, ifp_t c, rmC, rmC, Nat.zero_add]; rfl
  · rw [skFA, if_neg (by omega), if_neg hs, ifp_t c, rmF9, rmF9, Option.or_none]; rfl
theorem sk_fc {V : Nat → Int32} {m sp fc : Nat} {P : Prop} {fs : List (List Nat × Nat)} (hs : sp ≤ 40) (hm : m ≤ 6) (h : skI V m sp P fc fs) : fc ≤ 2560000 := by
  rcases Classical.em P with q | q
  · rw [(h.2 q).1]; exact Nat.zero_le _
  · have h1 := h.1 q
    have h2 : skCA V m sp ≤ 2560000 := by
      unfold skCA
      split
      · split <;> omega
      · split
        · omega
        · rcases Classical.em (ClN V [0, sp]) with c | c
          · rw [ifp_t c]
            exact Nat.le_trans (skC_le V hs _ _ _) (Nat.le_trans (Nat.pow_le_pow_right (by omega) (show m - 2 ≤ 4 by omega)) (by decide))
          · rw [ifp_f c]; omega
    omega
theorem rwN_add {mj : MI} {R : List Nat} {x k : Nat} {v : Int32} (h : rwN mj R) (hk : k = R.length) (hv : v.toInt = (x : Int)) : rwN (u2 mj 65 k v) (R ++ [x]) := by
  subst hk
  intro j c hj
  rcases Nat.lt_or_ge j R.length with hl | hl
  · rw [List.getElem?_append_left hl] at hj
    rw [u2_n (by omega)]
    exact h j c hj
  · rw [List.getElem?_append_right hl] at hj
    have h1 : j - R.length < 1 := (List.getElem?_eq_some_iff.mp hj).1
    have h2 : j = R.length := by omega
    subst h2
    rw [Nat.sub_self] at hj
    cases hj
    rw [u2_s]; exact hv
theorem rwN_v {mj : MI} {R : List Nat} {p k : Nat} {v : Int32} (hp : p ≠ 65) (h : rwN mj R) : rwN (u2 mj p k v) R := fun j c hj => by rw [u2_n (Or.inl (fun e => hp e.symm))]; exact h j c hj
end MO17
