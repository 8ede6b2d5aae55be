section PU3
/-! THE RULERS: parts of clean rows are clean; what the search finds, and that it finds. -/
theorem pC0 (D : RD) (a b c : Nat) : pCh D 0 a b c = 2 * D.2.2.2.1 a - D.2.2.2.1 b := rfl
theorem pC1 (D : RD) (a b c : Nat) : pCh D 1 a b c = D.2.2.2.1 a + D.2.2.2.1 b - D.2.2.2.1 c := rfl
theorem pC2 (D : RD) (a b c : Nat) : pCh D 2 a b c = 3 * D.2.2.2.1 a - 2 * D.2.2.2.1 b := rfl
theorem pL0 (D : RD) (a b c : Nat) : pLv D 0 a b c = D.2.2.2.2 a + D.2.2.2.2 b + D.2.2.2.2 a - D.2.1 := rfl
theorem pL1 (D : RD) (a b c : Nat) : pLv D 1 a b c = D.2.2.2.2 a + D.2.2.2.2 b + D.2.2.2.2 c - D.2.1 := rfl
theorem pL2 (D : RD) (a b c : Nat) : pLv D 2 a b c = 3 * D.2.2.2.2 a + 2 * D.2.2.2.2 b - D.2.2.1 := rfl
theorem FX_e {D D' : RD} {kd a b c a2 b2 c2 x : Nat} (hk : D'.1 = D.1) (h1 : pCh D kd a2 b2 c2 = pCh D' kd a b c) (h2 : pLv D kd a2 b2 c2 = pLv D' kd a b c) (h : FX D' kd a b c x) : FX D kd a2 b2 c2 x := by
  obtain ⟨⟨h3, h4, h5⟩, h6⟩ := h
  exact ⟨⟨by rw [h1]; exact h3, by rw [← hk]; exact h4, by rw [h2]; exact h5⟩, by rw [h1]; exact h6⟩
theorem ClR_map {D D' : RD} {g sp : Int} {N N' : Nat} (f : Nat → Nat) (hk : D'.1 = D.1) (h3 : D'.2.1 = D.2.1) (h5 : D'.2.2.1 = D.2.2.1) (hf : ∀ i, i < N' → f i < N) (hi : ∀ i j, i < N' → j < N' → f i = f j → i = j) (hc : ∀ i, i < N' → D'.2.2.2.1 i = D.2.2.2.1 (f i)) (hl : ∀ i, i < N' → D'.2.2.2.2 i = D.2.2.2.2 (f i)) (h : ClR D g sp N) : ClR D' g sp N' := by
  rw [ClR_iff] at h ⊢
  refine ⟨fun a b ha hb hab hz => h.1 (f a) (f b) (hf a ha) (hf b hb) (fun e => hab (hi a b ha hb e)) ?_, fun x hx hz => h.2 x hx ?_⟩
  · unfold cwP at hz ⊢
    rw [hc a ha, hc b hb] at hz
    exact hz
  · obtain ⟨⟨k, hk1, hk2⟩, kd, a, b, c, ⟨ha, hb, hc9, hv⟩, hF⟩ := hz
    refine ⟨⟨f k, hf k hk1, by rw [← hc k hk1]; exact hk2⟩, ?_⟩
    rcases hv with ⟨e, h6, h7, h8⟩ | ⟨e, h6, h7⟩
    · subst e
      have n1 : f a ≠ f b := fun e => by have := hi a b ha hb e; omega
      have n2 : f c ≠ f a := fun e => h7 (hi c a hc9 ha e)
      have n3 : f c ≠ f b := fun e => h8 (hi c b hc9 hb e)
      rcases Nat.lt_or_gt_of_ne n1 with q | q
      · exact ⟨1, f a, f b, f c, ⟨hf a ha, hf b hb, hf c hc9, Or.inl ⟨rfl, q, n2, n3⟩⟩, FX_e hk (by rw [pC1, pC1, hc a ha, hc b hb, hc c hc9]) (by rw [pL1, pL1, hl a ha, hl b hb, hl c hc9, h3]) hF⟩
      · exact ⟨1, f b, f a, f c, ⟨hf b hb, hf a ha, hf c hc9, Or.inl ⟨rfl, q, n3, n2⟩⟩, FX_e hk (by rw [pC1, pC1, hc a ha, hc b hb, hc c hc9]; omega) (by rw [pL1, pL1, hl a ha, hl b hb, hl c hc9, h3]; omega) hF⟩
    · subst h7
      have n1 : f a ≠ f b := fun e => h6 (hi a b ha hb e)
      have hN : 0 < N := Nat.lt_of_le_of_lt (Nat.zero_le _) (hf a ha)
      rcases e with e | e
      · subst e
        exact ⟨0, f a, f b, 0, ⟨hf a ha, hf b hb, hN, Or.inr ⟨Or.inl rfl, n1, rfl⟩⟩, FX_e hk (by rw [pC0, pC0, hc a ha, hc b hb]) (by rw [pL0, pL0, hl a ha, hl b hb, h3]) hF⟩
      · subst e
        exact ⟨2, f a, f b, 0, ⟨hf a ha, hf b hb, hN, Or.inr ⟨Or.inr rfl, n1, rfl⟩⟩, FX_e hk (by rw [pC2, pC2, hc a ha, hc b hb]) (by rw [pL2, pL2, hl a ha, hl b hb, h5]) hF⟩
theorem getD_mem {R : List Nat} {i : Nat} (h : i < R.length) : R.getD i 0 ∈ R ∧ R[i]? = some (R.getD i 0) := by
  have e : R[i]? = some (R[i]) := List.getElem?_eq_getElem h
  have e2 : R.getD i 0 = R[i] := by rw [List.getD_eq_getElem?_getD, e]; rfl
  exact ⟨by rw [e2]; exact List.getElem_mem h, by rw [e2]; exact e⟩
theorem getD_of {R : List Nat} {x : Nat} (h : x ∈ R) : ∃ i, i < R.length ∧ R.getD i 0 = x := by
  obtain ⟨i, hi, e⟩ := List.mem_iff_getElem.mp h
  exact ⟨i, hi, by rw [List.getD_eq_getElem?_getD, List.getElem?_eq_getElem hi, e]; rfl⟩
theorem getD_inj {R : List Nat} {i j : Nat} (hd : R.Nodup) (hi : i < R.length) (hj : j < R.length) (e : R.getD i 0 = R.getD j 0) : i = j := by
  exact (List.getElem?_inj hi hd).mp (by rw [(getD_mem hi).2, (getD_mem hj).2, e])
theorem ClN_sub {V : Nat → Int32} {R R' : List Nat} (hd : R'.Nodup) (hs : ∀ x, x ∈ R' → x ∈ R) (h : ClN V R) : ClN V R' := by
  have hx : ∀ i, ∃ j, i < R'.length → (j < R.length ∧ R.getD j 0 = R'.getD i 0) := by
    intro i
    rcases Nat.lt_or_ge i R'.length with q | q
    · obtain ⟨j, h1, h2⟩ := getD_of (hs _ (getD_mem q).1)
      exact ⟨j, fun _ => ⟨h1, h2⟩⟩
    · exact ⟨0, fun z => absurd z (by omega)⟩
  obtain ⟨f, hf⟩ := Classical.axiomOfChoice hx
  refine ClR_map (D := DS V R) (D' := DS V R') (N := R.length) (N' := R'.length) f rfl rfl rfl (fun i hi => (hf i hi).1) (fun i j hi hj e => ?_) (fun i hi => ?_) (fun i hi => rfl) h
  · refine getD_inj hd hi hj ?_
    rw [← (hf i hi).2, ← (hf j hj).2, e]
  · show (R'.getD i 0 : Int) = (R.getD (f i) 0 : Int)
    rw [(hf i hi).2]
/-- a rising row from x on, below s -/
def incr (x s : Nat) : List Nat → Prop
  | [] => True
  | y :: ys => x ≤ y ∧ y < s ∧ incr (y + 1) s ys
theorem incr_b : ∀ {ys : List Nat} {x s : Nat}, incr x s ys → ∀ y, y ∈ ys → x ≤ y ∧ y < s
  | [], _, _, _, _, h => by cases h
  | z :: ys, x, s, h, y, hy => by
    rcases List.mem_cons.mp hy with e | e
    · subst e; exact ⟨h.1, h.2.1⟩
    · have := incr_b h.2.2 y e
      have := h.1
      omega
theorem incr_d : ∀ {ys : List Nat} {x s : Nat}, incr x s ys → ys.Nodup
  | [], _, _, _ => List.nodup_nil
  | z :: ys, x, s, h => List.nodup_cons.mpr ⟨fun q => by have := incr_b h.2.2 z q; omega, incr_d h.2.2⟩
theorem incr_l : ∀ {ys : List Nat} {x s t : Nat}, incr x s (ys ++ [t]) → incr x t ys ∧ x ≤ t ∧ t < s
  | [], _, _, _, h => ⟨trivial, h.1, h.2.1⟩
  | z :: ys, x, s, t, h => by
    obtain ⟨h1, h2, h3⟩ := h
    have ih := incr_l (ys := ys) h3
    exact ⟨⟨h1, by omega, ih.1⟩, by omega, ih.2.2⟩
theorem rul_d {ys : List Nat} {s : Nat} (h : incr 1 s ys) (hs : 1 ≤ s) : ([0, s] ++ ys).Nodup := by
  refine List.nodup_cons.mpr ⟨fun q => ?_, List.nodup_cons.mpr ⟨fun q => ?_, incr_d h⟩⟩
  · rcases List.mem_cons.mp q with e | e
    · omega
    · have := incr_b h 0 e; omega
  · have := incr_b h s q; omega
theorem frF_some {f : Nat → Option (List Nat)} {R : List Nat} : ∀ {k x : Nat}, frF f x k = some R → ∃ y, x ≤ y ∧ y < x + k ∧ f y = some R
  | 0, _, h => by cases h
  | k + 1, x, h => by
    rw [frF] at h
    cases e : f x with
    | some z =>
      rw [e] at h
      exact ⟨x, Nat.le_refl _, by omega, e.trans h⟩
    | none =>
      rw [e, Option.none_or] at h
      obtain ⟨y, h1, h2, h3⟩ := frF_some h
      exact ⟨y, by omega, by omega, h3⟩
theorem frF_ne {f : Nat → Option (List Nat)} {y : Nat} (hy : f y ≠ none) : ∀ {k x : Nat}, x ≤ y → y < x + k → frF f x k ≠ none
  | 0, _, _, h => by omega
  | k + 1, x, h1, h2 => by
    rw [frF]
    rcases Nat.lt_or_ge x y with q | q
    · have ih := frF_ne hy (k := k) (x := x + 1) (by omega) (by omega)
      cases e : f x with
      | some z => intro z9; cases z9
      | none => rw [Option.none_or]; exact ih
    · obtain rfl : x = y := by omega
      cases e : f x with
      | some z => intro z9; cases z9
      | none => exact absurd e hy
theorem skF_sound {V : Nat → Int32} {s : Nat} : ∀ {l : Nat} {R : List Nat} {x : Nat} {R' : List Nat}, skF V s l R x = some R' → ∃ ys, R' = R ++ ys ∧ ys.length = l ∧ incr x s ys ∧ (l = 0 ∨ ClN V R')
  | 0, R, x, R', h => by
    rw [skF] at h
    cases h
    exact ⟨[], by rw [List.append_nil], rfl, trivial, Or.inl rfl⟩
  | l + 1, R, x, R', h => by
    rw [skF] at h
    obtain ⟨y, h1, h2, h3⟩ := frF_some h
    rcases Classical.em (ClN V (R ++ [y])) with q | q
    · rw [ifp_t q] at h3
      obtain ⟨ys, e1, e2, e3, e4⟩ := skF_sound h3
      refine ⟨y :: ys, by rw [e1, List.append_assoc]; rfl, by rw [List.length_cons, e2], ⟨h1, by omega, e3⟩, Or.inr ?_⟩
      rcases e4 with e4 | e4
      · subst e4
        rw [List.length_eq_zero_iff.mp e2, List.append_nil] at e1
        rw [e1]
        exact q
      · exact e4
    · rw [ifp_f q] at h3
      cases h3
theorem skF_comp {V : Nat → Int32} {s : Nat} : ∀ {ys R : List Nat} {x : Nat}, incr x s ys → (R ++ ys).Nodup → ClN V (R ++ ys) → skF V s ys.length R x ≠ none
  | [], R, x, _, _, _ => by
    show skF V s 0 R x ≠ none
    rw [skF]
    intro h
    cases h
  | y :: ys, R, x, hi, hd, hc => by
    show skF V s (ys.length + 1) R x ≠ none
    rw [skF]
    have e : R ++ y :: ys = (R ++ [y]) ++ ys := by rw [List.append_assoc]; rfl
    refine frF_ne (y := y) ?_ hi.1 (by have := hi.1; have := hi.2.1; omega)
    have hd1 : (R ++ [y]).Nodup := by rw [e] at hd; exact (List.nodup_append.mp hd).1
    rw [ifp_t (ClN_sub hd1 (fun z hz => by rw [e]; exact List.mem_append_left _ hz) hc)]
    refine skF_comp hi.2.2 (by rw [← e]; exact hd) (by rw [← e]; exact hc)
/-- what the search's answer is -/
theorem rul_spec {V : Nat → Int32} {m s : Nat} {R : List Nat} (hm : 1 ≤ m) (h : skFA V m s = some R) : R.length = m ∧ R.Nodup ∧ (∀ x, x ∈ R → x ≤ s) ∧ 0 ∈ R ∧ s ∈ R ∧ (2 ≤ m → 1 ≤ s ∧ ∃ ys, R = [0, s] ++ ys ∧ ys.length = m - 2 ∧ incr 1 s ys ∧ ClN V R) := by
  unfold skFA at h
  by_cases h1 : m = 1
  · rw [if_pos h1] at h
    by_cases h2 : s = 0
    · rw [if_pos h2] at h
      cases h
      subst h1; subst h2
      exact ⟨rfl, by decide, fun x hx => by rw [List.mem_singleton.mp hx]; exact Nat.le_refl _, List.mem_singleton.mpr rfl, List.mem_singleton.mpr rfl, fun q => by omega⟩
    · rw [if_neg h2] at h; cases h
  · rw [if_neg h1] at h
    by_cases h2 : s = 0
    · rw [if_pos h2] at h; cases h
    · rw [if_neg h2] at h
      rcases Classical.em (ClN V [0, s]) with q | q
      · rw [ifp_t q] at h
        obtain ⟨ys, e1, e2, e3, e4⟩ := skF_sound h
        have hcl : ClN V R := by
          rcases e4 with e4 | e4
          · rw [e4] at e2
            rw [e1, List.length_eq_zero_iff.mp e2, List.append_nil]
            exact q
          · exact e4
        have hs : 1 ≤ s := by omega
        refine ⟨by rw [e1, List.length_append, e2]; show 2 + (m - 2) = m; omega, by rw [e1]; exact rul_d e3 hs, fun x hx => ?_, by rw [e1]; exact List.mem_append_left _ List.mem_cons_self, by rw [e1]; exact List.mem_append_left _ (List.mem_cons_of_mem _ List.mem_cons_self), fun _ => ⟨hs, ys, e1, e2, e3, hcl⟩⟩
        rw [e1] at hx
        rcases List.mem_append.mp hx with z | z
        · rcases List.mem_cons.mp z with z | z
          · omega
          · rw [List.mem_singleton.mp z]; exact Nat.le_refl _
        · have := incr_b e3 x z; omega
      · rw [ifp_f q] at h; cases h
theorem rul_of {V : Nat → Int32} {m s : Nat} {ys : List Nat} (hm : 2 ≤ m) (hs : 1 ≤ s) (h1 : incr 1 s ys) (h2 : ys.length = m - 2) (h3 : ClN V ([0, s] ++ ys)) : skFA V m s ≠ none := by
  have hd := rul_d h1 hs
  unfold skFA
  rw [if_neg (by omega), if_neg (by omega), ifp_t (ClN_sub (R := [0, s] ++ ys) (R' := [0, s]) (List.nodup_append.mp hd).1 (fun x hx => List.mem_append_left _ hx) h3), ← h2]
  exact skF_comp h1 hd h3
theorem rul_1 (V : Nat → Int32) : skFA V 1 0 = some [0] := rfl
theorem rul_sub {V : Nat → Int32} {m t : Nat} (hm : 1 ≤ m) (h : skFA V (m + 1) t ≠ none) : ∃ s, s ≤ t ∧ skFA V m s ≠ none := by
  rcases Nat.lt_or_ge m 2 with q | q
  · obtain rfl : m = 1 := by omega
    exact ⟨0, Nat.zero_le _, by rw [rul_1]; intro z; cases z⟩
  · cases e : skFA V (m + 1) t with
    | none => exact absurd e h
    | some R =>
      obtain ⟨_, hd, _, _, _, h6⟩ := rul_spec (by omega) e
      obtain ⟨ht, ys, e1, e2, e3, e4⟩ := h6 (by omega)
      rcases List.eq_nil_or_concat ys with z | ⟨zs, s, z⟩
      · subst z
        have : (0 : Nat) = m + 1 - 2 := e2
        omega
      · rw [List.concat_eq_append] at z
        rw [z] at e1 e2 e3
        rw [List.length_append] at e2
        obtain ⟨f1, f2, f3⟩ := incr_l e3
        refine ⟨s, by omega, rul_of q f2 f1 (by have : zs.length + 1 = m + 1 - 2 := e2; omega) ?_⟩
        refine ClN_sub (rul_d f1 f2) (fun x hx => ?_) e4
        rw [e1]
        rcases List.mem_append.mp hx with w | w
        · rcases List.mem_cons.mp w with w | w
          · rw [w]; exact List.mem_append_left _ List.mem_cons_self
          · rw [List.mem_singleton.mp w]; exact List.mem_append_right _ (List.mem_append_right _ (List.mem_singleton.mpr rfl))
        · exact List.mem_append_right _ (List.mem_append_left _ w)
/-- a least span -/
def LspP (V : Nat → Int32) (m : Nat) (r : Int) : Prop := (∃ s : Nat, s ≤ 40 ∧ r = (s : Int) ∧ skFA V m s ≠ none ∧ ∀ t, t < s → skFA V m t = none) ∨ (r = -1 ∧ ∀ t, t ≤ 40 → skFA V m t = none)
theorem LspP_of {V : Nat → Int32} {m : Nat} {r : Int32} {mi : MI} {ml : MJ} (h : BrE V m r mi ml) : LspP V m r.toInt := by
  rcases h with ⟨s, R, h1, h2, h3, h4, _⟩ | ⟨h1, h2⟩
  · exact Or.inl ⟨s, h1, h2, (by rw [h3]; intro z; cases z), h4⟩
  · exact Or.inr ⟨by rw [h1]; rfl, h2⟩
theorem LspP_u {V : Nat → Int32} {m : Nat} {r r' : Int} (h : LspP V m r) (h' : LspP V m r') : r = r' := by
  rcases h with ⟨s, h1, h2, h3, h4⟩ | ⟨h2, h4⟩
  · rcases h' with ⟨s', k1, k2, k3, k4⟩ | ⟨k2, k4⟩
    · rcases Nat.lt_trichotomy s s' with q | q | q
      · exact absurd (k4 s q) h3
      · subst q; omega
      · exact absurd (h4 s' q) k3
    · exact absurd (k4 s h1) h3
  · rcases h' with ⟨s', k1, k2, k3, k4⟩ | ⟨k2, k4⟩
    · exact absurd (h4 s' k1) k3
    · omega
theorem LspP_1 {V : Nat → Int32} {r : Int} (h : LspP V 1 r) : r = 0 := LspP_u h (Or.inl ⟨0, Nat.zero_le _, rfl, (by rw [rul_1]; intro z; cases z), fun t ht => absurd ht (Nat.not_lt_zero _)⟩)
theorem LspP_m {V : Nat → Int32} {m : Nat} {r r' : Int} (hm : 1 ≤ m) (h : LspP V m r) (h' : LspP V (m + 1) r') : (r < 0 → r' = -1) ∧ (0 ≤ r' → 0 ≤ r ∧ r ≤ r') := by
  rcases h' with ⟨s', k1, k2, k3, k4⟩ | ⟨k2, k4⟩
  · obtain ⟨t, t1, t2⟩ := rul_sub hm k3
    rcases h with ⟨s, h1, h2, h3, h4⟩ | ⟨h2, h4⟩
    · rcases Nat.lt_or_ge t s with q | q
      · exact absurd (h4 t q) t2
      · omega
    · exact absurd (h4 t (by omega)) t2
  · omega
theorem smF_zero {f : Nat → Nat} {k x : Nat} (h : ∀ y, f y = 0) : smF f x k = 0 := smF_0 (fun y _ _ => h y)
theorem frF_n {f : Nat → Option (List Nat)} : ∀ {k x : Nat}, frF f x k = none → ∀ y, x ≤ y → y < x + k → f y = none := by
  intro k x h y h1 h2
  cases e : f y with
  | none => rfl
  | some z => exact absurd h (frF_ne (y := y) (by rw [e]; intro q; cases q) h1 h2)
theorem skF_z {V : Nat → Int32} {s : Nat} : ∀ {l : Nat} {R : List Nat} {x : Nat}, skF V s l R x = none → skC V s l R x = 0
  | 0, _, _, h => by rw [skF] at h; cases h
  | l + 1, R, x, h => by
    rw [skF] at h
    rw [skC]
    refine smF_0 (fun y h1 h2 => ?_)
    have h3 := frF_n h y h1 h2
    rcases Classical.em (ClN V (R ++ [y])) with q | q
    · rw [ifp_t q] at h3 ⊢; exact skF_z h3
    · rw [ifp_f q]
theorem skFA_z {V : Nat → Int32} {m s : Nat} (h : skFA V m s = none) : skCA V m s = 0 := by
  unfold skFA at h
  unfold skCA
  by_cases h1 : m = 1
  · rw [if_pos h1] at h ⊢
    by_cases h2 : s = 0
    · rw [if_pos h2] at h; cases h
    · rw [if_neg h2]
  · rw [if_neg h1] at h ⊢
    by_cases h2 : s = 0
    · rw [if_pos h2]
    · rw [if_neg h2] at h ⊢
      rcases Classical.em (ClN V [0, s]) with q | q
      · rw [ifp_t q] at h ⊢; exact skF_z h
      · rw [ifp_f q]
theorem CrE_n0 {V : Nat → Int32} {m s : Nat} {x : Int} {mi : MI} {ml : MJ} (h : CrE V m s 10000 x mi ml) (hn : skFA V m s = none) : x = 0 := by
  have e := skFA_z hn
  rcases h with ⟨h1, _⟩ | ⟨_, h1, _⟩
  · rw [e] at h1; exact h1
  · omega
theorem CrE_n1 {V : Nat → Int32} {m s : Nat} {x : Int} {mi : MI} {ml : MJ} (h : CrE V m s 10000 x mi ml) (hn : skFA V m s ≠ none) : 1 ≤ x := by
  have e : skCA V m s ≠ 0 := fun q => hn (skFA_none q)
  rcases h with ⟨h1, _⟩ | ⟨h0, h1, _⟩ <;> omega
/-! THE KNOWN LEAST SPANS. -/
def KV (V : Nat → Int32) : Prop := (V 0).toInt = 3 ∧ (0 ≤ (V 1).toInt ∧ (V 1).toInt ≤ 180) ∧ (V 3).toInt = 0 ∧ (V 4).toInt = 1
/-- y beside a row: no difference twice -/
def chk (R : List Nat) (y : Nat) : Bool := R.all (fun a => R.all (fun b => a == b || (!(2 * y == a + b) && R.all (fun c => a == c || !(y + a == b + c)))))
def orF (f : Nat → Bool) : Nat → Nat → Bool
  | _, 0 => false
  | x, k + 1 => f x || orF f (x + 1) k
def gS (s : Nat) : Nat → List Nat → Nat → Bool
  | 0, _, _ => true
  | l + 1, R, x => orF (fun y => chk R y && gS s l (R ++ [y]) (y + 1)) x (s - x)
theorem orF_t {f : Nat → Bool} {y : Nat} (hy : f y = true) : ∀ {k x : Nat}, x ≤ y → y < x + k → orF f x k = true
  | 0, _, _, h => by omega
  | k + 1, x, h1, h2 => by
    rw [orF]
    rcases Nat.lt_or_ge x y with q | q
    · rw [orF_t hy (k := k) (x := x + 1) (by omega) (by omega), Bool.or_true]
    · obtain rfl : x = y := by omega
      rw [hy, Bool.true_or]
theorem KV_hit {V : Nat → Int32} {R : List Nat} {kd a b c k : Nat} (hV : KV V) (hR : ∀ x, x ∈ R → x ≤ 40) (hkd : kd < 2) (hk : k < R.length) (h : nHt (DS V R) (V 3).toInt R.length kd a b c) (e : pCh (DS V R) kd a b c = (R.getD k 0 : Int)) : False := by
  obtain ⟨h1, h2, h3, h4⟩ := hV
  have hb := hR _ (getD_mem hk).1
  refine h k hk ⟨⟨by omega, by omega⟩, ?_, ?_⟩ ?_
  · show ((V 0).toInt.toNat).testBit kd = true
    rw [h1]
    rcases (by omega : kd = 0 ∨ kd = 1) with q | q <;> subst q <;> rfl
  · rcases (by omega : kd = 0 ∨ kd = 1) with q | q
    · subst q
      show (0 : Int) ≤ 60 + 60 + 60 - (V 1).toInt
      omega
    · subst q
      show (0 : Int) ≤ 60 + 60 + 60 - (V 1).toInt
      omega
  · rw [e, h3]
    show (0 - 0 : Int) ≤ (R.getD k 0 : Int) - (R.getD k 0 : Int) ∧ (R.getD k 0 : Int) - (R.getD k 0 : Int) ≤ 0
    omega
theorem chk_of {V : Nat → Int32} {R : List Nat} {y : Nat} (hV : KV V) (hR : ∀ x, x ∈ R → x ≤ 40) (hy : y ≤ 40) (h : ClN V (R ++ [y])) : chk R y = true := by
  have hR' : ∀ x, x ∈ R ++ [y] → x ≤ 40 := mem_a hR hy
  have hl : (R ++ [y]).length = R.length + 1 := by rw [List.length_append]; rfl
  have eR : ∀ i, i < R.length → (R ++ [y]).getD i 0 = R.getD i 0 := fun i hi => by
    rw [List.getD_eq_getElem?_getD, List.getD_eq_getElem?_getD, List.getElem?_append_left hi]
  have ey : (R ++ [y]).getD R.length 0 = y := by
    rw [List.getD_eq_getElem?_getD, List.getElem?_append_right (Nat.le_refl _), Nat.sub_self]; rfl
  have dI : ∀ i, i < R.length → (DS V (R ++ [y])).2.2.2.1 i = (R.getD i 0 : Int) := fun i hi => by
    show ((R ++ [y]).getD i 0 : Int) = _
    rw [eR i hi]
  have dY : (DS V (R ++ [y])).2.2.2.1 R.length = (y : Int) := DS_l
  have hC := ClN_iff.mp h
  rw [← hl] at hC
  have hh := fun {kd a b c k : Nat} => KV_hit (V := V) (R := R ++ [y]) (kd := kd) (a := a) (b := b) (c := c) (k := k) hV hR'
  unfold chk
  refine List.all_eq_true.mpr (fun a ha => List.all_eq_true.mpr (fun b hb => ?_))
  obtain ⟨i, hi, ei⟩ := getD_of ha
  obtain ⟨j, hj, ej⟩ := getD_of hb
  by_cases eab : a = b
  · rw [eab]; simp
  · have hij : i ≠ j := fun e => eab (by rw [← ei, ← ej, e])
    have e1 : (a == b) = false := by simp [eab]
    rw [e1, Bool.false_or, Bool.and_eq_true]
    refine ⟨?_, List.all_eq_true.mpr (fun c hc => ?_)⟩
    · by_cases q : 2 * y = a + b
      · exfalso
        refine hh (kd := 0) (a := R.length) (b := i) (c := 0) (k := j) (by decide) (by omega) ((hC R.length (by omega) i (by omega)).1 (by omega)).2.1 ?_
        rw [pC0, dY, dI i hi, eR j hj, ei, ej]
        omega
      · simp [q]
    · obtain ⟨k, hk, ek⟩ := getD_of hc
      by_cases eac : a = c
      · rw [eac]; simp
      · have hik : i ≠ k := fun e => eac (by rw [← ei, ← ek, e])
        by_cases q : y + a = b + c
        · exfalso
          by_cases hjk : j = k
          · refine hh (kd := 0) (a := j) (b := i) (c := 0) (k := R.length) (by decide) (by omega) ((hC j (by omega) i (by omega)).1 (by omega)).2.1 ?_
            rw [pC0, dI j hj, dI i hi, ey, ei, ej]
            have : b = c := by rw [← ej, ← ek, hjk]
            omega
          · rcases Nat.lt_or_gt_of_ne hjk with w | w
            · refine hh (kd := 1) (a := j) (b := k) (c := i) (k := R.length) (by decide) (by omega) ((hC j (by omega) k (by omega)).2 i (by omega) w hij hik) ?_
              rw [pC1, dI j hj, dI k hk, dI i hi, ey, ei, ej, ek]
              omega
            · refine hh (kd := 1) (a := k) (b := j) (c := i) (k := R.length) (by decide) (by omega) ((hC k (by omega) j (by omega)).2 i (by omega) w hik hij) ?_
              rw [pC1, dI j hj, dI k hk, dI i hi, ey, ei, ej, ek]
              omega
        · simp [q]
theorem gS_of {V : Nat → Int32} {s : Nat} (hV : KV V) (hs : s ≤ 40) : ∀ {l : Nat} {R : List Nat} {x : Nat}, (∀ z, z ∈ R → z ≤ 40) → skF V s l R x ≠ none → gS s l R x = true
  | 0, _, _, _, _ => rfl
  | l + 1, R, x, hR, h => by
    rw [skF] at h
    cases e : frF (fun y => ifp (ClN V (R ++ [y])) (skF V s l (R ++ [y]) (y + 1)) none) x (s - x) with
    | none => exact absurd e h
    | some z =>
      obtain ⟨y, h1, h2, h3⟩ := frF_some e
      rw [gS]
      refine orF_t (y := y) ?_ h1 h2
      rcases Classical.em (ClN V (R ++ [y])) with q | q
      · rw [ifp_t q] at h3
        have hy : y ≤ 40 := by omega
        rw [chk_of hV hR hy q, gS_of hV hs (mem_a hR hy) (by rw [h3]; intro w; cases w)]; rfl
      · rw [ifp_f q] at h3; cases h3
def dueN (m : Nat) : Nat := if m = 1 then 0 else if m = 2 then 1 else if m = 3 then 3 else if m = 4 then 6 else if m = 5 then 11 else 17
theorem due_le : ∀ m, m < 7 → dueN m ≤ 17 := by decide
set_option maxRecDepth 100000 in
theorem gS_no : ∀ m, m < 7 → ∀ t, t < dueN m → 2 ≤ m → 1 ≤ t → gS t (m - 2) [0, t] 1 = false := by decide +kernel
/-- a row without a difference twice, all of it looked at -/
def gol (R : List Nat) : Prop := ∀ a, a < R.length → ∀ b, b < R.length → a ≠ b → R.getD a 0 ≠ R.getD b 0 ∧ ∀ k, k < R.length → 2 * R.getD a 0 ≠ R.getD k 0 + R.getD b 0 ∧ ∀ c, c < R.length → c ≠ a → c ≠ b → R.getD a 0 + R.getD b 0 ≠ R.getD k 0 + R.getD c 0
theorem ClN_gol {V : Nat → Int32} {R : List Nat} (hV : KV V) (h : gol R) : ClN V R := by
  obtain ⟨h1, h2, h3, h4⟩ := hV
  intro a ha b hb
  rw [h3, h4]
  refine ⟨fun hab => ⟨?_, fun k hk hS hz => ?_, fun k hk hS hz => ?_⟩, fun c hc hab hca hcb k hk hS hz => ?_⟩
  · have := (h a ha b hb hab).1
    show ¬ ((1 - 1 : Int) ≤ (R.getD a 0 : Int) - (R.getD b 0 : Int) ∧ (R.getD a 0 : Int) - (R.getD b 0 : Int) ≤ (1 - 1 : Int))
    omega
  · have := ((h a ha b hb hab).2 k hk).1
    rw [pC0] at hz
    have hz' : (0 - 0 : Int) ≤ 2 * (R.getD a 0 : Int) - (R.getD b 0 : Int) - (R.getD k 0 : Int) ∧ 2 * (R.getD a 0 : Int) - (R.getD b 0 : Int) - (R.getD k 0 : Int) ≤ 0 := hz
    omega
  · have h9 : ((V 0).toInt.toNat).testBit 2 = true := hS.2.1
    rw [h1] at h9
    exact absurd h9 (by decide)
  · have := ((h a ha b hb (by omega)).2 k hk).2 c hc hca hcb
    rw [pC1] at hz
    have hz' : (0 - 0 : Int) ≤ (R.getD a 0 : Int) + (R.getD b 0 : Int) - (R.getD c 0 : Int) - (R.getD k 0 : Int) ∧ (R.getD a 0 : Int) + (R.getD b 0 : Int) - (R.getD c 0 : Int) - (R.getD k 0 : Int) ≤ 0 := hz
    omega
def golB (R : List Nat) : Bool := (List.range R.length).all (fun a => (List.range R.length).all (fun b => a == b || (!(R.getD a 0 == R.getD b 0) && (List.range R.length).all (fun k => !(2 * R.getD a 0 == R.getD k 0 + R.getD b 0) && (List.range R.length).all (fun c => (c == a || c == b) || !(R.getD a 0 + R.getD b 0 == R.getD k 0 + R.getD c 0))))))
theorem gol_of {R : List Nat} (h : golB R = true) : gol R := by
  unfold golB at h
  simp only [Bool.or_eq_true, Bool.and_eq_true, beq_iff_eq, Bool.not_eq_true', beq_eq_false_iff_ne, List.all_eq_true, List.mem_range] at h
  intro a ha b hb hab
  have h9 := (h a ha b hb).resolve_left hab
  exact ⟨h9.1, fun k hk => ⟨(h9.2 k hk).1, fun c hc h1 h2 => ((h9.2 k hk).2 c hc).resolve_left (fun q => q.elim h1 h2)⟩⟩
theorem gol_2 : gol ([0, 1] ++ []) := gol_of (by decide +kernel)
theorem gol_3 : gol ([0, 3] ++ [1]) := gol_of (by decide +kernel)
theorem gol_4 : gol ([0, 6] ++ [1, 4]) := gol_of (by decide +kernel)
theorem gol_5 : gol ([0, 11] ++ [1, 4, 9]) := gol_of (by decide +kernel)
theorem gol_6 : gol ([0, 17] ++ [1, 4, 10, 12]) := gol_of (by decide +kernel)
theorem known_y {V : Nat → Int32} {m : Nat} (hV : KV V) (h1 : 1 ≤ m) (h6 : m ≤ 6) : skFA V m (dueN m) ≠ none := by
  rcases (by omega : m = 1 ∨ m = 2 ∨ m = 3 ∨ m = 4 ∨ m = 5 ∨ m = 6) with q | q | q | q | q | q <;> subst q
  · show skFA V 1 0 ≠ none
    rw [rul_1]; intro z; cases z
  · exact rul_of (s := 1) (ys := []) (by decide) (by decide) trivial rfl (ClN_gol hV gol_2)
  · exact rul_of (s := 3) (ys := [1]) (by decide) (by decide) ⟨by decide, by decide, trivial⟩ rfl (ClN_gol hV gol_3)
  · exact rul_of (s := 6) (ys := [1, 4]) (by decide) (by decide) ⟨by decide, by decide, by decide, by decide, trivial⟩ rfl (ClN_gol hV gol_4)
  · exact rul_of (s := 11) (ys := [1, 4, 9]) (by decide) (by decide) ⟨by decide, by decide, by decide, by decide, by decide, by decide, trivial⟩ rfl (ClN_gol hV gol_5)
  · exact rul_of (s := 17) (ys := [1, 4, 10, 12]) (by decide) (by decide) ⟨by decide, by decide, by decide, by decide, by decide, by decide, by decide, by decide, trivial⟩ rfl (ClN_gol hV gol_6)
theorem known_n {V : Nat → Int32} {m t : Nat} (hV : KV V) (h1 : 1 ≤ m) (h6 : m ≤ 6) (ht : t < dueN m) : skFA V m t = none := by
  have hd : dueN m ≤ 17 := due_le m (by omega)
  rcases Nat.lt_or_ge m 2 with q | q
  · obtain rfl : m = 1 := by omega
    exact absurd ht (Nat.not_lt_zero _)
  · unfold skFA
    rw [if_neg (by omega)]
    by_cases h2 : t = 0
    · rw [if_pos h2]
    · rw [if_neg h2]
      rcases Classical.em (ClN V [0, t]) with w | w
      · rw [ifp_t w]
        cases e : skF V t (m - 2) [0, t] 1 with
        | none => rfl
        | some z =>
          have := gS_of hV (by omega : t ≤ 40) (l := m - 2) (R := [0, t]) (x := 1) (fun z hz => by
            rcases List.mem_cons.mp hz with z9 | z9
            · omega
            · rw [List.mem_singleton.mp z9]; omega) (by rw [e]; intro q; cases q)
          rw [gS_no m (by omega) t ht q (by omega)] at this
          cases this
      · rw [ifp_f w]
theorem known_L {V : Nat → Int32} {m : Nat} {r : Int} (hV : KV V) (h1 : 1 ≤ m) (h6 : m ≤ 6) (h : LspP V m r) : r = (dueN m : Int) := by
  have hd : dueN m ≤ 40 := Nat.le_trans (due_le m (by omega)) (by decide)
  exact LspP_u h (Or.inl ⟨dueN m, hd, rfl, known_y hV h1 h6, fun t ht => known_n hV h1 h6 ht⟩)
end PU3
