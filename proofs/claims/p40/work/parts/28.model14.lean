section MO14
theorem DgS.L {mi mj : MI} {n nm nt : Nat} {V : Nat → Int32} (h : DgS mi mj n nm nt) (e : mi 62 = V) : (mj 61 14).toInt = ((fitL V n nm nt (2 ^ nm)).length : Int) ∧ lsN mj (fitL V n nm nt (2 ^ nm)) := by subst e; exact h.2.2
theorem SM_d {mi mj : MI} {n nm nt : Nat} {c : Int32} (h : DgS (u2 mi 61 5 c) mj n nm nt) : SM c mi mj :=
  ⟨Fr.trans (F := [61]) (Fr.rfl'.u (by decide)) h.1 (by decide) (by decide), by rw [h.2.1 2 (by decide) (by decide), u2_n (by omega)], by rw [h.2.1 4 (by decide) (by decide), u2_n (by omega)], by rw [h.2.1 5 (by decide) (by decide), u2_s]⟩
theorem WFV_T {V V' : Nat → Int32} {n nt : Nat} {a c h : Int32} (hw : WFV V) (hn : (V 5).toInt = (n : Int)) (hnt : (V 32).toInt = (nt : Int)) (hlt : nt < 16) (hA : 0 ≤ a.toInt ∧ a.toInt ≤ ((2 ^ n - 1 : Nat) : Int)) (hC : 0 ≤ c.toInt ∧ c.toInt ≤ 63) (hH : h = 0 ∨ h = 1) (e0 : ∀ k, k < 33 + 3 * nt → k ≠ 32 → V' k = V k) (e1 : V' (33 + 3 * nt) = a) (e2 : V' (34 + 3 * nt) = c) (e3 : V' (35 + 3 * nt) = h) (e4 : (V' 32).toInt = (nt : Int) + 1) : WFV V' := by
  have b5 := hw.2.1.1
  have b26 := hw.2.1.2.1
  have c5 : V' 5 = V 5 := e0 5 (by omega) (by omega)
  have c26 : V' 26 = V 26 := e0 26 (by omega) (by omega)
  refine ⟨?_, ?_, ?_, ?_, ?_, ?_⟩
  · rw [e0 0 (by omega) (by omega), e0 1 (by omega) (by omega), e0 2 (by omega) (by omega), e0 3 (by omega) (by omega), e0 4 (by omega) (by omega)]
    exact hw.1
  · rw [c5, c26, e4]
    exact ⟨b5, b26, by omega, by omega⟩
  · intro k hk
    rw [c5] at hk
    rw [e0 (6 + 2 * k) (by omega) (by omega), e0 (7 + 2 * k) (by omega) (by omega)]
    exact hw.2.2.1 k hk
  · intro x y hx hy
    rw [c5] at hx hy
    rw [e0 (6 + 2 * x) (by omega) (by omega), e0 (6 + 2 * y) (by omega) (by omega)]
    exact hw.2.2.2.1 x y hx hy
  · intro k hk
    rw [c26] at hk
    rw [c5, e0 (27 + k) (by omega) (by omega)]
    exact hw.2.2.2.2.1 k hk
  · intro t ht
    rw [e4] at ht
    rw [c5]
    rcases Nat.lt_or_ge t nt with q | q
    · rw [e0 (33 + 3 * t) (by omega) (by omega), e0 (34 + 3 * t) (by omega) (by omega), e0 (35 + 3 * t) (by omega) (by omega)]
      exact hw.2.2.2.2.2 t (by omega)
    · have e : t = nt := by omega
      subst e
      rw [e1, e2, e3, show (V 5).toInt.toNat = n by omega]
      exact ⟨⟨hA.1, by have := Nat.two_pow_pos n; omega⟩, hC, hH⟩
/-- the diagnosis with the fewest mixers -/
def bsF (L : List Nat) : Int := L.foldl (fun b s => if b = -1 ∨ popc s < popc b.toNat then (s : Int) else b) (-1)
theorem bsF_add (L : List Nat) (s : Nat) : bsF (L ++ [s]) = if bsF L = -1 ∨ popc s < popc (bsF L).toNat then (s : Int) else bsF L := by unfold bsF; rw [List.foldl_append]; rfl
theorem bsF_or (L : List Nat) : bsF L = -1 ∨ ∃ s, s ∈ L ∧ bsF L = (s : Int) := by
  have h : ∀ (M : List Nat) (b : Int), (M.foldl (fun b s => if b = -1 ∨ popc s < popc b.toNat then (s : Int) else b) b) = b ∨ ∃ s, s ∈ M ∧ (M.foldl (fun b s => if b = -1 ∨ popc s < popc b.toNat then (s : Int) else b) b) = (s : Int) := by
    intro M
    induction M with
    | nil => intro b; exact Or.inl rfl
    | cons s M ih =>
      intro b
      rw [List.foldl_cons]
      rcases ih (if b = -1 ∨ popc s < popc b.toNat then (s : Int) else b) with q | ⟨x, hx, q⟩
      · rw [q]
        split
        · exact Or.inr ⟨s, List.mem_cons_self .., rfl⟩
        · exact Or.inl rfl
      · exact Or.inr ⟨x, List.mem_cons_of_mem _ hx, q⟩
  exact h L (-1)
theorem take_s {L : List Nat} {i s : Nat} (h : L[i]? = some s) : L.take (i + 1) = L.take i ++ [s] := by rw [List.take_add_one, h]; rfl
/-- bad in all diagnoses, or in none -/
noncomputable def ctF (P : Prop) (m : Int32) (L : List Nat) : Int32 := L.foldl (fun w s => w &&& ifp P (nI s) (nI s ^^^ (-1))) m
theorem ctF_add (P : Prop) (m : Int32) (L : List Nat) (s : Nat) : ctF P m (L ++ [s]) = ctF P m L &&& ifp P (nI s) (nI s ^^^ (-1)) := by unfold ctF; rw [List.foldl_append]; rfl
/-- how many diagnoses are heard by h -/
def cntF (L : List Nat) (h : Nat) : Nat := (L.filter (fun s => decide ((s &&& h) ≠ 0))).length
theorem cntF_y {L : List Nat} {h i s : Nat} (hs : L[i]? = some s) (c : (s &&& h) ≠ 0) : cntF (L.take (i + 1)) h = cntF (L.take i) h + 1 := by
  rw [take_s hs, cntF, cntF, List.filter_append, List.length_append]; simp [c]
theorem cntF_n {L : List Nat} {h i s : Nat} (hs : L[i]? = some s) (c : (s &&& h) = 0) : cntF (L.take (i + 1)) h = cntF (L.take i) h + 0 := by
  rw [take_s hs, cntF, cntF, List.filter_append, List.length_append]; simp [c]
theorem cntF_le (L : List Nat) (h : Nat) : cntF L h ≤ L.length := List.length_filter_le _ _
theorem take_le (L : List Nat) (i : Nat) : (L.take i).length ≤ i := by rw [List.length_take]; omega
noncomputable def btW (V : Nat → Int32) (n nm act : Nat) (L : List Nat) (c : Nat) : Nat := if L.length - cntF L (hbS V n act c nm) < cntF L (hbS V n act c nm) then cntF L (hbS V n act c nm) else L.length - cntF L (hbS V n act c nm)
noncomputable def btS (V : Nat → Int32) (n nm act : Nat) (L : List Nat) : Nat → Nat × Nat
  | 0 => (0, 100)
  | c + 1 => if btW V n nm act L c < (btS V n nm act L c).2 then (c, btW V n nm act L c) else btS V n nm act L c
theorem btS_y {V : Nat → Int32} {n nm act c : Nat} {L : List Nat} (h : btW V n nm act L c < (btS V n nm act L c).2) : btS V n nm act L (c + 1) = (c, btW V n nm act L c) := by rw [btS, if_pos h]
theorem btS_n {V : Nat → Int32} {n nm act c : Nat} {L : List Nat} (h : ¬ btW V n nm act L c < (btS V n nm act L c).2) : btS V n nm act L (c + 1) = btS V n nm act L c := by rw [btS, if_neg h]
theorem btS_1 (V : Nat → Int32) (n nm act : Nat) (L : List Nat) : ∀ c, (btS V n nm act L c).1 ≤ c
  | 0 => Nat.le_refl _
  | c + 1 => by
    have ih := btS_1 V n nm act L c
    rw [btS]
    split
    · show c ≤ c + 1
      omega
    · omega
theorem btS_2 (V : Nat → Int32) (n nm act : Nat) (L : List Nat) : ∀ c, (btS V n nm act L c).2 ≤ 100
  | 0 => Nat.le_refl _
  | c + 1 => by
    have ih := btS_2 V n nm act L c
    rw [btS]
    split
    · show btW V n nm act L c ≤ 100
      omega
    · omega
theorem bs_y1 {L : List Nat} {s : Nat} {x : Int32} (hb : x.toInt = bsF L) (c : x.toInt = -1) (hs : s < 32) : (nI s).toInt = (if bsF L = -1 ∨ popc s < popc (bsF L).toNat then (s : Int) else bsF L) := by
  rw [if_pos (Or.inl (hb.symm.trans c))]; exact tI_nI (by omega)
theorem bs_y2 {L : List Nat} {s k : Nat} {x : Int32} (hb : x.toInt = bsF L) (hx : x.toInt = (k : Int)) (c : popc s < popc k) (hs : s < 32) : (nI s).toInt = (if bsF L = -1 ∨ popc s < popc (bsF L).toNat then (s : Int) else bsF L) := by
  rw [if_pos (Or.inr (by rw [← hb, hx]; exact c))]; exact tI_nI (by omega)
theorem bs_nat {V : Nat → Int32} {n nm nt i : Nat} {x : Int32} (hb : x.toInt = bsF ((fitL V n nm nt (2 ^ nm)).take i)) (hc : x.toInt ≠ -1) (h : 2 ^ nm ≤ 32) : ∃ k : Nat, x.toInt = (k : Int) ∧ k < 1024 := by
  rcases bsF_or ((fitL V n nm nt (2 ^ nm)).take i) with q | ⟨s, hs, q⟩
  · exact absurd (hb.trans q) hc
  · exact ⟨s, hb.trans q, by have := fitL_lt _ _ (List.mem_of_mem_take hs); omega⟩
end MO14
