section START2
def dk0 : Nat → Int32 := fun k => if k = 0 then 3 else if k = 2 then 100 else if k = 4 then 1 else 0
def mm0 : Nat → Int32 := upd (upd (upd (fun _ => 0) (Int32.toNatClampNeg 0) 3) (Int32.toNatClampNeg 2) 100) (Int32.toNatClampNeg 4) 1
def mi0 : MI := fun p => if p = 62 then mm0 else if p = 1 ∨ p = 9 ∨ p = 19 ∨ p = 27 ∨ p = 35 ∨ p = 43 then dk0 else fun _ => 0
def ml0 : MJ := fun _ _ => 0
theorem hs17 : hsF (0 + 17) = svF := by
  funext j
  unfold hsF svF
  by_cases h0 : j = 0
  · subst h0; rfl
  by_cases h1 : j = 1
  · subst h1; rfl
  by_cases h2 : j = 2
  · subst h2; rfl
  by_cases h3 : j = 3
  · subst h3; rfl
  simp [h0, h1, h2, h3]
set_option maxRecDepth 100000 in
theorem wl_0 : (([] ++ xxN 0) ++ moN (0 + 61)) ++ [.inl (1, 1, .inr (.inl (fun _ => 0)))] = wl mi0 ml0 := by
  unfold xxN hiN
  rw [hs17]
  rfl
theorem mm0_n {k : Nat} (h : 5 ≤ k) : mm0 k = 0 := by
  unfold mm0 upd
  rw [show Int32.toNatClampNeg 0 = 0 from rfl, show Int32.toNatClampNeg 2 = 2 from rfl, show Int32.toNatClampNeg 4 = 4 from rfl, if_neg (by omega), if_neg (by omega), if_neg (by omega)]
theorem Rel_0 : Rel mi0 ml0 := by
  have e62 : mi0 62 = mm0 := rfl
  have e1 : mi0 1 = dk0 := rfl
  have z5 : (mm0 5).toInt = 0 := rfl
  have z26 : (mm0 26).toInt = 0 := rfl
  have z32 : (mm0 32).toInt = 0 := rfl
  unfold Rel
  rw [e62]
  refine ⟨?_, ?_, ?_, ?_, rfl, rfl⟩
  · unfold WFV
    refine ⟨⟨by decide, by decide, by decide, by decide, by decide⟩, ⟨by decide, by decide, by decide⟩, fun c hc => absurd hc (by rw [z5]; omega), fun c d hc => absurd hc (by rw [z5]; omega), fun k hk => absurd hk (by rw [z26]; omega), fun t ht => absurd ht (by rw [z32]; omega)⟩
  · unfold DR
    refine ⟨⟨rfl, rfl, rfl, rfl, rfl⟩, ⟨rfl, rfl, rfl⟩, fun c hc => absurd hc (by rw [z5]; omega), fun k hk => absurd hk (by rw [z26]; omega), fun t ht => absurd ht (by rw [z32]; omega)⟩
  · exact ⟨0, 0, by decide, by decide, rfl, rfl, rfl, fun j hj => absurd hj (by omega)⟩
  · exact ⟨0, by decide, rfl, rfl, fun k hk => absurd hk (by omega)⟩
set_option maxRecDepth 100000 in
theorem lw_all (l : Launch) (hfl : l.stackTraces = false) {hh : List ExceptionTableEntry} {b L : Nat} {xs : Nat → Int32} (hL : L ≤ 2048) : LW hh l b L xs 0 0 0 [(0, .ref 99)] [] [] := by
  refine lw_pre l hfl ?_
  rw [wl_0]
  refine EZ_sub [4, 3, 2, 1, 0] rfl ?_
  exact lw_loop l hfl hL 512 0 0 _ _ mi0 ml0 rfl (Nat.zero_le _) (by omega) (by omega) (by omega) Rel_0
end START2
