section MO27
/-- what the digest goes over -/
noncomputable def dgL (V : Nat → Int32) (N n nm nt sc : Nat) : List Int32 := (((((((((([nI N] ++ (List.range (6 + 2 * n)).map V) ++ [nI (prV V (2 ^ n - 1) n).length]) ++ [nI (hsA V (prV V (2 ^ n - 1) n) n)]) ++ [V 26]) ++ (List.range nm).map (fun k => V (27 + k))) ++ [V 32]) ++ (List.range (3 * nt)).map (fun k => V (33 + k))) ++ [nI (fitL V n nm nt (2 ^ nm)).length]) ++ [Int32.ofInt (bsF (fitL V n nm nt (2 ^ nm)))]) ++ [nI sc])
theorem SM.d {mi mj mk : MI} {n nm nt : Nat} {c : Int32} (h : SM c mi mj) (g : DgS mj mk n nm nt) : SM c mi mk :=
  ⟨h.1.trans g.1 (fun _ h => h) (by decide), (g.2.1 2 (by decide) (by decide)).trans h.2.1, (g.2.1 4 (by decide) (by decide)).trans h.2.2.1, (g.2.1 5 (by decide) (by decide)).trans h.2.2.2⟩
theorem oI_x {a : Int32} {z : Int} (h : a.toInt = z) : a = Int32.ofInt z := by rw [← h, Int32.ofInt_toInt]
theorem hF9_1 {x : Int64} {a b : Int32} (e : a = b) (hy : x = 31 * 3067 + a.toInt64) : x = hF9 3067 [b] := by subst e; exact hy
end MO27
