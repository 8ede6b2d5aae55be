section MO22
theorem nx_or (a b : Nat) : nI a ||| nI b = nI (a ||| b) := by
  apply Int32.toBitVec_inj.mp
  rw [Int32.toBitVec_or]
  show BitVec.ofNat 32 a ||| BitVec.ofNat 32 b = BitVec.ofNat 32 (a ||| b)
  apply BitVec.eq_of_getLsbD_eq
  intro i hi
  rw [BitVec.getLsbD_or, BitVec.getLsbD_ofNat, BitVec.getLsbD_ofNat, BitVec.getLsbD_ofNat, Nat.testBit_or]
  cases decide (i < 32) <;> simp
theorem pw_10 : ∀ k, k < 11 → ((1 : Int32) <<< (nI k &&& 31)) = nI (2 ^ k) := by decide +kernel
theorem or_pw {x y : Int32} {s k : Nat} (hx : x.toInt = (s : Int)) (hy : y.toInt = (k : Int)) (hk : k < 11) : (x ||| ((1 : Int32) <<< (y &&& 31))) = nI (s ||| 2 ^ k) := by rw [tI_nIx hx, tI_nIx hy, pw_10 k hk, nx_or]
theorem or_lt {s k : Nat} (hs : s < 1024) (hk : k < 10) : s ||| 2 ^ k < 1024 := Nat.or_lt_two_pow (n := 10) hs (Nat.pow_lt_pow_right (by omega) hk)
/-- a mixer's carriers, from the number at p on -/
noncomputable def pmS (t : Nat → Int) (nD : Nat) : Nat → Nat → Nat → Sum Nat (Nat × Nat)
  | 0, _, _ => .inl 0
  | f + 1, s, p => ifp (¬ rdO t p) (.inl (p + rdI t p)) (ifp (nD ≤ rdV t p (rdI t p) ∨ s.testBit (rdV t p (rdI t p)) = true) (.inl p) (ifp (t (p + rdI t p) = 44) (pmS t nD f (s ||| 2 ^ rdV t p (rdI t p)) (p + rdI t p + 1)) (.inr (s ||| 2 ^ rdV t p (rdI t p), p + rdI t p))))
theorem pm_1 {t : Nat → Int} {nD f s p q : Nat} (hq : q = p + rdI t p) (h : ¬ rdO t p) : pmS t nD (f + 1) s p = .inl q := by rw [pmS, ifp_t h, ← hq]
theorem pm_2 {t : Nat → Int} {nD f s p v : Nat} (hv : v = rdV t p (rdI t p)) (h : rdO t p) (h2 : nD ≤ v ∨ s.testBit v = true) : pmS t nD (f + 1) s p = .inl p := by rw [pmS, ifp_f (fun z => z h), ← hv, ifp_t h2]
theorem pm_3 {t : Nat → Int} {nD f s p q v : Nat} (hq : q = p + rdI t p) (hv : v = rdV t p (rdI t p)) (h : rdO t p) (h2 : ¬ (nD ≤ v ∨ s.testBit v = true)) (h3 : t q = 44) : pmS t nD (f + 1) s p = pmS t nD f (s ||| 2 ^ v) (q + 1) := by rw [pmS, ifp_f (fun z => z h), ← hv, ifp_f h2, ← hq, ifp_t h3]
theorem pm_4 {t : Nat → Int} {nD f s p q v : Nat} (hq : q = p + rdI t p) (hv : v = rdV t p (rdI t p)) (h : rdO t p) (h2 : ¬ (nD ≤ v ∨ s.testBit v = true)) (h3 : t q ≠ 44) : pmS t nD (f + 1) s p = .inr (s ||| 2 ^ v, q) := by rw [pmS, ifp_f (fun z => z h), ← hv, ifp_f h2, ← hq, ifp_f h3]
noncomputable def pmT (t : Nat → Int) (nD : Nat) (M : List Nat) (p : Nat) : Sum Nat (Nat × Nat) := ifp (M.length = 5) (.inl p) (pmS t nD 122 0 (p + 1))
def drX (mi : MI) (M : List Nat) : Prop := ∀ k s : Nat, M[k]? = some s → (mi 72 k).toInt = (s : Int)
theorem drX_add {mi mj : MI} {M : List Nat} {s mc : Nat} {v : Int32} (h : drX mi M) (hm : M.length = mc) (hv : v.toInt = (s : Int)) (e : mj 72 = (u2 mi 72 mc v) 72) : drX mj (M ++ [s]) := by
  subst hm
  intro k x hx
  rw [e]
  rcases Nat.lt_or_ge k M.length with hl | hl
  · rw [List.getElem?_append_left hl] at hx
    rw [u2_n (by omega)]
    exact h k x hx
  · rw [List.getElem?_append_right hl] at hx
    have h1 : k - M.length < 1 := (List.getElem?_eq_some_iff.mp hx).1
    have h2 : k = M.length := by omega
    subst h2
    rw [Nat.sub_self] at hx
    cases hx
    rw [u2_s]; exact hv
theorem rdO_p {t : Nat → Int} {p q : Nat} (h : rdO t p) (hq : q = p + rdI t p) : p < q := by have := h.1; omega
theorem u2_r {m : MI} {p k : Nat} {v : Int32} {r : Nat → Int32} (h : m p = r) : (u2 m p k v) p = (fun j => if j = k then v else r j) := by
  funext j
  rcases Nat.decEq j k with q | q
  · rw [u2_n (Or.inr q), if_neg q, h]
  · subst q; rw [u2_s, if_pos rfl]
end MO22
