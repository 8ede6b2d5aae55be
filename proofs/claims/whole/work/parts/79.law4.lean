section LW4
theorem m63 (x : Int32) : ∃ c : Nat, (x &&& 63).toInt = (c : Int) ∧ c ≤ 63 := by
  have h : (x.toBitVec &&& 63#32).toNat ≤ 63 := by rw [BitVec.toNat_and]; exact Nat.and_le_right
  refine ⟨(x.toBitVec &&& 63#32).toNat, ?_, h⟩
  rw [show (x &&& 63).toInt = (x.toBitVec &&& 63#32).toInt from rfl, BitVec.toInt_eq_toNat_cond, if_pos (by omega)]
set_option maxRecDepth 100000 in
theorem lw_tab (l : Launch) (hfl : l.stackTraces = false) {hh : List ExceptionTableEntry} {b L : Nat} {xs : Nat → Int32} {j : Nat} {i : Int32} (hi : i.toInt = ((4 * j : Nat) : Int)) (hj : 4 * j + 4 ≤ L) (hL : L ≤ 2048) {k n : Nat} (hk : k ≤ 5000 + 1000 * j) (hn : n ≤ 10000 + 10000 * j) {mi : MI} {ml : MJ} (R : Rel mi ml) (K : LK hh l b L xs j i) : LW hh l b L xs k n 39 [(0, .ref 99), (1, .ref 0), (2, .ref 61), (3, .ref 73), (4, .int i)] [.int (xs (4 * j) &&& 63)] (wl mi ml) := by
  obtain ⟨c, hc, hc2⟩ := m63 (xs (4 * j))
  rcases Nat.lt_or_ge 36 c with h | h
  · refine EZ_tabOut 1999 dL_law_39 (Or.inr (by rw [hc]; omega)) (by decide) ?_
    exact K _ _ mi ml (by omega) (by omega) R
  rcases (show c = 0 ∨ c = 1 ∨ c = 2 ∨ c = 3 ∨ c = 4 ∨ c = 5 ∨ c = 6 ∨ c = 7 ∨ c = 8 ∨ c = 9 ∨ c = 10 ∨ c = 11 ∨ c = 12 ∨ c = 13 ∨ c = 14 ∨ c = 15 ∨ c = 16 ∨ c = 17 ∨ c = 18 ∨ c = 19 ∨ c = 20 ∨ c = 21 ∨ c = 22 ∨ c = 23 ∨ c = 24 ∨ c = 25 ∨ c = 26 ∨ c = 27 ∨ c = 28 ∨ c = 29 ∨ c = 30 ∨ c = 31 ∨ c = 32 ∨ c = 33 ∨ c = 34 ∨ c = 35 ∨ c = 36 by omega) with h9 | h9 | h9 | h9 | h9 | h9 | h9 | h9 | h9 | h9 | h9 | h9 | h9 | h9 | h9 | h9 | h9 | h9 | h9 | h9 | h9 | h9 | h9 | h9 | h9 | h9 | h9 | h9 | h9 | h9 | h9 | h9 | h9 | h9 | h9 | h9 | h9 <;> subst h9
  · refine EZ_tabIn (off := 161) 200 dL_law_39 (by rw [hc]; decide) (by rw [hc]; decide) (by rw [hc]; rfl) (by decide) ?_
    exact lw_c0 l hfl hi hj hL hk hn R K
  · refine EZ_tabIn (off := 229) 268 dL_law_39 (by rw [hc]; decide) (by rw [hc]; decide) (by rw [hc]; rfl) (by decide) ?_
    exact lw_c1 l hfl hi hj hL hk hn R K
  · refine EZ_tabIn (off := 309) 348 dL_law_39 (by rw [hc]; decide) (by rw [hc]; decide) (by rw [hc]; rfl) (by decide) ?_
    exact lw_c2 l hfl hi hj hL hk hn R K
  · refine EZ_tabIn (off := 365) 404 dL_law_39 (by rw [hc]; decide) (by rw [hc]; decide) (by rw [hc]; rfl) (by decide) ?_
    exact lw_c3 l hfl hi hj hL hk hn R K
  · refine EZ_tabIn (off := 421) 460 dL_law_39 (by rw [hc]; decide) (by rw [hc]; decide) (by rw [hc]; rfl) (by decide) ?_
    exact lw_c4 l hfl hi hj hL hk hn R K
  · refine EZ_tabIn (off := 501) 540 dL_law_39 (by rw [hc]; decide) (by rw [hc]; decide) (by rw [hc]; rfl) (by decide) ?_
    exact lw_c5 l hfl hi hj hL hk hn R K
  · refine EZ_tabIn (off := 569) 608 dL_law_39 (by rw [hc]; decide) (by rw [hc]; decide) (by rw [hc]; rfl) (by decide) ?_
    exact lw_c6 l hfl hi hj hL hk hn R K
  · refine EZ_tabIn (off := 625) 664 dL_law_39 (by rw [hc]; decide) (by rw [hc]; decide) (by rw [hc]; rfl) (by decide) ?_
    by_cases hb : xs (4 * j + 2) = 0
    · exact lw_c7z l hfl hi hj hL hk hn R hb K
    · exact lw_c7n l hfl hi hj hL hk hn R hb K
  · refine EZ_tabIn (off := 709) 748 dL_law_39 (by rw [hc]; decide) (by rw [hc]; decide) (by rw [hc]; rfl) (by decide) ?_
    exact lw_c8 l hfl hi hj hL hk hn R K
  · refine EZ_tabIn (off := 723) 762 dL_law_39 (by rw [hc]; decide) (by rw [hc]; decide) (by rw [hc]; rfl) (by decide) ?_
    exact lw_c9 l hfl hi hj hL hk hn R K
  · refine EZ_tabIn (off := 736) 775 dL_law_39 (by rw [hc]; decide) (by rw [hc]; decide) (by rw [hc]; rfl) (by decide) ?_
    exact lw_c10 l hfl hi hj hL hk hn R K
  · refine EZ_tabIn (off := 804) 843 dL_law_39 (by rw [hc]; decide) (by rw [hc]; decide) (by rw [hc]; rfl) (by decide) ?_
    exact lw_c11 l hfl hi hj hL hk hn R K
  · refine EZ_tabIn (off := 859) 898 dL_law_39 (by rw [hc]; decide) (by rw [hc]; decide) (by rw [hc]; rfl) (by decide) ?_
    exact lw_c12 l hfl hi hj hL hk hn R K
  · refine EZ_tabIn (off := 872) 911 dL_law_39 (by rw [hc]; decide) (by rw [hc]; decide) (by rw [hc]; rfl) (by decide) ?_
    exact lw_c13 l hfl hi hj hL hk hn R K
  · refine EZ_tabIn (off := 928) 967 dL_law_39 (by rw [hc]; decide) (by rw [hc]; decide) (by rw [hc]; rfl) (by decide) ?_
    exact lw_c14 l hfl hi hj hL hk hn R K
  · refine EZ_tabIn (off := 941) 980 dL_law_39 (by rw [hc]; decide) (by rw [hc]; decide) (by rw [hc]; rfl) (by decide) ?_
    exact lw_c15 l hfl hi hj hL hk hn R K
  · refine EZ_tabIn (off := 954) 993 dL_law_39 (by rw [hc]; decide) (by rw [hc]; decide) (by rw [hc]; rfl) (by decide) ?_
    exact lw_c16 l hfl hi hj hL hk hn R K
  · refine EZ_tabIn (off := 967) 1006 dL_law_39 (by rw [hc]; decide) (by rw [hc]; decide) (by rw [hc]; rfl) (by decide) ?_
    exact lw_c17 l hfl hi hj hL hk hn R K
  · refine EZ_tabIn (off := 1023) 1062 dL_law_39 (by rw [hc]; decide) (by rw [hc]; decide) (by rw [hc]; rfl) (by decide) ?_
    exact lw_c18 l hfl hi hj hL hk hn R K
  · refine EZ_tabIn (off := 1078) 1117 dL_law_39 (by rw [hc]; decide) (by rw [hc]; decide) (by rw [hc]; rfl) (by decide) ?_
    exact lw_c19 l hfl hi hj hL hk hn R K
  · refine EZ_tabIn (off := 1146) 1185 dL_law_39 (by rw [hc]; decide) (by rw [hc]; decide) (by rw [hc]; rfl) (by decide) ?_
    exact lw_c20 l hfl hi hj hL hk hn R K
  · refine EZ_tabIn (off := 1201) 1240 dL_law_39 (by rw [hc]; decide) (by rw [hc]; decide) (by rw [hc]; rfl) (by decide) ?_
    exact lw_c21 l hfl hi hj hL hk hn R K
  · refine EZ_tabIn (off := 1257) 1296 dL_law_39 (by rw [hc]; decide) (by rw [hc]; decide) (by rw [hc]; rfl) (by decide) ?_
    exact lw_c22 l hfl hi hj hL hk hn R K
  · refine EZ_tabIn (off := 1313) 1352 dL_law_39 (by rw [hc]; decide) (by rw [hc]; decide) (by rw [hc]; rfl) (by decide) ?_
    by_cases hb : xs (4 * j + 3) = 0
    · exact lw_c23z l hfl hi hj hL hk hn R hb K
    · exact lw_c23n l hfl hi hj hL hk hn R hb K
  · refine EZ_tabIn (off := 1409) 1448 dL_law_39 (by rw [hc]; decide) (by rw [hc]; decide) (by rw [hc]; rfl) (by decide) ?_
    exact lw_c24 l hfl hi hj hL hk hn R K
  · refine EZ_tabIn (off := 1465) 1504 dL_law_39 (by rw [hc]; decide) (by rw [hc]; decide) (by rw [hc]; rfl) (by decide) ?_
    by_cases hb : xs (4 * j + 3) = 0
    · exact lw_c25z l hfl hi hj hL hk hn R hb K
    · exact lw_c25n l hfl hi hj hL hk hn R hb K
  · refine EZ_tabIn (off := 1561) 1600 dL_law_39 (by rw [hc]; decide) (by rw [hc]; decide) (by rw [hc]; rfl) (by decide) ?_
    exact lw_c26 l hfl hi hj hL hk hn R K
  · refine EZ_tabIn (off := 1629) 1668 dL_law_39 (by rw [hc]; decide) (by rw [hc]; decide) (by rw [hc]; rfl) (by decide) ?_
    exact lw_c27 l hfl hi hj hL hk hn R K
  · refine EZ_tabIn (off := 1697) 1736 dL_law_39 (by rw [hc]; decide) (by rw [hc]; decide) (by rw [hc]; rfl) (by decide) ?_
    exact lw_c28 l hfl hi hj hL hk hn R K
  · refine EZ_tabIn (off := 1710) 1749 dL_law_39 (by rw [hc]; decide) (by rw [hc]; decide) (by rw [hc]; rfl) (by decide) ?_
    exact lw_c29 l hfl hi hj hL hk hn R K
  · refine EZ_tabIn (off := 1723) 1762 dL_law_39 (by rw [hc]; decide) (by rw [hc]; decide) (by rw [hc]; rfl) (by decide) ?_
    by_cases hb : xs (4 * j + 1) = 0
    · exact lw_c30z l hfl hi hj hL hk hn R hb K
    · exact lw_c30n l hfl hi hj hL hk hn R hb K
  · refine EZ_tabIn (off := 1764) 1803 dL_law_39 (by rw [hc]; decide) (by rw [hc]; decide) (by rw [hc]; rfl) (by decide) ?_
    exact lw_c31 l hfl hi hj hL hk hn R K
  · refine EZ_tabIn (off := 1820) 1859 dL_law_39 (by rw [hc]; decide) (by rw [hc]; decide) (by rw [hc]; rfl) (by decide) ?_
    exact lw_c32 l hfl hi hj hL hk hn R K
  · refine EZ_tabIn (off := 1876) 1915 dL_law_39 (by rw [hc]; decide) (by rw [hc]; decide) (by rw [hc]; rfl) (by decide) ?_
    exact lw_c33 l hfl hi hj hL hk hn R K
  · refine EZ_tabIn (off := 1889) 1928 dL_law_39 (by rw [hc]; decide) (by rw [hc]; decide) (by rw [hc]; rfl) (by decide) ?_
    exact lw_c34 l hfl hi hj hL hk hn R K
  · refine EZ_tabIn (off := 1902) 1941 dL_law_39 (by rw [hc]; decide) (by rw [hc]; decide) (by rw [hc]; rfl) (by decide) ?_
    exact lw_c35 l hfl hi hj hL hk hn R K
  · refine EZ_tabIn (off := 1946) 1985 dL_law_39 (by rw [hc]; decide) (by rw [hc]; decide) (by rw [hc]; rfl) (by decide) ?_
    exact lw_c36 l hfl hi hj hL hk hn R K
theorem ofNat_I {L : Nat} (h : L ≤ 2048) : (Int32.ofNat L).toInt = (L : Int) := tI_nI (by omega)
set_option maxRecDepth 100000 in
theorem lw_loop (l : Launch) (hfl : l.stackTraces = false) {hh : List ExceptionTableEntry} {b L : Nat} {xs : Nat → Int32} (hL : L ≤ 2048) : ∀ (f j : Nat) (i : Int32) (k n : Nat) (mi : MI) (ml : MJ), i.toInt = ((4 * j : Nat) : Int) → 4 * j ≤ L → L ≤ 4 * j + 4 * f → k ≤ 5000 + 1000 * j → n ≤ 10000 + 10000 * j → Rel mi ml → LW hh l b L xs k n 23 [(0, .ref 99), (1, .ref 0), (2, .ref 61), (3, .ref 73), (4, .int i)] [] (wl mi ml) := by
  intro f
  induction f with
  | zero =>
    intro j i k n mi ml hi hj hf hk hn R
    refine EZ_iload 4 dL_law_23 rfl ?_
    refine EZ_aload_n 0 dL_law_25 rfl rfl ?_
    refine L_len dL_law_26 ?_
    refine EZ_iconst 4 (by decide) dL_law_27 ?_
    refine EZ_isub dL_law_28 ?_
    refine ZZ_gt ((4 * j : Nat) : Int) ((L : Int) - 4) hi (tI_sub (ofNat_I hL) (show (4 : Int32).toInt = 4 from rfl) (by omega)) 2005 dL_law_29 (by decide) (fun _ => ?_) (fun q => absurd q (by omega))
    refine EZ_iconst 1 (by decide) dL_law_2005 ?_
    exact L_ret (by omega) (by omega) dL_law_2006
  | succ f ih =>
    intro j i k n mi ml hi hj hf hk hn R
    refine EZ_iload 4 dL_law_23 rfl ?_
    refine EZ_aload_n 0 dL_law_25 rfl rfl ?_
    refine L_len dL_law_26 ?_
    refine EZ_iconst 4 (by decide) dL_law_27 ?_
    refine EZ_isub dL_law_28 ?_
    refine ZZ_gt ((4 * j : Nat) : Int) ((L : Int) - 4) hi (tI_sub (ofNat_I hL) (show (4 : Int32).toInt = 4 from rfl) (by omega)) 2005 dL_law_29 (by decide) (fun _ => ?_) (fun q => ?_)
    · refine EZ_iconst 1 (by decide) dL_law_2005 ?_
      exact L_ret (by omega) (by omega) dL_law_2006
    · refine EZ_aload_n 0 dL_law_32 rfl rfl ?_
      refine EZ_iload 4 dL_law_33 rfl ?_
      refine L_ld (4 * j) hi (by omega) dL_law_35 ?_
      refine EZ_bipush 63 (by decide) dL_law_36 ?_
      refine EZ_iand dL_law_38 ?_
      refine lw_tab l hfl hi (by omega) hL hk hn R (fun k' n' mi' ml' hk' hn' R' => ?_)
      refine EZ_iinc 4 (i + 4) [(4, .int (i + 4)), (0, .ref 99), (1, .ref 0), (2, .ref 61), (3, .ref 73)] dL_law_1999 rfl rfl (by decide) rfl ?_
      refine EZ_goto 23 dL_law_2002 (by decide) ?_
      refine EZ_sub [1, 2, 3, 4, 0] rfl ?_
      exact ih (j + 1) (i + 4) k' n' mi' ml' ((tI_add hi (show (4 : Int32).toInt = 4 from rfl) (by omega)).trans (by omega)) (by omega) (by omega) (by omega) (by omega) R'
end LW4
