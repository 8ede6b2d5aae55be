section START1
def moN (h : Nat) : List va_E := [.inr (6, [.ref (h + 1), .ref (h + 2), .int 0, .ref (h + 3), .int 0, .int 0, .ref (h + 4), .ref (h + 5), .ref (h + 6), .int 0, .ref (h + 7), .long 0, .ref (h + 8), .ref (h + 9), .int 0, .int 0, .int 0, .ref (h + 10), .int 0, .ref (h + 11), .int 0, .int 0, .long 0]), .inl (0, 81, .inl (upd (upd (upd (fun _ => 0) (Int32.toNatClampNeg 0) 3) (Int32.toNatClampNeg 2) 100) (Int32.toNatClampNeg 4) 1)), arI 324, arI 120, arI 12, arI 12, arI 3300, arI 8, arI 17, arI 32, arI 20, arI 5]
theorem n_X6m (l : Launch) (hfl : l.stackTraces = false) {pre : AW} {h : Nat} (hp : Pre pre h) : CtN l yX6_init (.code yX6_init cX6_init 1 none) 0 11 3931 [.ref h] (pre ++ [.inr (6, [.null, .null, .int 0, .null, .int 0, .int 0, .null, .null, .null, .int 0, .null, .long 0, .null, .null, .int 0, .int 0, .int 0, .null, .int 0, .null, .int 0, .int 0, .long 0])]) (pre ++ moN h) := n_X6 l hfl hp
theorem xxN_nm {h N : Nat} (hN : h + 61 ≤ N) : ∀ e ∈ xxN h, nmE N e := by
  refine List.forall_mem_cons.mpr ⟨?_, List.forall_mem_append.mpr ⟨dkN_nm (by omega), List.forall_mem_append.mpr ⟨dkN_nm (by omega), List.forall_mem_append.mpr ⟨hiN_nm (by omega), List.forall_mem_append.mpr ⟨miN_nm (by omega), List.forall_mem_append.mpr ⟨csN_nm (by omega), List.forall_mem_append.mpr ⟨plN_nm (by omega), ?_⟩⟩⟩⟩⟩⟩⟩
  · simp only [nmE, List.forall_mem_cons]
    repeat' (first | exact trivial | exact nmr (by omega) | exact (fun _ h => nomatch h) | apply And.intro)
  · exact List.forall_mem_cons.mpr ⟨trivial, fun _ h => nomatch h⟩
theorem moN_nm {h N : Nat} (hN : h + 12 ≤ N) : ∀ e ∈ moN h, nmE N e := by
  simp only [moN, List.forall_mem_cons, nmE, arI, arJ]
  repeat' (first | exact trivial | exact nmr (by omega) | exact (fun _ h => nomatch h) | apply And.intro)
theorem New_L {b L : Nat} {xs : Nat → Int32} {lv : List (Nat × Value)} {st : List Value} {w : AW} (N : Nat) (hN : N < 99) (hl : w.length = N) (ho : ∀ e ∈ w, nmE N e) (hs : ∀ v ∈ st, nm N v) (hv : ∀ x ∈ lv, nm N x.2) : New (LZ b L xs) TgL [] N lv st w :=
  ⟨⟨hl, ho, hs, hv⟩, fun _ _ _ _ _ _ => rfl, fun s ad q h => ⟨(up_n (by omega)).trans h.1, h.2⟩, (fun _ h => nomatch h), Nat.zero_le _⟩
theorem Old_L {b L : Nat} {xs : Nat → Int32} {lv : List (Nat × Value)} {st : List Value} {a c : Nat} (hc : c ≤ 99) (hs : ∀ v ∈ st, nmV a c v) (hv : ∀ x ∈ lv, nmV a c x.2) : Old (LZ b L xs) TgL [] a c lv st :=
  ⟨⟨hs, hv⟩, fun _ _ _ _ _ _ _ => rfl, fun s ad ad' h hz => ⟨(h 99 (Or.inr hc)).trans hz.1, hz.2⟩, (fun _ h => nomatch h), Nat.zero_le _⟩
theorem nmV_ge {a b i : Nat} (h : b ≤ i) : nmV a b (.ref i) := fun N _ h2 => (show i ≠ N by omega)
theorem Pre_0 : Pre [] 0 := ⟨rfl, fun _ h => nomatch h⟩
theorem Pre_61 : Pre ([] ++ xxN 0) (0 + 61) := Pre_0.ext rfl (fun _ h => xxN_nm h)
set_option maxRecDepth 100000 in
theorem lw_pre (l : Launch) (hfl : l.stackTraces = false) {hh : List ExceptionTableEntry} {b L : Nat} {xs : Nat → Int32} (K : LW hh l b L xs 74 8021 23 [(4, .int 0), (3, .ref 73), (2, .ref 61), (1, .ref 0), (0, .ref 99)] [] ((([] ++ xxN 0) ++ moN (0 + 61)) ++ [.inl (1, 1, .inr (.inl (fun _ => 0)))])) : LW hh l b L xs 0 0 0 [(0, .ref 99)] [] [] := by
  refine EZ_new (N := 0) (ci := 5) (fs := [.null, .null, .null, .null, .null, .null, .null]) (C := RX5) (T := TX5) (M := 7) (New_L 0 (by decide) rfl (fun _ h => nomatch h) (fun _ h => nomatch h) (by simp [nm])) tyX5 tyX5_ok rfl uX5 wcl_L_8 wn_X5 wz_X5 dfX5 (by simp) (Nat.le_of_ble_eq_true rfl) (Nat.le_of_ble_eq_true rfl) dL_law_0 ?_
  refine EZ_dup rfl dL_law_3 ?_
  refine EZ_callN (n_X5 l hfl Pre_0) cw_L_97 wi_yX5_init rfl ⟨Nat.le_of_ble_eq_true rfl, Nat.le_of_ble_eq_true rfl, Nat.le_of_ble_eq_true rfl, Nat.le_of_ble_eq_true rfl⟩ (Nat.le_of_ble_eq_true rfl) dL_law_4 (Old_L (by decide) (List.forall_mem_cons.mpr ⟨nmV_lt (by decide), fun _ h => nomatch h⟩) (List.forall_mem_cons.mpr ⟨nmV_ge (by decide), fun _ h => nomatch h⟩)) ?_
  refine EZ_astore_n [(1, .ref 0), (0, .ref 99)] dL_law_7 rfl (by decide) rfl ?_
  refine EZ_new (N := 61) (ci := 6) (fs := [.null, .null, .int 0, .null, .int 0, .int 0, .null, .null, .null, .int 0, .null, .long 0, .null, .null, .int 0, .int 0, .int 0, .null, .int 0, .null, .int 0, .int 0, .long 0]) (C := RX6) (T := TX6) (M := 23) (New_L 61 (by decide) rfl (xxN_nm (by decide)) (fun _ h => nomatch h) (by simp [nm])) tyX6 tyX6_ok rfl uX6 wcl_L_98 wn_X6 wz_X6 dfX6 (by simp) (Nat.le_of_ble_eq_true rfl) (Nat.le_of_ble_eq_true rfl) dL_law_8 ?_
  refine EZ_dup rfl dL_law_11 ?_
  refine EZ_callN (n_X6m l hfl Pre_61) cw_L_100 wi_yX6_init rfl ⟨Nat.le_of_ble_eq_true rfl, Nat.le_of_ble_eq_true rfl, Nat.le_of_ble_eq_true rfl, Nat.le_of_ble_eq_true rfl⟩ (Nat.le_of_ble_eq_true rfl) dL_law_12 (Old_L (by decide) (List.forall_mem_cons.mpr ⟨nmV_lt (by decide), fun _ h => nomatch h⟩) (List.forall_mem_cons.mpr ⟨nmV_lt (by decide), List.forall_mem_cons.mpr ⟨nmV_ge (by decide), fun _ h => nomatch h⟩⟩)) ?_
  refine EZ_astore_n [(2, .ref 61), (1, .ref 0), (0, .ref 99)] dL_law_15 rfl (by decide) rfl ?_
  refine EZ_iconst 1 (by decide) dL_law_16 ?_
  refine EZ_newJ (N := 73) (z := 1) (New_L 73 (by decide) rfl (List.forall_mem_append.mpr ⟨xxN_nm (by decide), moN_nm (by decide)⟩) (fun _ h => nomatch h) (by simp [nm])) (by decide) (by decide) wa_J (Nat.le_of_ble_eq_true rfl) (Nat.le_of_ble_eq_true rfl) dL_law_17 ?_
  refine EZ_astore_n [(3, .ref 73), (2, .ref 61), (1, .ref 0), (0, .ref 99)] dL_law_19 rfl (by decide) rfl ?_
  refine EZ_iconst 0 (by decide) dL_law_20 ?_
  refine EZ_istore [(4, .int 0), (3, .ref 73), (2, .ref 61), (1, .ref 0), (0, .ref 99)] dL_law_21 (by decide) rfl ?_
  exact K
end START1
