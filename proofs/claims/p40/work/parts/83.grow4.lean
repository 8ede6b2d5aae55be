section GROW4
variable {Z : State → (Nat → Nat) → Prop} {l : Launch} {own : String} {cc : ByteArray} {nL : Nat} {ret : Option FieldType} {ini : Bool} {hh : List ExceptionTableEntry} {R : Room} {w0 : AW} {Tg : TgT} {k n pc : Nat} {lv : List (Nat × Value)} {st : List Value} {w : AW} {pre o : AW} {h : Nat} {mi : MI} {ml : MJ}
theorem Pre.ext {o : AW} {N : Nat} (hp : Pre pre h) (hN : o.length = N) (ho : ∀ N', h + N ≤ N' → ∀ e ∈ o, nmE N' e) : Pre (pre ++ o) (h + N) := by
  refine ⟨by rw [List.length_append, hp.1, hN], fun e he N' h1 => ?_⟩
  rcases List.mem_append.mp he with q | q
  · exact hp.2 e q N' (by omega)
  · exact ho N' h1 e q
theorem nmr {N i : Nat} (h : i ≠ N) : nm N (.ref i) := h
theorem nmV_lt {a b i : Nat} (h : i < a) : nmV a b (.ref i) := fun N h1 _ => (show i ≠ N by omega)
theorem nmV_int {a b : Nat} {x : Int32} : nmV a b (.int x) := fun _ _ _ => trivial
theorem nm_if {N jx v : Nat} {f : Nat → Option Nat} (hf : ∀ j i, f j = some i → i ≠ N) (h : v ≠ N) : ∀ j i, (fun q => if q = jx then some v else f q) j = some i → i ≠ N := by
  intro j i hj
  by_cases e : j = jx
  · simp only [e, if_true] at hj
    exact fun q => h ((Option.some.inj hj).trans q)
  · simp only [e, if_false] at hj
    exact hf j i hj
theorem nm_none {N : Nat} : ∀ (j i : Nat), (fun _ : Nat => (none : Option Nat)) j = some i → i ≠ N := fun _ _ h => nomatch h
theorem Old_G {c c1 : va_E} {o1 l1 : AW} {mc ms : Nat} (N M : Nat) (hp : Pre pre h) (hc : ∀ N, nmE N c) (hN : o.length = N) (hl : l1.length = M) (h1 : 1 ≤ N) (h2 : N + M ≤ o1.length) (hs : ∀ v ∈ st, nmV (h + N + 1) (h + N + M) v) (hv : ∀ x ∈ lv, nmV (h + N + 1) (h + N + M) x.2) : Old ZT (TgN (pre ++ [c]) (pre ++ o1) mc ms) (pre ++ [c]) ((pre ++ o) ++ [c1]).length ((pre ++ o) ++ l1).length lv st := by
  have e1 : ((pre ++ o) ++ [c1]).length = h + N + 1 := by rw [List.length_append, List.length_append, hp.1, hN]; rfl
  have e2 : ((pre ++ o) ++ l1).length = h + N + M := by rw [List.length_append, List.length_append, hp.1, hN, hl]
  rw [e1, e2]
  exact Old_N (hp.cls hc) (by rw [List.length_append, hp.1]; show h + 1 ≤ h + N + 1; omega) (by rw [List.length_append, hp.1]; omega) hs hv
theorem G_app2 {o' l1 : AW} (ho : o ++ l1 = o') {P : AW → Prop} (hk : P (pre ++ o')) : P ((pre ++ o) ++ l1) := by rw [List.append_assoc, ho]; exact hk
theorem dkN_nm {h N : Nat} (hN : h + 8 ≤ N) : ∀ e ∈ dkN h, nmE N e := by
  simp only [dkN, List.forall_mem_cons, nmE, nm, arI]
  refine ⟨?_, trivial, trivial, trivial, trivial, trivial, trivial, trivial, fun _ h => nomatch h⟩
  refine ⟨trivial, trivial, trivial, trivial, trivial, trivial, ?_, ?_, trivial, ?_, trivial, ?_, ?_, ?_, ?_, fun _ h => nomatch h⟩ <;> exact nmr (by omega)
def hsF (h : Nat) : Nat → Option Nat := fun j => if j = 3 then some (h + 26) else if j = 2 then some (h + 18) else if j = 1 then some (h + 10) else if j = 0 then some (h + 2) else none
def hiN (h : Nat) : List va_E := .inr (2, [.ref (h + 1), .int 0, .int 0]) :: .inl (2, 4, .inr (.inr (.inr (.inr (hsF h))))) :: (dkN (h + 2) ++ (dkN (h + 10) ++ (dkN (h + 18) ++ dkN (h + 26))))
theorem hsF_nm {h N : Nat} (hN : h + 34 ≤ N) : ∀ j i, hsF h j = some i → i ≠ N := nm_if (nm_if (nm_if (nm_if nm_none (by omega)) (by omega)) (by omega)) (by omega)
theorem hiN_nm {h N : Nat} (hN : h + 34 ≤ N) : ∀ e ∈ hiN h, nmE N e := by
  refine List.forall_mem_cons.mpr ⟨?_, List.forall_mem_cons.mpr ⟨hsF_nm hN, List.forall_mem_append.mpr ⟨dkN_nm (by omega), List.forall_mem_append.mpr ⟨dkN_nm (by omega), List.forall_mem_append.mpr ⟨dkN_nm (by omega), dkN_nm (by omega)⟩⟩⟩⟩⟩
  simp only [nmE, List.forall_mem_cons]
  exact ⟨nmr (by omega), trivial, trivial, fun _ h => nomatch h⟩
def miN (h : Nat) : List va_E := [.inr (3, [.ref (h + 1), .int 0]), arI 3240]
theorem miN_nm {h N : Nat} (hN : h + 2 ≤ N) : ∀ e ∈ miN h, nmE N e := by
  simp only [miN, List.forall_mem_cons, nmE, arI, arJ]
  repeat' (first | exact trivial | exact nmr (by omega) | exact (fun _ h => nomatch h) | apply And.intro)
def csN (h : Nat) : List va_E := [.inr (0, [.ref (h + 1), .ref (h + 2), .ref (h + 3), .ref (h + 4), .int 0, .int 0, .int 0, .int 0, .int 0, .int 0]), arI 11, arI 11, arJ 12, arJ 12]
theorem csN_nm {h N : Nat} (hN : h + 5 ≤ N) : ∀ e ∈ csN h, nmE N e := by
  simp only [csN, List.forall_mem_cons, nmE, arI, arJ]
  repeat' (first | exact trivial | exact nmr (by omega) | exact (fun _ h => nomatch h) | apply And.intro)
def plN (h : Nat) : List va_E := [.inr (4, [.ref (h + 1), .int 0, .int 0, .int 0, .int 0]), arI 120]
theorem plN_nm {h N : Nat} (hN : h + 2 ≤ N) : ∀ e ∈ plN h, nmE N e := by
  simp only [plN, List.forall_mem_cons, nmE, arI, arJ]
  repeat' (first | exact trivial | exact nmr (by omega) | exact (fun _ h => nomatch h) | apply And.intro)
theorem dfX0 : ∀ j, j < 10 → defaultValue (tyX0 j) = vp_V [.null, .null, .null, .null, .int 0, .int 0, .int 0, .int 0, .int 0, .int 0] j := by decide +kernel
theorem dfX1 : ∀ j, j < 15 → defaultValue (tyX1 j) = vp_V [.int 0, .int 0, .int 0, .int 0, .int 0, .int 0, .null, .null, .int 0, .null, .int 0, .null, .null, .null, .null] j := by decide +kernel
theorem dfX2 : ∀ j, j < 3 → defaultValue (tyX2 j) = vp_V [.null, .int 0, .int 0] j := by decide +kernel
theorem dfX3 : ∀ j, j < 2 → defaultValue (tyX3 j) = vp_V [.null, .int 0] j := by decide +kernel
theorem dfX4 : ∀ j, j < 5 → defaultValue (tyX4 j) = vp_V [.null, .int 0, .int 0, .int 0, .int 0] j := by decide +kernel
theorem dfX5 : ∀ j, j < 7 → defaultValue (tyX5 j) = vp_V [.null, .null, .null, .null, .null, .null, .null] j := by decide +kernel
set_option maxRecDepth 100000 in
theorem n_X2 (l : Launch) (hfl : l.stackTraces = false) {pre : AW} {h : Nat} (hp : Pre pre h) : CtN l yX2_init (.code yX2_init cX2_init 2 none) 1 33 420 [.ref h] (pre ++ [.inr (2, [.null, .int 0, .int 0])]) (pre ++ hiN h) := by
  refine CtN_of pn_X2 hfl rfl (Nat.le_of_ble_eq_true rfl) (fun hh => ?_)
  show EZ ZT l RX2 cX2_init 2 none true hh (rmE 1 33 420) (pre ++ [.inr (2, [.null, .int 0, .int 0])]) (TgN (pre ++ [.inr (2, [.null, .int 0, .int 0])]) (pre ++ hiN h) 33 420) 0 0 0 [(0, .ref h)] [] (pre ++ [.inr (2, [.null, .int 0, .int 0])])
  have hc0 : ∀ N, nmE N (.inr (2, [.null, .int 0, .int 0])) := by intro N; simp [nmE, nm]
  refine EZ_aload_n 0 dX2_init_0 rfl rfl ?_
  refine EZ_obj wl_X2_3 dX2_init_1 ⟨Nat.le_of_ble_eq_true rfl, Nat.le_of_ble_eq_true rfl⟩ (Nat.le_of_ble_eq_true rfl) ?_
  refine EZ_aload_n 0 dX2_init_4 rfl rfl ?_
  refine EZ_iconst 4 (by decide) dX2_init_5 ?_
  refine EZ_anew (N := h + 1) (z := 4) (New_G 1 hp hc0 rfl (by decide) (Nat.le_of_ble_eq_true rfl) (by simp [nmE, nm, arI, arJ]) (by simp [nmE, nm, arI, arJ]) (by simp [nmE, nm, arI, arJ])) (by decide) (by decide) wcl_X2_9 (Nat.le_of_ble_eq_true rfl) (Nat.le_of_ble_eq_true rfl) dX2_init_6 ?_
  refine G_app (o' := [.inr (2, [.null, .int 0, .int 0]), .inl (2, 4, .inr (.inr (.inr (.inr (fun _ => none)))))]) rfl (P := fun w => EZ ZT _ _ _ _ _ _ _ _ _ _ _ _ _ _ _ w) ?_
  refine EZ_putF (ref := RX2) (T := TX2) (N := 3) (ty := (.array (.object "ChannelSpacer$Desk"))) tyX2 tyX2_ok nmX2 rfl uX2 (by decide) fl_X2_11 rfl rfl rfl rfl (by decide +kernel) (fun _ => rfl) (fun _ => rfl) (G_at 0 hp rfl) (Nat.le_of_ble_eq_true rfl) dX2_init_9 ?_
  refine G_set 0 (o' := (.inr (2, [.ref (h + 1), .int 0, .int 0]) :: .inl (2, 4, .inr (.inr (.inr (.inr (fun _ => none))))) :: [])) hp rfl (P := fun w => EZ ZT _ _ _ _ _ _ _ _ _ _ _ _ _ _ _ w) ?_
  refine EZ_iconst 0 (by decide) dX2_init_12 ?_
  refine EZ_istore_n [(1, .int 0), (0, .ref h)] dX2_init_13 rfl (by decide) rfl ?_
  refine EZ_iload_n 0 dX2_init_14 rfl rfl ?_
  refine EZ_iconst 4 (by decide) dX2_init_15 ?_
  refine ZZ_ge 0 4 (by decide) (by decide) 38 dX2_init_16 (by decide) (fun q => absurd q (by decide)) (fun _ => ?_)
  refine EZ_aload_n 1 dX2_init_19 rfl rfl ?_
  refine EZ_get (ref := RX2) (T := TX2) (N := 3) rfl uX2 (by decide) fl_X2_11 rfl (G_at 0 hp rfl) (v := .ref (h + 1)) rfl dX2_init_20 ?_
  refine EZ_iload_n 0 dX2_init_23 rfl rfl ?_
  have hO0 : ∀ N', h + 2 ≤ N' → ∀ e ∈ ((.inr (2, [.ref (h + 1), .int 0, .int 0]) :: .inl (2, 4, .inr (.inr (.inr (.inr (fun _ => none))))) :: []) : AW), nmE N' e := fun N' hN' => List.forall_mem_cons.mpr ⟨(by simp only [nmE, List.forall_mem_cons]; exact ⟨nmr (by omega), trivial, trivial, fun _ h => nomatch h⟩), List.forall_mem_cons.mpr ⟨(nm_none), fun _ h => nomatch h⟩⟩
  refine EZ_new (N := h + 2) (ci := 1) (fs := [.int 0, .int 0, .int 0, .int 0, .int 0, .int 0, .null, .null, .int 0, .null, .int 0, .null, .null, .null, .null]) (C := RX1) (T := TX1) (M := 15) (New_G 2 hp hc0 rfl (by decide) (Nat.le_of_ble_eq_true rfl) (hO0 _ (Nat.le_refl _)) (by simp [nmE, nm, arI, arJ]) (by simp [nmE, nm, arI, arJ])) tyX1 tyX1_ok rfl uX1 wcl_X2_9 wn_X1 wz_X1 dfX1 (by simp) (Nat.le_of_ble_eq_true rfl) (Nat.le_of_ble_eq_true rfl) dX2_init_24 ?_
  refine EZ_dup rfl dX2_init_27 ?_
  refine EZ_callN (n_X1 l hfl (hp.ext (N := 2) rfl hO0)) cw_X2_17 wi_yX1_init rfl ⟨Nat.le_of_ble_eq_true rfl, Nat.le_of_ble_eq_true rfl, Nat.le_of_ble_eq_true rfl, Nat.le_of_ble_eq_true rfl⟩ (Nat.le_of_ble_eq_true rfl) dX2_init_28 (Old_G 2 8 hp hc0 rfl rfl (by decide) (Nat.le_of_ble_eq_true rfl) (List.forall_mem_cons.mpr ⟨nmV_lt (by omega), List.forall_mem_cons.mpr ⟨nmV_int, List.forall_mem_cons.mpr ⟨nmV_lt (by omega), fun _ h => nomatch h⟩⟩⟩) (List.forall_mem_cons.mpr ⟨nmV_int, List.forall_mem_cons.mpr ⟨nmV_lt (by omega), fun _ h => nomatch h⟩⟩)) ?_
  refine G_app2 (o' := (.inr (2, [.ref (h + 1), .int 0, .int 0]) :: .inl (2, 4, .inr (.inr (.inr (.inr (fun _ => none))))) :: dkN (h + 2))) rfl (P := fun w => EZ ZT _ _ _ _ _ _ _ _ _ _ _ _ _ _ _ w) ?_
  refine EZ_aast 0 (G_at 1 hp rfl) (G_at 2 hp rfl) (by decide) (by decide) dX2_init_31 ?_
  refine G_set 1 (o' := (.inr (2, [.ref (h + 1), .int 0, .int 0]) :: .inl (2, 4, .inr (.inr (.inr (.inr (fun q => if q = 0 then some (h + 2) else (fun _ => none) q))))) :: dkN (h + 2))) hp rfl (P := fun w => EZ ZT _ _ _ _ _ _ _ _ _ _ _ _ _ _ _ w) ?_
  refine EZ_iinc 0 1 [(1, .int 1), (0, .ref h)] dX2_init_32 rfl rfl (by decide) rfl ?_
  refine EZ_goto 14 dX2_init_35 (by decide) ?_
  refine EZ_iload_n 0 dX2_init_14 rfl rfl ?_
  refine EZ_iconst 4 (by decide) dX2_init_15 ?_
  refine ZZ_ge 1 4 (by decide) (by decide) 38 dX2_init_16 (by decide) (fun q => absurd q (by decide)) (fun _ => ?_)
  refine EZ_aload_n 1 dX2_init_19 rfl rfl ?_
  refine EZ_get (ref := RX2) (T := TX2) (N := 3) rfl uX2 (by decide) fl_X2_11 rfl (G_at 0 hp rfl) (v := .ref (h + 1)) rfl dX2_init_20 ?_
  refine EZ_iload_n 0 dX2_init_23 rfl rfl ?_
  have hO1 : ∀ N', h + 10 ≤ N' → ∀ e ∈ ((.inr (2, [.ref (h + 1), .int 0, .int 0]) :: .inl (2, 4, .inr (.inr (.inr (.inr (fun q => if q = 0 then some (h + 2) else (fun _ => none) q))))) :: dkN (h + 2)) : AW), nmE N' e := fun N' hN' => List.forall_mem_cons.mpr ⟨(by simp only [nmE, List.forall_mem_cons]; exact ⟨nmr (by omega), trivial, trivial, fun _ h => nomatch h⟩), List.forall_mem_cons.mpr ⟨(nm_if (nm_none) (by omega)), dkN_nm (by omega)⟩⟩
  refine EZ_new (N := h + 10) (ci := 1) (fs := [.int 0, .int 0, .int 0, .int 0, .int 0, .int 0, .null, .null, .int 0, .null, .int 0, .null, .null, .null, .null]) (C := RX1) (T := TX1) (M := 15) (New_G 10 hp hc0 rfl (by decide) (Nat.le_of_ble_eq_true rfl) (hO1 _ (Nat.le_refl _)) (by simp [nmE, nm, arI, arJ]) (by simp [nmE, nm, arI, arJ])) tyX1 tyX1_ok rfl uX1 wcl_X2_9 wn_X1 wz_X1 dfX1 (by simp) (Nat.le_of_ble_eq_true rfl) (Nat.le_of_ble_eq_true rfl) dX2_init_24 ?_
  refine EZ_dup rfl dX2_init_27 ?_
  refine EZ_callN (n_X1 l hfl (hp.ext (N := 10) rfl hO1)) cw_X2_17 wi_yX1_init rfl ⟨Nat.le_of_ble_eq_true rfl, Nat.le_of_ble_eq_true rfl, Nat.le_of_ble_eq_true rfl, Nat.le_of_ble_eq_true rfl⟩ (Nat.le_of_ble_eq_true rfl) dX2_init_28 (Old_G 10 8 hp hc0 rfl rfl (by decide) (Nat.le_of_ble_eq_true rfl) (List.forall_mem_cons.mpr ⟨nmV_lt (by omega), List.forall_mem_cons.mpr ⟨nmV_int, List.forall_mem_cons.mpr ⟨nmV_lt (by omega), fun _ h => nomatch h⟩⟩⟩) (List.forall_mem_cons.mpr ⟨nmV_int, List.forall_mem_cons.mpr ⟨nmV_lt (by omega), fun _ h => nomatch h⟩⟩)) ?_
  refine G_app2 (o' := (.inr (2, [.ref (h + 1), .int 0, .int 0]) :: .inl (2, 4, .inr (.inr (.inr (.inr (fun q => if q = 0 then some (h + 2) else (fun _ => none) q))))) :: (dkN (h + 2) ++ dkN (h + 10)))) rfl (P := fun w => EZ ZT _ _ _ _ _ _ _ _ _ _ _ _ _ _ _ w) ?_
  refine EZ_aast 1 (G_at 1 hp rfl) (G_at 10 hp rfl) (by decide) (by decide) dX2_init_31 ?_
  refine G_set 1 (o' := (.inr (2, [.ref (h + 1), .int 0, .int 0]) :: .inl (2, 4, .inr (.inr (.inr (.inr (fun q => if q = 1 then some (h + 10) else (fun q => if q = 0 then some (h + 2) else (fun _ => none) q) q))))) :: (dkN (h + 2) ++ dkN (h + 10)))) hp rfl (P := fun w => EZ ZT _ _ _ _ _ _ _ _ _ _ _ _ _ _ _ w) ?_
  refine EZ_iinc 0 2 [(1, .int 2), (0, .ref h)] dX2_init_32 rfl rfl (by decide) rfl ?_
  refine EZ_goto 14 dX2_init_35 (by decide) ?_
  refine EZ_iload_n 0 dX2_init_14 rfl rfl ?_
  refine EZ_iconst 4 (by decide) dX2_init_15 ?_
  refine ZZ_ge 2 4 (by decide) (by decide) 38 dX2_init_16 (by decide) (fun q => absurd q (by decide)) (fun _ => ?_)
  refine EZ_aload_n 1 dX2_init_19 rfl rfl ?_
  refine EZ_get (ref := RX2) (T := TX2) (N := 3) rfl uX2 (by decide) fl_X2_11 rfl (G_at 0 hp rfl) (v := .ref (h + 1)) rfl dX2_init_20 ?_
  refine EZ_iload_n 0 dX2_init_23 rfl rfl ?_
  have hO2 : ∀ N', h + 18 ≤ N' → ∀ e ∈ ((.inr (2, [.ref (h + 1), .int 0, .int 0]) :: .inl (2, 4, .inr (.inr (.inr (.inr (fun q => if q = 1 then some (h + 10) else (fun q => if q = 0 then some (h + 2) else (fun _ => none) q) q))))) :: (dkN (h + 2) ++ dkN (h + 10))) : AW), nmE N' e := fun N' hN' => List.forall_mem_cons.mpr ⟨(by simp only [nmE, List.forall_mem_cons]; exact ⟨nmr (by omega), trivial, trivial, fun _ h => nomatch h⟩), List.forall_mem_cons.mpr ⟨(nm_if (nm_if (nm_none) (by omega)) (by omega)), List.forall_mem_append.mpr ⟨dkN_nm (by omega), dkN_nm (by omega)⟩⟩⟩
  refine EZ_new (N := h + 18) (ci := 1) (fs := [.int 0, .int 0, .int 0, .int 0, .int 0, .int 0, .null, .null, .int 0, .null, .int 0, .null, .null, .null, .null]) (C := RX1) (T := TX1) (M := 15) (New_G 18 hp hc0 rfl (by decide) (Nat.le_of_ble_eq_true rfl) (hO2 _ (Nat.le_refl _)) (by simp [nmE, nm, arI, arJ]) (by simp [nmE, nm, arI, arJ])) tyX1 tyX1_ok rfl uX1 wcl_X2_9 wn_X1 wz_X1 dfX1 (by simp) (Nat.le_of_ble_eq_true rfl) (Nat.le_of_ble_eq_true rfl) dX2_init_24 ?_
  refine EZ_dup rfl dX2_init_27 ?_
  refine EZ_callN (n_X1 l hfl (hp.ext (N := 18) rfl hO2)) cw_X2_17 wi_yX1_init rfl ⟨Nat.le_of_ble_eq_true rfl, Nat.le_of_ble_eq_true rfl, Nat.le_of_ble_eq_true rfl, Nat.le_of_ble_eq_true rfl⟩ (Nat.le_of_ble_eq_true rfl) dX2_init_28 (Old_G 18 8 hp hc0 rfl rfl (by decide) (Nat.le_of_ble_eq_true rfl) (List.forall_mem_cons.mpr ⟨nmV_lt (by omega), List.forall_mem_cons.mpr ⟨nmV_int, List.forall_mem_cons.mpr ⟨nmV_lt (by omega), fun _ h => nomatch h⟩⟩⟩) (List.forall_mem_cons.mpr ⟨nmV_int, List.forall_mem_cons.mpr ⟨nmV_lt (by omega), fun _ h => nomatch h⟩⟩)) ?_
  refine G_app2 (o' := (.inr (2, [.ref (h + 1), .int 0, .int 0]) :: .inl (2, 4, .inr (.inr (.inr (.inr (fun q => if q = 1 then some (h + 10) else (fun q => if q = 0 then some (h + 2) else (fun _ => none) q) q))))) :: (dkN (h + 2) ++ (dkN (h + 10) ++ dkN (h + 18))))) rfl (P := fun w => EZ ZT _ _ _ _ _ _ _ _ _ _ _ _ _ _ _ w) ?_
  refine EZ_aast 2 (G_at 1 hp rfl) (G_at 18 hp rfl) (by decide) (by decide) dX2_init_31 ?_
  refine G_set 1 (o' := (.inr (2, [.ref (h + 1), .int 0, .int 0]) :: .inl (2, 4, .inr (.inr (.inr (.inr (fun q => if q = 2 then some (h + 18) else (fun q => if q = 1 then some (h + 10) else (fun q => if q = 0 then some (h + 2) else (fun _ => none) q) q) q))))) :: (dkN (h + 2) ++ (dkN (h + 10) ++ dkN (h + 18))))) hp rfl (P := fun w => EZ ZT _ _ _ _ _ _ _ _ _ _ _ _ _ _ _ w) ?_
  refine EZ_iinc 0 3 [(1, .int 3), (0, .ref h)] dX2_init_32 rfl rfl (by decide) rfl ?_
  refine EZ_goto 14 dX2_init_35 (by decide) ?_
  refine EZ_iload_n 0 dX2_init_14 rfl rfl ?_
  refine EZ_iconst 4 (by decide) dX2_init_15 ?_
  refine ZZ_ge 3 4 (by decide) (by decide) 38 dX2_init_16 (by decide) (fun q => absurd q (by decide)) (fun _ => ?_)
  refine EZ_aload_n 1 dX2_init_19 rfl rfl ?_
  refine EZ_get (ref := RX2) (T := TX2) (N := 3) rfl uX2 (by decide) fl_X2_11 rfl (G_at 0 hp rfl) (v := .ref (h + 1)) rfl dX2_init_20 ?_
  refine EZ_iload_n 0 dX2_init_23 rfl rfl ?_
  have hO3 : ∀ N', h + 26 ≤ N' → ∀ e ∈ ((.inr (2, [.ref (h + 1), .int 0, .int 0]) :: .inl (2, 4, .inr (.inr (.inr (.inr (fun q => if q = 2 then some (h + 18) else (fun q => if q = 1 then some (h + 10) else (fun q => if q = 0 then some (h + 2) else (fun _ => none) q) q) q))))) :: (dkN (h + 2) ++ (dkN (h + 10) ++ dkN (h + 18)))) : AW), nmE N' e := fun N' hN' => List.forall_mem_cons.mpr ⟨(by simp only [nmE, List.forall_mem_cons]; exact ⟨nmr (by omega), trivial, trivial, fun _ h => nomatch h⟩), List.forall_mem_cons.mpr ⟨(nm_if (nm_if (nm_if (nm_none) (by omega)) (by omega)) (by omega)), List.forall_mem_append.mpr ⟨dkN_nm (by omega), List.forall_mem_append.mpr ⟨dkN_nm (by omega), dkN_nm (by omega)⟩⟩⟩⟩
  refine EZ_new (N := h + 26) (ci := 1) (fs := [.int 0, .int 0, .int 0, .int 0, .int 0, .int 0, .null, .null, .int 0, .null, .int 0, .null, .null, .null, .null]) (C := RX1) (T := TX1) (M := 15) (New_G 26 hp hc0 rfl (by decide) (Nat.le_of_ble_eq_true rfl) (hO3 _ (Nat.le_refl _)) (by simp [nmE, nm, arI, arJ]) (by simp [nmE, nm, arI, arJ])) tyX1 tyX1_ok rfl uX1 wcl_X2_9 wn_X1 wz_X1 dfX1 (by simp) (Nat.le_of_ble_eq_true rfl) (Nat.le_of_ble_eq_true rfl) dX2_init_24 ?_
  refine EZ_dup rfl dX2_init_27 ?_
  refine EZ_callN (n_X1 l hfl (hp.ext (N := 26) rfl hO3)) cw_X2_17 wi_yX1_init rfl ⟨Nat.le_of_ble_eq_true rfl, Nat.le_of_ble_eq_true rfl, Nat.le_of_ble_eq_true rfl, Nat.le_of_ble_eq_true rfl⟩ (Nat.le_of_ble_eq_true rfl) dX2_init_28 (Old_G 26 8 hp hc0 rfl rfl (by decide) (Nat.le_of_ble_eq_true rfl) (List.forall_mem_cons.mpr ⟨nmV_lt (by omega), List.forall_mem_cons.mpr ⟨nmV_int, List.forall_mem_cons.mpr ⟨nmV_lt (by omega), fun _ h => nomatch h⟩⟩⟩) (List.forall_mem_cons.mpr ⟨nmV_int, List.forall_mem_cons.mpr ⟨nmV_lt (by omega), fun _ h => nomatch h⟩⟩)) ?_
  refine G_app2 (o' := (.inr (2, [.ref (h + 1), .int 0, .int 0]) :: .inl (2, 4, .inr (.inr (.inr (.inr (fun q => if q = 2 then some (h + 18) else (fun q => if q = 1 then some (h + 10) else (fun q => if q = 0 then some (h + 2) else (fun _ => none) q) q) q))))) :: (dkN (h + 2) ++ (dkN (h + 10) ++ (dkN (h + 18) ++ dkN (h + 26)))))) rfl (P := fun w => EZ ZT _ _ _ _ _ _ _ _ _ _ _ _ _ _ _ w) ?_
  refine EZ_aast 3 (G_at 1 hp rfl) (G_at 26 hp rfl) (by decide) (by decide) dX2_init_31 ?_
  refine G_set 1 (o' := (.inr (2, [.ref (h + 1), .int 0, .int 0]) :: .inl (2, 4, .inr (.inr (.inr (.inr (fun q => if q = 3 then some (h + 26) else (fun q => if q = 2 then some (h + 18) else (fun q => if q = 1 then some (h + 10) else (fun q => if q = 0 then some (h + 2) else (fun _ => none) q) q) q) q))))) :: (dkN (h + 2) ++ (dkN (h + 10) ++ (dkN (h + 18) ++ dkN (h + 26)))))) hp rfl (P := fun w => EZ ZT _ _ _ _ _ _ _ _ _ _ _ _ _ _ _ w) ?_
  refine EZ_iinc 0 4 [(1, .int 4), (0, .ref h)] dX2_init_32 rfl rfl (by decide) rfl ?_
  refine EZ_goto 14 dX2_init_35 (by decide) ?_
  refine EZ_iload_n 0 dX2_init_14 rfl rfl ?_
  refine EZ_iconst 4 (by decide) dX2_init_15 ?_
  refine ZZ_ge 4 4 (by decide) (by decide) 38 dX2_init_16 (by decide) (fun _ => ?_) (fun q => absurd q (by decide))
  exact EZ_nret rfl (Nat.le_of_ble_eq_true rfl) (Nat.le_of_ble_eq_true rfl) dX2_init_38 rfl
end GROW4
