section GROW3
variable {Z : State → (Nat → Nat) → Prop} {l : Launch} {own : String} {cc : ByteArray} {nL : Nat} {ret : Option FieldType} {ini : Bool} {hh : List ExceptionTableEntry} {R : Room} {w0 : AW} {Tg : TgT} {k n pc : Nat} {lv : List (Nat × Value)} {st : List Value} {w : AW} {pre o : AW} {h : Nat} {mi : MI} {ml : MJ}
theorem app_at {pre o : AW} {h j : Nat} (hp : pre.length = h) : (pre ++ o)[h + j]? = o[j]? := by
  rw [List.getElem?_append_right (by omega)]
  congr 1
  omega
theorem app_set {pre o : AW} {h j : Nat} {e : va_E} (hp : pre.length = h) : (pre ++ o).set (h + j) e = pre ++ o.set j e := by
  simp [List.set_append, hp]
def dkN (h : Nat) : List va_E := [.inr (1, [.int 3, .int 0, .int 100, .int 0, .int 1, .int 0, .ref (h + 1), .ref (h + 2), .int 0, .ref (h + 3), .int 0, .ref (h + 4), .ref (h + 5), .ref (h + 6), .ref (h + 7)]), arI 10, arI 10, arI 5, arI 16, arI 16, arI 16, arI 16]
def Pre (pre : AW) (h : Nat) : Prop := pre.length = h ∧ ∀ e ∈ pre, ∀ N, h ≤ N → nmE N e
theorem Pre.app {pre o : AW} {h N : Nat} (hp : Pre pre h) (ho : ∀ e ∈ o, nmE (h + N) e) : ∀ e ∈ pre ++ o, nmE (h + N) e := by
  intro e he
  rcases List.mem_append.mp he with q | q
  · exact hp.2 e q (h + N) (by omega)
  · exact ho e q
theorem Pre.cls {pre : AW} {h : Nat} {c : va_E} (hp : Pre pre h) (hc : ∀ N, nmE N c) : Cls (pre ++ [c]) := by
  intro e he N hN
  rcases List.mem_append.mp he with q | q
  · exact hp.2 e q N (by rw [List.length_append, hp.1] at hN; omega)
  · rw [List.mem_singleton.mp q]; exact hc N
theorem New_G {c : va_E} {o1 : AW} {mc ms : Nat} (N : Nat) (hp : Pre pre h) (hc : ∀ N, nmE N c) (hN : o.length = N) (h1 : 1 ≤ N) (h2 : N < o1.length) (ho : ∀ e ∈ o, nmE (h + N) e) (hs : ∀ v ∈ st, nm (h + N) v) (hv : ∀ x ∈ lv, nm (h + N) x.2) : New ZT (TgN (pre ++ [c]) (pre ++ o1) mc ms) (pre ++ [c]) (h + N) lv st (pre ++ o) :=
  New_N (hp.cls hc) (by rw [List.length_append, hp.1]; exact Nat.add_le_add_left h1 h) (by rw [List.length_append, hp.1]; exact Nat.add_lt_add_left h2 h) (by rw [List.length_append, hp.1, hN]) (hp.app ho) hs hv
theorem G_at {e : va_E} (j : Nat) (hp : Pre pre h) (ho : o[j]? = some e) : (pre ++ o)[h + j]? = some e := by rw [app_at hp.1]; exact ho
theorem G_set {o' : AW} {e : va_E} (j : Nat) (hp : Pre pre h) (ho : o.set j e = o') {P : AW → Prop} (hk : P (pre ++ o')) : P ((pre ++ o).set (h + j) e) := by rw [app_set hp.1, ho]; exact hk
theorem G_app {o' : AW} {e : va_E} (ho : o ++ [e] = o') {P : AW → Prop} (hk : P (pre ++ o')) : P ((pre ++ o) ++ [e]) := by rw [List.append_assoc, ho]; exact hk
theorem wa_I : Wd (.arrayClass .int) := ⟨List.mem_of_getElem? (i := 164) (by decide +kernel), rfl⟩
theorem wa_J : Wd (.arrayClass .long) := ⟨List.mem_of_getElem? (i := 237) (by decide +kernel), rfl⟩
theorem wn_X0 : Wd (.instantiable RX0 10) := ⟨List.mem_of_getElem? (i := 200) (by decide +kernel), rfl⟩
theorem wn_X1 : Wd (.instantiable RX1 15) := ⟨List.mem_of_getElem? (i := 94) (by decide +kernel), rfl⟩
theorem wn_X2 : Wd (.instantiable RX2 3) := ⟨List.mem_of_getElem? (i := 166) (by decide +kernel), rfl⟩
theorem wn_X3 : Wd (.instantiable RX3 2) := ⟨List.mem_of_getElem? (i := 186) (by decide +kernel), rfl⟩
theorem wn_X4 : Wd (.instantiable RX4 5) := ⟨List.mem_of_getElem? (i := 239) (by decide +kernel), rfl⟩
theorem wn_X5 : Wd (.instantiable RX5 7) := ⟨List.mem_of_getElem? (i := 86) (by decide +kernel), rfl⟩
theorem wn_X6 : Wd (.instantiable RX6 23) := ⟨List.mem_of_getElem? (i := 956) (by decide +kernel), rfl⟩
set_option maxRecDepth 100000 in
theorem n_X1 (l : Launch) (hfl : l.stackTraces = false) {pre : AW} {h : Nat} (hp : Pre pre h) : CtN l yX1_init (.code yX1_init cX1_init 1 none) 0 7 89 [.ref h] (pre ++ [.inr (1, [.int 0, .int 0, .int 0, .int 0, .int 0, .int 0, .null, .null, .int 0, .null, .int 0, .null, .null, .null, .null])]) (pre ++ dkN h) := by
  refine CtN_of pn_X1 hfl rfl (Nat.le_of_ble_eq_true rfl) (fun hh => ?_)
  show EZ ZT l RX1 cX1_init 1 none true hh (rmE 0 7 89) (pre ++ [.inr (1, [.int 0, .int 0, .int 0, .int 0, .int 0, .int 0, .null, .null, .int 0, .null, .int 0, .null, .null, .null, .null])]) (TgN (pre ++ [.inr (1, [.int 0, .int 0, .int 0, .int 0, .int 0, .int 0, .null, .null, .int 0, .null, .int 0, .null, .null, .null, .null])]) (pre ++ dkN h) 7 89) 0 0 0 [(0, .ref h)] [] (pre ++ [.inr (1, [.int 0, .int 0, .int 0, .int 0, .int 0, .int 0, .null, .null, .int 0, .null, .int 0, .null, .null, .null, .null])])
  refine EZ_aload_n 0 dX1_init_0 rfl rfl ?_
  refine EZ_obj wl_X1_3 dX1_init_1 ⟨Nat.le_of_ble_eq_true rfl, Nat.le_of_ble_eq_true rfl⟩ (Nat.le_of_ble_eq_true rfl) ?_
  refine EZ_aload_n 0 dX1_init_4 rfl rfl ?_
  refine EZ_iconst 3 (by decide) dX1_init_5 ?_
  refine EZ_put (ref := RX1) (T := TX1) (N := 15) (ty := .int) tyX1 tyX1_ok nmX1 rfl uX1 (by decide) fl_X1_9 rfl rfl (by decide +kernel) (fun _ => rfl) (fun _ => rfl) (G_at 0 hp rfl) (Nat.le_of_ble_eq_true rfl) dX1_init_6 ?_
  refine G_set 0 (o' := [.inr (1, [.int 3, .int 0, .int 0, .int 0, .int 0, .int 0, .null, .null, .int 0, .null, .int 0, .null, .null, .null, .null])]) hp rfl (P := fun w => EZ ZT _ _ _ _ _ _ _ _ _ _ _ _ _ _ _ w) ?_
  refine EZ_aload_n 0 dX1_init_9 rfl rfl ?_
  refine EZ_iconst 0 (by decide) dX1_init_10 ?_
  refine EZ_put (ref := RX1) (T := TX1) (N := 15) (ty := .int) tyX1 tyX1_ok nmX1 rfl uX1 (by decide) fl_X1_15 rfl rfl (by decide +kernel) (fun _ => rfl) (fun _ => rfl) (G_at 0 hp rfl) (Nat.le_of_ble_eq_true rfl) dX1_init_11 ?_
  refine G_set 0 (o' := [.inr (1, [.int 3, .int 0, .int 0, .int 0, .int 0, .int 0, .null, .null, .int 0, .null, .int 0, .null, .null, .null, .null])]) hp rfl (P := fun w => EZ ZT _ _ _ _ _ _ _ _ _ _ _ _ _ _ _ w) ?_
  refine EZ_aload_n 0 dX1_init_14 rfl rfl ?_
  refine EZ_bipush 100 (by decide) dX1_init_15 ?_
  refine EZ_put (ref := RX1) (T := TX1) (N := 15) (ty := .int) tyX1 tyX1_ok nmX1 rfl uX1 (by decide) fl_X1_18 rfl rfl (by decide +kernel) (fun _ => rfl) (fun _ => rfl) (G_at 0 hp rfl) (Nat.le_of_ble_eq_true rfl) dX1_init_17 ?_
  refine G_set 0 (o' := [.inr (1, [.int 3, .int 0, .int 100, .int 0, .int 0, .int 0, .null, .null, .int 0, .null, .int 0, .null, .null, .null, .null])]) hp rfl (P := fun w => EZ ZT _ _ _ _ _ _ _ _ _ _ _ _ _ _ _ w) ?_
  refine EZ_aload_n 0 dX1_init_20 rfl rfl ?_
  refine EZ_iconst 0 (by decide) dX1_init_21 ?_
  refine EZ_put (ref := RX1) (T := TX1) (N := 15) (ty := .int) tyX1 tyX1_ok nmX1 rfl uX1 (by decide) fl_X1_21 rfl rfl (by decide +kernel) (fun _ => rfl) (fun _ => rfl) (G_at 0 hp rfl) (Nat.le_of_ble_eq_true rfl) dX1_init_22 ?_
  refine G_set 0 (o' := [.inr (1, [.int 3, .int 0, .int 100, .int 0, .int 0, .int 0, .null, .null, .int 0, .null, .int 0, .null, .null, .null, .null])]) hp rfl (P := fun w => EZ ZT _ _ _ _ _ _ _ _ _ _ _ _ _ _ _ w) ?_
  refine EZ_aload_n 0 dX1_init_25 rfl rfl ?_
  refine EZ_iconst 1 (by decide) dX1_init_26 ?_
  refine EZ_put (ref := RX1) (T := TX1) (N := 15) (ty := .int) tyX1 tyX1_ok nmX1 rfl uX1 (by decide) fl_X1_24 rfl rfl (by decide +kernel) (fun _ => rfl) (fun _ => rfl) (G_at 0 hp rfl) (Nat.le_of_ble_eq_true rfl) dX1_init_27 ?_
  refine G_set 0 (o' := [.inr (1, [.int 3, .int 0, .int 100, .int 0, .int 1, .int 0, .null, .null, .int 0, .null, .int 0, .null, .null, .null, .null])]) hp rfl (P := fun w => EZ ZT _ _ _ _ _ _ _ _ _ _ _ _ _ _ _ w) ?_
  refine EZ_aload_n 0 dX1_init_30 rfl rfl ?_
  refine EZ_bipush 10 (by decide) dX1_init_31 ?_
  refine EZ_newI (N := h + 1) (z := 10) (New_G 1 hp (by intro N; simp [nmE, nm]) rfl (by decide) (Nat.le_of_ble_eq_true rfl) (by simp [nmE, nm, arI, arJ]) (by simp [nmE, nm, arI, arJ]) (by simp [nmE, nm, arI, arJ])) (by decide) (by decide) wa_I (Nat.le_of_ble_eq_true rfl) (Nat.le_of_ble_eq_true rfl) dX1_init_33 ?_
  refine G_app (o' := [.inr (1, [.int 3, .int 0, .int 100, .int 0, .int 1, .int 0, .null, .null, .int 0, .null, .int 0, .null, .null, .null, .null]), arI 10]) rfl (P := fun w => EZ ZT _ _ _ _ _ _ _ _ _ _ _ _ _ _ _ w) ?_
  refine EZ_putF (ref := RX1) (T := TX1) (N := 15) (ty := (.array .int)) tyX1 tyX1_ok nmX1 rfl uX1 (by decide) fl_X1_27 rfl rfl rfl rfl (by decide +kernel) (fun _ => rfl) (fun _ => rfl) (G_at 0 hp rfl) (Nat.le_of_ble_eq_true rfl) dX1_init_35 ?_
  refine G_set 0 (o' := [.inr (1, [.int 3, .int 0, .int 100, .int 0, .int 1, .int 0, .ref (h + 1), .null, .int 0, .null, .int 0, .null, .null, .null, .null]), arI 10]) hp rfl (P := fun w => EZ ZT _ _ _ _ _ _ _ _ _ _ _ _ _ _ _ w) ?_
  refine EZ_aload_n 0 dX1_init_38 rfl rfl ?_
  refine EZ_bipush 10 (by decide) dX1_init_39 ?_
  refine EZ_newI (N := h + 2) (z := 10) (New_G 2 hp (by intro N; simp [nmE, nm]) rfl (by decide) (Nat.le_of_ble_eq_true rfl) (by simp [nmE, nm, arI, arJ]) (by simp [nmE, nm, arI, arJ]) (by simp [nmE, nm, arI, arJ])) (by decide) (by decide) wa_I (Nat.le_of_ble_eq_true rfl) (Nat.le_of_ble_eq_true rfl) dX1_init_41 ?_
  refine G_app (o' := [.inr (1, [.int 3, .int 0, .int 100, .int 0, .int 1, .int 0, .ref (h + 1), .null, .int 0, .null, .int 0, .null, .null, .null, .null]), arI 10, arI 10]) rfl (P := fun w => EZ ZT _ _ _ _ _ _ _ _ _ _ _ _ _ _ _ w) ?_
  refine EZ_putF (ref := RX1) (T := TX1) (N := 15) (ty := (.array .int)) tyX1 tyX1_ok nmX1 rfl uX1 (by decide) fl_X1_31 rfl rfl rfl rfl (by decide +kernel) (fun _ => rfl) (fun _ => rfl) (G_at 0 hp rfl) (Nat.le_of_ble_eq_true rfl) dX1_init_43 ?_
  refine G_set 0 (o' := [.inr (1, [.int 3, .int 0, .int 100, .int 0, .int 1, .int 0, .ref (h + 1), .ref (h + 2), .int 0, .null, .int 0, .null, .null, .null, .null]), arI 10, arI 10]) hp rfl (P := fun w => EZ ZT _ _ _ _ _ _ _ _ _ _ _ _ _ _ _ w) ?_
  refine EZ_aload_n 0 dX1_init_46 rfl rfl ?_
  refine EZ_iconst 5 (by decide) dX1_init_47 ?_
  refine EZ_newI (N := h + 3) (z := 5) (New_G 3 hp (by intro N; simp [nmE, nm]) rfl (by decide) (Nat.le_of_ble_eq_true rfl) (by simp [nmE, nm, arI, arJ]) (by simp [nmE, nm, arI, arJ]) (by simp [nmE, nm, arI, arJ])) (by decide) (by decide) wa_I (Nat.le_of_ble_eq_true rfl) (Nat.le_of_ble_eq_true rfl) dX1_init_48 ?_
  refine G_app (o' := [.inr (1, [.int 3, .int 0, .int 100, .int 0, .int 1, .int 0, .ref (h + 1), .ref (h + 2), .int 0, .null, .int 0, .null, .null, .null, .null]), arI 10, arI 10, arI 5]) rfl (P := fun w => EZ ZT _ _ _ _ _ _ _ _ _ _ _ _ _ _ _ w) ?_
  refine EZ_putF (ref := RX1) (T := TX1) (N := 15) (ty := (.array .int)) tyX1 tyX1_ok nmX1 rfl uX1 (by decide) fl_X1_34 rfl rfl rfl rfl (by decide +kernel) (fun _ => rfl) (fun _ => rfl) (G_at 0 hp rfl) (Nat.le_of_ble_eq_true rfl) dX1_init_50 ?_
  refine G_set 0 (o' := [.inr (1, [.int 3, .int 0, .int 100, .int 0, .int 1, .int 0, .ref (h + 1), .ref (h + 2), .int 0, .ref (h + 3), .int 0, .null, .null, .null, .null]), arI 10, arI 10, arI 5]) hp rfl (P := fun w => EZ ZT _ _ _ _ _ _ _ _ _ _ _ _ _ _ _ w) ?_
  refine EZ_aload_n 0 dX1_init_53 rfl rfl ?_
  refine EZ_bipush 16 (by decide) dX1_init_54 ?_
  refine EZ_newI (N := h + 4) (z := 16) (New_G 4 hp (by intro N; simp [nmE, nm]) rfl (by decide) (Nat.le_of_ble_eq_true rfl) (by simp [nmE, nm, arI, arJ]) (by simp [nmE, nm, arI, arJ]) (by simp [nmE, nm, arI, arJ])) (by decide) (by decide) wa_I (Nat.le_of_ble_eq_true rfl) (Nat.le_of_ble_eq_true rfl) dX1_init_56 ?_
  refine G_app (o' := [.inr (1, [.int 3, .int 0, .int 100, .int 0, .int 1, .int 0, .ref (h + 1), .ref (h + 2), .int 0, .ref (h + 3), .int 0, .null, .null, .null, .null]), arI 10, arI 10, arI 5, arI 16]) rfl (P := fun w => EZ ZT _ _ _ _ _ _ _ _ _ _ _ _ _ _ _ w) ?_
  refine EZ_putF (ref := RX1) (T := TX1) (N := 15) (ty := (.array .int)) tyX1 tyX1_ok nmX1 rfl uX1 (by decide) fl_X1_37 rfl rfl rfl rfl (by decide +kernel) (fun _ => rfl) (fun _ => rfl) (G_at 0 hp rfl) (Nat.le_of_ble_eq_true rfl) dX1_init_58 ?_
  refine G_set 0 (o' := [.inr (1, [.int 3, .int 0, .int 100, .int 0, .int 1, .int 0, .ref (h + 1), .ref (h + 2), .int 0, .ref (h + 3), .int 0, .ref (h + 4), .null, .null, .null]), arI 10, arI 10, arI 5, arI 16]) hp rfl (P := fun w => EZ ZT _ _ _ _ _ _ _ _ _ _ _ _ _ _ _ w) ?_
  refine EZ_aload_n 0 dX1_init_61 rfl rfl ?_
  refine EZ_bipush 16 (by decide) dX1_init_62 ?_
  refine EZ_newI (N := h + 5) (z := 16) (New_G 5 hp (by intro N; simp [nmE, nm]) rfl (by decide) (Nat.le_of_ble_eq_true rfl) (by simp [nmE, nm, arI, arJ]) (by simp [nmE, nm, arI, arJ]) (by simp [nmE, nm, arI, arJ])) (by decide) (by decide) wa_I (Nat.le_of_ble_eq_true rfl) (Nat.le_of_ble_eq_true rfl) dX1_init_64 ?_
  refine G_app (o' := [.inr (1, [.int 3, .int 0, .int 100, .int 0, .int 1, .int 0, .ref (h + 1), .ref (h + 2), .int 0, .ref (h + 3), .int 0, .ref (h + 4), .null, .null, .null]), arI 10, arI 10, arI 5, arI 16, arI 16]) rfl (P := fun w => EZ ZT _ _ _ _ _ _ _ _ _ _ _ _ _ _ _ w) ?_
  refine EZ_putF (ref := RX1) (T := TX1) (N := 15) (ty := (.array .int)) tyX1 tyX1_ok nmX1 rfl uX1 (by decide) fl_X1_40 rfl rfl rfl rfl (by decide +kernel) (fun _ => rfl) (fun _ => rfl) (G_at 0 hp rfl) (Nat.le_of_ble_eq_true rfl) dX1_init_66 ?_
  refine G_set 0 (o' := [.inr (1, [.int 3, .int 0, .int 100, .int 0, .int 1, .int 0, .ref (h + 1), .ref (h + 2), .int 0, .ref (h + 3), .int 0, .ref (h + 4), .ref (h + 5), .null, .null]), arI 10, arI 10, arI 5, arI 16, arI 16]) hp rfl (P := fun w => EZ ZT _ _ _ _ _ _ _ _ _ _ _ _ _ _ _ w) ?_
  refine EZ_aload_n 0 dX1_init_69 rfl rfl ?_
  refine EZ_bipush 16 (by decide) dX1_init_70 ?_
  refine EZ_newI (N := h + 6) (z := 16) (New_G 6 hp (by intro N; simp [nmE, nm]) rfl (by decide) (Nat.le_of_ble_eq_true rfl) (by simp [nmE, nm, arI, arJ]) (by simp [nmE, nm, arI, arJ]) (by simp [nmE, nm, arI, arJ])) (by decide) (by decide) wa_I (Nat.le_of_ble_eq_true rfl) (Nat.le_of_ble_eq_true rfl) dX1_init_72 ?_
  refine G_app (o' := [.inr (1, [.int 3, .int 0, .int 100, .int 0, .int 1, .int 0, .ref (h + 1), .ref (h + 2), .int 0, .ref (h + 3), .int 0, .ref (h + 4), .ref (h + 5), .null, .null]), arI 10, arI 10, arI 5, arI 16, arI 16, arI 16]) rfl (P := fun w => EZ ZT _ _ _ _ _ _ _ _ _ _ _ _ _ _ _ w) ?_
  refine EZ_putF (ref := RX1) (T := TX1) (N := 15) (ty := (.array .int)) tyX1 tyX1_ok nmX1 rfl uX1 (by decide) fl_X1_43 rfl rfl rfl rfl (by decide +kernel) (fun _ => rfl) (fun _ => rfl) (G_at 0 hp rfl) (Nat.le_of_ble_eq_true rfl) dX1_init_74 ?_
  refine G_set 0 (o' := [.inr (1, [.int 3, .int 0, .int 100, .int 0, .int 1, .int 0, .ref (h + 1), .ref (h + 2), .int 0, .ref (h + 3), .int 0, .ref (h + 4), .ref (h + 5), .ref (h + 6), .null]), arI 10, arI 10, arI 5, arI 16, arI 16, arI 16]) hp rfl (P := fun w => EZ ZT _ _ _ _ _ _ _ _ _ _ _ _ _ _ _ w) ?_
  refine EZ_aload_n 0 dX1_init_77 rfl rfl ?_
  refine EZ_bipush 16 (by decide) dX1_init_78 ?_
  refine EZ_newI (N := h + 7) (z := 16) (New_G 7 hp (by intro N; simp [nmE, nm]) rfl (by decide) (Nat.le_of_ble_eq_true rfl) (by simp [nmE, nm, arI, arJ]) (by simp [nmE, nm, arI, arJ]) (by simp [nmE, nm, arI, arJ])) (by decide) (by decide) wa_I (Nat.le_of_ble_eq_true rfl) (Nat.le_of_ble_eq_true rfl) dX1_init_80 ?_
  refine G_app (o' := [.inr (1, [.int 3, .int 0, .int 100, .int 0, .int 1, .int 0, .ref (h + 1), .ref (h + 2), .int 0, .ref (h + 3), .int 0, .ref (h + 4), .ref (h + 5), .ref (h + 6), .null]), arI 10, arI 10, arI 5, arI 16, arI 16, arI 16, arI 16]) rfl (P := fun w => EZ ZT _ _ _ _ _ _ _ _ _ _ _ _ _ _ _ w) ?_
  refine EZ_putF (ref := RX1) (T := TX1) (N := 15) (ty := (.array .int)) tyX1 tyX1_ok nmX1 rfl uX1 (by decide) fl_X1_46 rfl rfl rfl rfl (by decide +kernel) (fun _ => rfl) (fun _ => rfl) (G_at 0 hp rfl) (Nat.le_of_ble_eq_true rfl) dX1_init_82 ?_
  refine G_set 0 (o' := [.inr (1, [.int 3, .int 0, .int 100, .int 0, .int 1, .int 0, .ref (h + 1), .ref (h + 2), .int 0, .ref (h + 3), .int 0, .ref (h + 4), .ref (h + 5), .ref (h + 6), .ref (h + 7)]), arI 10, arI 10, arI 5, arI 16, arI 16, arI 16, arI 16]) hp rfl (P := fun w => EZ ZT _ _ _ _ _ _ _ _ _ _ _ _ _ _ _ w) ?_
  exact EZ_nret rfl (Nat.le_of_ble_eq_true rfl) (Nat.le_of_ble_eq_true rfl) dX1_init_85 rfl
set_option maxRecDepth 100000 in
theorem n_X0 (l : Launch) (hfl : l.stackTraces = false) {pre : AW} {h : Nat} (hp : Pre pre h) : CtN l yX0_init (.code yX0_init cX0_init 1 none) 0 4 46 [.ref h] (pre ++ [.inr (0, [.null, .null, .null, .null, .int 0, .int 0, .int 0, .int 0, .int 0, .int 0])]) (pre ++ [.inr (0, [.ref (h + 1), .ref (h + 2), .ref (h + 3), .ref (h + 4), .int 0, .int 0, .int 0, .int 0, .int 0, .int 0]), arI 11, arI 11, arJ 12, arJ 12]) := by
  refine CtN_of pn_X0 hfl rfl (Nat.le_of_ble_eq_true rfl) (fun hh => ?_)
  show EZ ZT l RX0 cX0_init 1 none true hh (rmE 0 4 46) (pre ++ [.inr (0, [.null, .null, .null, .null, .int 0, .int 0, .int 0, .int 0, .int 0, .int 0])]) (TgN (pre ++ [.inr (0, [.null, .null, .null, .null, .int 0, .int 0, .int 0, .int 0, .int 0, .int 0])]) (pre ++ [.inr (0, [.ref (h + 1), .ref (h + 2), .ref (h + 3), .ref (h + 4), .int 0, .int 0, .int 0, .int 0, .int 0, .int 0]), arI 11, arI 11, arJ 12, arJ 12]) 4 46) 0 0 0 [(0, .ref h)] [] (pre ++ [.inr (0, [.null, .null, .null, .null, .int 0, .int 0, .int 0, .int 0, .int 0, .int 0])])
  refine EZ_aload_n 0 dX0_init_0 rfl rfl ?_
  refine EZ_obj wl_X0_3 dX0_init_1 ⟨Nat.le_of_ble_eq_true rfl, Nat.le_of_ble_eq_true rfl⟩ (Nat.le_of_ble_eq_true rfl) ?_
  refine EZ_aload_n 0 dX0_init_4 rfl rfl ?_
  refine EZ_bipush 11 (by decide) dX0_init_5 ?_
  refine EZ_newI (N := h + 1) (z := 11) (New_G 1 hp (by intro N; simp [nmE, nm]) rfl (by decide) (Nat.le_of_ble_eq_true rfl) (by simp [nmE, nm, arI, arJ]) (by simp [nmE, nm, arI, arJ]) (by simp [nmE, nm, arI, arJ])) (by decide) (by decide) wa_I (Nat.le_of_ble_eq_true rfl) (Nat.le_of_ble_eq_true rfl) dX0_init_7 ?_
  refine G_app (o' := [.inr (0, [.null, .null, .null, .null, .int 0, .int 0, .int 0, .int 0, .int 0, .int 0]), arI 11]) rfl (P := fun w => EZ ZT _ _ _ _ _ _ _ _ _ _ _ _ _ _ _ w) ?_
  refine EZ_putF (ref := RX0) (T := TX0) (N := 10) (ty := (.array .int)) tyX0 tyX0_ok nmX0 rfl uX0 (by decide) fl_X0_11 rfl rfl rfl rfl (by decide +kernel) (fun _ => rfl) (fun _ => rfl) (G_at 0 hp rfl) (Nat.le_of_ble_eq_true rfl) dX0_init_9 ?_
  refine G_set 0 (o' := [.inr (0, [.ref (h + 1), .null, .null, .null, .int 0, .int 0, .int 0, .int 0, .int 0, .int 0]), arI 11]) hp rfl (P := fun w => EZ ZT _ _ _ _ _ _ _ _ _ _ _ _ _ _ _ w) ?_
  refine EZ_aload_n 0 dX0_init_12 rfl rfl ?_
  refine EZ_bipush 11 (by decide) dX0_init_13 ?_
  refine EZ_newI (N := h + 2) (z := 11) (New_G 2 hp (by intro N; simp [nmE, nm]) rfl (by decide) (Nat.le_of_ble_eq_true rfl) (by simp [nmE, nm, arI, arJ]) (by simp [nmE, nm, arI, arJ]) (by simp [nmE, nm, arI, arJ])) (by decide) (by decide) wa_I (Nat.le_of_ble_eq_true rfl) (Nat.le_of_ble_eq_true rfl) dX0_init_15 ?_
  refine G_app (o' := [.inr (0, [.ref (h + 1), .null, .null, .null, .int 0, .int 0, .int 0, .int 0, .int 0, .int 0]), arI 11, arI 11]) rfl (P := fun w => EZ ZT _ _ _ _ _ _ _ _ _ _ _ _ _ _ _ w) ?_
  refine EZ_putF (ref := RX0) (T := TX0) (N := 10) (ty := (.array .int)) tyX0 tyX0_ok nmX0 rfl uX0 (by decide) fl_X0_15 rfl rfl rfl rfl (by decide +kernel) (fun _ => rfl) (fun _ => rfl) (G_at 0 hp rfl) (Nat.le_of_ble_eq_true rfl) dX0_init_17 ?_
  refine G_set 0 (o' := [.inr (0, [.ref (h + 1), .ref (h + 2), .null, .null, .int 0, .int 0, .int 0, .int 0, .int 0, .int 0]), arI 11, arI 11]) hp rfl (P := fun w => EZ ZT _ _ _ _ _ _ _ _ _ _ _ _ _ _ _ w) ?_
  refine EZ_aload_n 0 dX0_init_20 rfl rfl ?_
  refine EZ_bipush 12 (by decide) dX0_init_21 ?_
  refine EZ_newJ (N := h + 3) (z := 12) (New_G 3 hp (by intro N; simp [nmE, nm]) rfl (by decide) (Nat.le_of_ble_eq_true rfl) (by simp [nmE, nm, arI, arJ]) (by simp [nmE, nm, arI, arJ]) (by simp [nmE, nm, arI, arJ])) (by decide) (by decide) wa_J (Nat.le_of_ble_eq_true rfl) (Nat.le_of_ble_eq_true rfl) dX0_init_23 ?_
  refine G_app (o' := [.inr (0, [.ref (h + 1), .ref (h + 2), .null, .null, .int 0, .int 0, .int 0, .int 0, .int 0, .int 0]), arI 11, arI 11, arJ 12]) rfl (P := fun w => EZ ZT _ _ _ _ _ _ _ _ _ _ _ _ _ _ _ w) ?_
  refine EZ_putF (ref := RX0) (T := TX0) (N := 10) (ty := (.array .long)) tyX0 tyX0_ok nmX0 rfl uX0 (by decide) fl_X0_18 rfl rfl rfl rfl (by decide +kernel) (fun _ => rfl) (fun _ => rfl) (G_at 0 hp rfl) (Nat.le_of_ble_eq_true rfl) dX0_init_25 ?_
  refine G_set 0 (o' := [.inr (0, [.ref (h + 1), .ref (h + 2), .ref (h + 3), .null, .int 0, .int 0, .int 0, .int 0, .int 0, .int 0]), arI 11, arI 11, arJ 12]) hp rfl (P := fun w => EZ ZT _ _ _ _ _ _ _ _ _ _ _ _ _ _ _ w) ?_
  refine EZ_aload_n 0 dX0_init_28 rfl rfl ?_
  refine EZ_bipush 12 (by decide) dX0_init_29 ?_
  refine EZ_newJ (N := h + 4) (z := 12) (New_G 4 hp (by intro N; simp [nmE, nm]) rfl (by decide) (Nat.le_of_ble_eq_true rfl) (by simp [nmE, nm, arI, arJ]) (by simp [nmE, nm, arI, arJ]) (by simp [nmE, nm, arI, arJ])) (by decide) (by decide) wa_J (Nat.le_of_ble_eq_true rfl) (Nat.le_of_ble_eq_true rfl) dX0_init_31 ?_
  refine G_app (o' := [.inr (0, [.ref (h + 1), .ref (h + 2), .ref (h + 3), .null, .int 0, .int 0, .int 0, .int 0, .int 0, .int 0]), arI 11, arI 11, arJ 12, arJ 12]) rfl (P := fun w => EZ ZT _ _ _ _ _ _ _ _ _ _ _ _ _ _ _ w) ?_
  refine EZ_putF (ref := RX0) (T := TX0) (N := 10) (ty := (.array .long)) tyX0 tyX0_ok nmX0 rfl uX0 (by decide) fl_X0_22 rfl rfl rfl rfl (by decide +kernel) (fun _ => rfl) (fun _ => rfl) (G_at 0 hp rfl) (Nat.le_of_ble_eq_true rfl) dX0_init_33 ?_
  refine G_set 0 (o' := [.inr (0, [.ref (h + 1), .ref (h + 2), .ref (h + 3), .ref (h + 4), .int 0, .int 0, .int 0, .int 0, .int 0, .int 0]), arI 11, arI 11, arJ 12, arJ 12]) hp rfl (P := fun w => EZ ZT _ _ _ _ _ _ _ _ _ _ _ _ _ _ _ w) ?_
  exact EZ_nret rfl (Nat.le_of_ble_eq_true rfl) (Nat.le_of_ble_eq_true rfl) dX0_init_36 rfl
set_option maxRecDepth 100000 in
theorem n_X3 (l : Launch) (hfl : l.stackTraces = false) {pre : AW} {h : Nat} (hp : Pre pre h) : CtN l yX3_init (.code yX3_init cX3_init 1 none) 0 1 3240 [.ref h] (pre ++ [.inr (3, [.null, .int 0])]) (pre ++ [.inr (3, [.ref (h + 1), .int 0]), arI 3240]) := by
  refine CtN_of pn_X3 hfl rfl (Nat.le_of_ble_eq_true rfl) (fun hh => ?_)
  show EZ ZT l RX3 cX3_init 1 none true hh (rmE 0 1 3240) (pre ++ [.inr (3, [.null, .int 0])]) (TgN (pre ++ [.inr (3, [.null, .int 0])]) (pre ++ [.inr (3, [.ref (h + 1), .int 0]), arI 3240]) 1 3240) 0 0 0 [(0, .ref h)] [] (pre ++ [.inr (3, [.null, .int 0])])
  refine EZ_aload_n 0 dX3_init_0 rfl rfl ?_
  refine EZ_obj wl_X3_3 dX3_init_1 ⟨Nat.le_of_ble_eq_true rfl, Nat.le_of_ble_eq_true rfl⟩ (Nat.le_of_ble_eq_true rfl) ?_
  refine EZ_aload_n 0 dX3_init_4 rfl rfl ?_
  refine EZ_sipush 3240 (by decide) dX3_init_5 ?_
  refine EZ_newI (N := h + 1) (z := 3240) (New_G 1 hp (by intro N; simp [nmE, nm]) rfl (by decide) (Nat.le_of_ble_eq_true rfl) (by simp [nmE, nm, arI, arJ]) (by simp [nmE, nm, arI, arJ]) (by simp [nmE, nm, arI, arJ])) (by decide) (by decide) wa_I (Nat.le_of_ble_eq_true rfl) (Nat.le_of_ble_eq_true rfl) dX3_init_8 ?_
  refine G_app (o' := [.inr (3, [.null, .int 0]), arI 3240]) rfl (P := fun w => EZ ZT _ _ _ _ _ _ _ _ _ _ _ _ _ _ _ w) ?_
  refine EZ_putF (ref := RX3) (T := TX3) (N := 2) (ty := (.array .int)) tyX3 tyX3_ok nmX3 rfl uX3 (by decide) fl_X3_11 rfl rfl rfl rfl (by decide +kernel) (fun _ => rfl) (fun _ => rfl) (G_at 0 hp rfl) (Nat.le_of_ble_eq_true rfl) dX3_init_10 ?_
  refine G_set 0 (o' := [.inr (3, [.ref (h + 1), .int 0]), arI 3240]) hp rfl (P := fun w => EZ ZT _ _ _ _ _ _ _ _ _ _ _ _ _ _ _ w) ?_
  exact EZ_nret rfl (Nat.le_of_ble_eq_true rfl) (Nat.le_of_ble_eq_true rfl) dX3_init_13 rfl
set_option maxRecDepth 100000 in
theorem n_X4 (l : Launch) (hfl : l.stackTraces = false) {pre : AW} {h : Nat} (hp : Pre pre h) : CtN l yX4_init (.code yX4_init cX4_init 1 none) 0 1 120 [.ref h] (pre ++ [.inr (4, [.null, .int 0, .int 0, .int 0, .int 0])]) (pre ++ [.inr (4, [.ref (h + 1), .int 0, .int 0, .int 0, .int 0]), arI 120]) := by
  refine CtN_of pn_X4 hfl rfl (Nat.le_of_ble_eq_true rfl) (fun hh => ?_)
  show EZ ZT l RX4 cX4_init 1 none true hh (rmE 0 1 120) (pre ++ [.inr (4, [.null, .int 0, .int 0, .int 0, .int 0])]) (TgN (pre ++ [.inr (4, [.null, .int 0, .int 0, .int 0, .int 0])]) (pre ++ [.inr (4, [.ref (h + 1), .int 0, .int 0, .int 0, .int 0]), arI 120]) 1 120) 0 0 0 [(0, .ref h)] [] (pre ++ [.inr (4, [.null, .int 0, .int 0, .int 0, .int 0])])
  refine EZ_aload_n 0 dX4_init_0 rfl rfl ?_
  refine EZ_obj wl_X4_3 dX4_init_1 ⟨Nat.le_of_ble_eq_true rfl, Nat.le_of_ble_eq_true rfl⟩ (Nat.le_of_ble_eq_true rfl) ?_
  refine EZ_aload_n 0 dX4_init_4 rfl rfl ?_
  refine EZ_bipush 120 (by decide) dX4_init_5 ?_
  refine EZ_newI (N := h + 1) (z := 120) (New_G 1 hp (by intro N; simp [nmE, nm]) rfl (by decide) (Nat.le_of_ble_eq_true rfl) (by simp [nmE, nm, arI, arJ]) (by simp [nmE, nm, arI, arJ]) (by simp [nmE, nm, arI, arJ])) (by decide) (by decide) wa_I (Nat.le_of_ble_eq_true rfl) (Nat.le_of_ble_eq_true rfl) dX4_init_7 ?_
  refine G_app (o' := [.inr (4, [.null, .int 0, .int 0, .int 0, .int 0]), arI 120]) rfl (P := fun w => EZ ZT _ _ _ _ _ _ _ _ _ _ _ _ _ _ _ w) ?_
  refine EZ_putF (ref := RX4) (T := TX4) (N := 5) (ty := (.array .int)) tyX4 tyX4_ok nmX4 rfl uX4 (by decide) fl_X4_9 rfl rfl rfl rfl (by decide +kernel) (fun _ => rfl) (fun _ => rfl) (G_at 0 hp rfl) (Nat.le_of_ble_eq_true rfl) dX4_init_9 ?_
  refine G_set 0 (o' := [.inr (4, [.ref (h + 1), .int 0, .int 0, .int 0, .int 0]), arI 120]) hp rfl (P := fun w => EZ ZT _ _ _ _ _ _ _ _ _ _ _ _ _ _ _ w) ?_
  exact EZ_nret rfl (Nat.le_of_ble_eq_true rfl) (Nat.le_of_ble_eq_true rfl) dX4_init_12 rfl
set_option maxRecDepth 100000 in
theorem n_X6 (l : Launch) (hfl : l.stackTraces = false) {pre : AW} {h : Nat} (hp : Pre pre h) : CtN l yX6_init (.code yX6_init cX6_init 1 none) 0 11 3931 [.ref h] (pre ++ [.inr (6, [.null, .null, .int 0, .null, .int 0, .int 0, .null, .null, .null, .int 0, .null, .long 0, .null, .null, .int 0, .int 0, .int 0, .null, .int 0, .null, .int 0, .int 0, .long 0])]) (pre ++ [.inr (6, [.ref (h + 1), .ref (h + 2), .int 0, .ref (h + 3), .int 0, .int 0, .ref (h + 4), .ref (h + 5), .ref (h + 6), .int 0, .ref (h + 7), .long 0, .ref (h + 8), .ref (h + 9), .int 0, .int 0, .int 0, .ref (h + 10), .int 0, .ref (h + 11), .int 0, .int 0, .long 0]), .inl (0, 81, .inl (upd (upd (upd (fun _ => 0) (Int32.toNatClampNeg 0) 3) (Int32.toNatClampNeg 2) 100) (Int32.toNatClampNeg 4) 1)), arI 324, arI 120, arI 12, arI 12, arI 3300, arI 8, arI 17, arI 32, arI 20, arI 5]) := by
  refine CtN_of pn_X6 hfl rfl (Nat.le_of_ble_eq_true rfl) (fun hh => ?_)
  show EZ ZT l RX6 cX6_init 1 none true hh (rmE 0 11 3931) (pre ++ [.inr (6, [.null, .null, .int 0, .null, .int 0, .int 0, .null, .null, .null, .int 0, .null, .long 0, .null, .null, .int 0, .int 0, .int 0, .null, .int 0, .null, .int 0, .int 0, .long 0])]) (TgN (pre ++ [.inr (6, [.null, .null, .int 0, .null, .int 0, .int 0, .null, .null, .null, .int 0, .null, .long 0, .null, .null, .int 0, .int 0, .int 0, .null, .int 0, .null, .int 0, .int 0, .long 0])]) (pre ++ [.inr (6, [.ref (h + 1), .ref (h + 2), .int 0, .ref (h + 3), .int 0, .int 0, .ref (h + 4), .ref (h + 5), .ref (h + 6), .int 0, .ref (h + 7), .long 0, .ref (h + 8), .ref (h + 9), .int 0, .int 0, .int 0, .ref (h + 10), .int 0, .ref (h + 11), .int 0, .int 0, .long 0]), .inl (0, 81, .inl (upd (upd (upd (fun _ => 0) (Int32.toNatClampNeg 0) 3) (Int32.toNatClampNeg 2) 100) (Int32.toNatClampNeg 4) 1)), arI 324, arI 120, arI 12, arI 12, arI 3300, arI 8, arI 17, arI 32, arI 20, arI 5]) 11 3931) 0 0 0 [(0, .ref h)] [] (pre ++ [.inr (6, [.null, .null, .int 0, .null, .int 0, .int 0, .null, .null, .null, .int 0, .null, .long 0, .null, .null, .int 0, .int 0, .int 0, .null, .int 0, .null, .int 0, .int 0, .long 0])])
  refine EZ_aload_n 0 dX6_init_0 rfl rfl ?_
  refine EZ_obj wl_X6_1 dX6_init_1 ⟨Nat.le_of_ble_eq_true rfl, Nat.le_of_ble_eq_true rfl⟩ (Nat.le_of_ble_eq_true rfl) ?_
  refine EZ_aload_n 0 dX6_init_4 rfl rfl ?_
  refine EZ_bipush 81 (by decide) dX6_init_5 ?_
  refine EZ_newI (N := h + 1) (z := 81) (New_G 1 hp (by intro N; simp [nmE, nm]) rfl (by decide) (Nat.le_of_ble_eq_true rfl) (by simp [nmE, nm, arI, arJ]) (by simp [nmE, nm, arI, arJ]) (by simp [nmE, nm, arI, arJ])) (by decide) (by decide) wa_I (Nat.le_of_ble_eq_true rfl) (Nat.le_of_ble_eq_true rfl) dX6_init_7 ?_
  refine G_app (o' := [.inr (6, [.null, .null, .int 0, .null, .int 0, .int 0, .null, .null, .null, .int 0, .null, .long 0, .null, .null, .int 0, .int 0, .int 0, .null, .int 0, .null, .int 0, .int 0, .long 0]), arI 81]) rfl (P := fun w => EZ ZT _ _ _ _ _ _ _ _ _ _ _ _ _ _ _ w) ?_
  refine EZ_putF (ref := RX6) (T := TX6) (N := 23) (ty := (.array .int)) tyX6 tyX6_ok nmX6 rfl uX6 (by decide) fl_X6_7 rfl rfl rfl rfl (by decide +kernel) (fun _ => rfl) (fun _ => rfl) (G_at 0 hp rfl) (Nat.le_of_ble_eq_true rfl) dX6_init_9 ?_
  refine G_set 0 (o' := [.inr (6, [.ref (h + 1), .null, .int 0, .null, .int 0, .int 0, .null, .null, .null, .int 0, .null, .long 0, .null, .null, .int 0, .int 0, .int 0, .null, .int 0, .null, .int 0, .int 0, .long 0]), arI 81]) hp rfl (P := fun w => EZ ZT _ _ _ _ _ _ _ _ _ _ _ _ _ _ _ w) ?_
  refine EZ_aload_n 0 dX6_init_12 rfl rfl ?_
  refine EZ_sipush 324 (by decide) dX6_init_13 ?_
  refine EZ_newI (N := h + 2) (z := 324) (New_G 2 hp (by intro N; simp [nmE, nm]) rfl (by decide) (Nat.le_of_ble_eq_true rfl) (by simp [nmE, nm, arI, arJ]) (by simp [nmE, nm, arI, arJ]) (by simp [nmE, nm, arI, arJ])) (by decide) (by decide) wa_I (Nat.le_of_ble_eq_true rfl) (Nat.le_of_ble_eq_true rfl) dX6_init_16 ?_
  refine G_app (o' := [.inr (6, [.ref (h + 1), .null, .int 0, .null, .int 0, .int 0, .null, .null, .null, .int 0, .null, .long 0, .null, .null, .int 0, .int 0, .int 0, .null, .int 0, .null, .int 0, .int 0, .long 0]), arI 81, arI 324]) rfl (P := fun w => EZ ZT _ _ _ _ _ _ _ _ _ _ _ _ _ _ _ w) ?_
  refine EZ_putF (ref := RX6) (T := TX6) (N := 23) (ty := (.array .int)) tyX6 tyX6_ok nmX6 rfl uX6 (by decide) fl_X6_13 rfl rfl rfl rfl (by decide +kernel) (fun _ => rfl) (fun _ => rfl) (G_at 0 hp rfl) (Nat.le_of_ble_eq_true rfl) dX6_init_18 ?_
  refine G_set 0 (o' := [.inr (6, [.ref (h + 1), .ref (h + 2), .int 0, .null, .int 0, .int 0, .null, .null, .null, .int 0, .null, .long 0, .null, .null, .int 0, .int 0, .int 0, .null, .int 0, .null, .int 0, .int 0, .long 0]), arI 81, arI 324]) hp rfl (P := fun w => EZ ZT _ _ _ _ _ _ _ _ _ _ _ _ _ _ _ w) ?_
  refine EZ_aload_n 0 dX6_init_21 rfl rfl ?_
  refine EZ_bipush 120 (by decide) dX6_init_22 ?_
  refine EZ_newI (N := h + 3) (z := 120) (New_G 3 hp (by intro N; simp [nmE, nm]) rfl (by decide) (Nat.le_of_ble_eq_true rfl) (by simp [nmE, nm, arI, arJ]) (by simp [nmE, nm, arI, arJ]) (by simp [nmE, nm, arI, arJ])) (by decide) (by decide) wa_I (Nat.le_of_ble_eq_true rfl) (Nat.le_of_ble_eq_true rfl) dX6_init_24 ?_
  refine G_app (o' := [.inr (6, [.ref (h + 1), .ref (h + 2), .int 0, .null, .int 0, .int 0, .null, .null, .null, .int 0, .null, .long 0, .null, .null, .int 0, .int 0, .int 0, .null, .int 0, .null, .int 0, .int 0, .long 0]), arI 81, arI 324, arI 120]) rfl (P := fun w => EZ ZT _ _ _ _ _ _ _ _ _ _ _ _ _ _ _ w) ?_
  refine EZ_putF (ref := RX6) (T := TX6) (N := 23) (ty := (.array .int)) tyX6 tyX6_ok nmX6 rfl uX6 (by decide) fl_X6_16 rfl rfl rfl rfl (by decide +kernel) (fun _ => rfl) (fun _ => rfl) (G_at 0 hp rfl) (Nat.le_of_ble_eq_true rfl) dX6_init_26 ?_
  refine G_set 0 (o' := [.inr (6, [.ref (h + 1), .ref (h + 2), .int 0, .ref (h + 3), .int 0, .int 0, .null, .null, .null, .int 0, .null, .long 0, .null, .null, .int 0, .int 0, .int 0, .null, .int 0, .null, .int 0, .int 0, .long 0]), arI 81, arI 324, arI 120]) hp rfl (P := fun w => EZ ZT _ _ _ _ _ _ _ _ _ _ _ _ _ _ _ w) ?_
  refine EZ_aload_n 0 dX6_init_29 rfl rfl ?_
  refine EZ_bipush 12 (by decide) dX6_init_30 ?_
  refine EZ_newI (N := h + 4) (z := 12) (New_G 4 hp (by intro N; simp [nmE, nm]) rfl (by decide) (Nat.le_of_ble_eq_true rfl) (by simp [nmE, nm, arI, arJ]) (by simp [nmE, nm, arI, arJ]) (by simp [nmE, nm, arI, arJ])) (by decide) (by decide) wa_I (Nat.le_of_ble_eq_true rfl) (Nat.le_of_ble_eq_true rfl) dX6_init_32 ?_
  refine G_app (o' := [.inr (6, [.ref (h + 1), .ref (h + 2), .int 0, .ref (h + 3), .int 0, .int 0, .null, .null, .null, .int 0, .null, .long 0, .null, .null, .int 0, .int 0, .int 0, .null, .int 0, .null, .int 0, .int 0, .long 0]), arI 81, arI 324, arI 120, arI 12]) rfl (P := fun w => EZ ZT _ _ _ _ _ _ _ _ _ _ _ _ _ _ _ w) ?_
  refine EZ_putF (ref := RX6) (T := TX6) (N := 23) (ty := (.array .int)) tyX6 tyX6_ok nmX6 rfl uX6 (by decide) fl_X6_19 rfl rfl rfl rfl (by decide +kernel) (fun _ => rfl) (fun _ => rfl) (G_at 0 hp rfl) (Nat.le_of_ble_eq_true rfl) dX6_init_34 ?_
  refine G_set 0 (o' := [.inr (6, [.ref (h + 1), .ref (h + 2), .int 0, .ref (h + 3), .int 0, .int 0, .ref (h + 4), .null, .null, .int 0, .null, .long 0, .null, .null, .int 0, .int 0, .int 0, .null, .int 0, .null, .int 0, .int 0, .long 0]), arI 81, arI 324, arI 120, arI 12]) hp rfl (P := fun w => EZ ZT _ _ _ _ _ _ _ _ _ _ _ _ _ _ _ w) ?_
  refine EZ_aload_n 0 dX6_init_37 rfl rfl ?_
  refine EZ_bipush 12 (by decide) dX6_init_38 ?_
  refine EZ_newI (N := h + 5) (z := 12) (New_G 5 hp (by intro N; simp [nmE, nm]) rfl (by decide) (Nat.le_of_ble_eq_true rfl) (by simp [nmE, nm, arI, arJ]) (by simp [nmE, nm, arI, arJ]) (by simp [nmE, nm, arI, arJ])) (by decide) (by decide) wa_I (Nat.le_of_ble_eq_true rfl) (Nat.le_of_ble_eq_true rfl) dX6_init_40 ?_
  refine G_app (o' := [.inr (6, [.ref (h + 1), .ref (h + 2), .int 0, .ref (h + 3), .int 0, .int 0, .ref (h + 4), .null, .null, .int 0, .null, .long 0, .null, .null, .int 0, .int 0, .int 0, .null, .int 0, .null, .int 0, .int 0, .long 0]), arI 81, arI 324, arI 120, arI 12, arI 12]) rfl (P := fun w => EZ ZT _ _ _ _ _ _ _ _ _ _ _ _ _ _ _ w) ?_
  refine EZ_putF (ref := RX6) (T := TX6) (N := 23) (ty := (.array .int)) tyX6 tyX6_ok nmX6 rfl uX6 (by decide) fl_X6_22 rfl rfl rfl rfl (by decide +kernel) (fun _ => rfl) (fun _ => rfl) (G_at 0 hp rfl) (Nat.le_of_ble_eq_true rfl) dX6_init_42 ?_
  refine G_set 0 (o' := [.inr (6, [.ref (h + 1), .ref (h + 2), .int 0, .ref (h + 3), .int 0, .int 0, .ref (h + 4), .ref (h + 5), .null, .int 0, .null, .long 0, .null, .null, .int 0, .int 0, .int 0, .null, .int 0, .null, .int 0, .int 0, .long 0]), arI 81, arI 324, arI 120, arI 12, arI 12]) hp rfl (P := fun w => EZ ZT _ _ _ _ _ _ _ _ _ _ _ _ _ _ _ w) ?_
  refine EZ_aload_n 0 dX6_init_45 rfl rfl ?_
  refine EZ_sipush 3300 (by decide) dX6_init_46 ?_
  refine EZ_newI (N := h + 6) (z := 3300) (New_G 6 hp (by intro N; simp [nmE, nm]) rfl (by decide) (Nat.le_of_ble_eq_true rfl) (by simp [nmE, nm, arI, arJ]) (by simp [nmE, nm, arI, arJ]) (by simp [nmE, nm, arI, arJ])) (by decide) (by decide) wa_I (Nat.le_of_ble_eq_true rfl) (Nat.le_of_ble_eq_true rfl) dX6_init_49 ?_
  refine G_app (o' := [.inr (6, [.ref (h + 1), .ref (h + 2), .int 0, .ref (h + 3), .int 0, .int 0, .ref (h + 4), .ref (h + 5), .null, .int 0, .null, .long 0, .null, .null, .int 0, .int 0, .int 0, .null, .int 0, .null, .int 0, .int 0, .long 0]), arI 81, arI 324, arI 120, arI 12, arI 12, arI 3300]) rfl (P := fun w => EZ ZT _ _ _ _ _ _ _ _ _ _ _ _ _ _ _ w) ?_
  refine EZ_putF (ref := RX6) (T := TX6) (N := 23) (ty := (.array .int)) tyX6 tyX6_ok nmX6 rfl uX6 (by decide) fl_X6_25 rfl rfl rfl rfl (by decide +kernel) (fun _ => rfl) (fun _ => rfl) (G_at 0 hp rfl) (Nat.le_of_ble_eq_true rfl) dX6_init_51 ?_
  refine G_set 0 (o' := [.inr (6, [.ref (h + 1), .ref (h + 2), .int 0, .ref (h + 3), .int 0, .int 0, .ref (h + 4), .ref (h + 5), .ref (h + 6), .int 0, .null, .long 0, .null, .null, .int 0, .int 0, .int 0, .null, .int 0, .null, .int 0, .int 0, .long 0]), arI 81, arI 324, arI 120, arI 12, arI 12, arI 3300]) hp rfl (P := fun w => EZ ZT _ _ _ _ _ _ _ _ _ _ _ _ _ _ _ w) ?_
  refine EZ_aload_n 0 dX6_init_54 rfl rfl ?_
  refine EZ_bipush 8 (by decide) dX6_init_55 ?_
  refine EZ_newI (N := h + 7) (z := 8) (New_G 7 hp (by intro N; simp [nmE, nm]) rfl (by decide) (Nat.le_of_ble_eq_true rfl) (by simp [nmE, nm, arI, arJ]) (by simp [nmE, nm, arI, arJ]) (by simp [nmE, nm, arI, arJ])) (by decide) (by decide) wa_I (Nat.le_of_ble_eq_true rfl) (Nat.le_of_ble_eq_true rfl) dX6_init_57 ?_
  refine G_app (o' := [.inr (6, [.ref (h + 1), .ref (h + 2), .int 0, .ref (h + 3), .int 0, .int 0, .ref (h + 4), .ref (h + 5), .ref (h + 6), .int 0, .null, .long 0, .null, .null, .int 0, .int 0, .int 0, .null, .int 0, .null, .int 0, .int 0, .long 0]), arI 81, arI 324, arI 120, arI 12, arI 12, arI 3300, arI 8]) rfl (P := fun w => EZ ZT _ _ _ _ _ _ _ _ _ _ _ _ _ _ _ w) ?_
  refine EZ_putF (ref := RX6) (T := TX6) (N := 23) (ty := (.array .int)) tyX6 tyX6_ok nmX6 rfl uX6 (by decide) fl_X6_28 rfl rfl rfl rfl (by decide +kernel) (fun _ => rfl) (fun _ => rfl) (G_at 0 hp rfl) (Nat.le_of_ble_eq_true rfl) dX6_init_59 ?_
  refine G_set 0 (o' := [.inr (6, [.ref (h + 1), .ref (h + 2), .int 0, .ref (h + 3), .int 0, .int 0, .ref (h + 4), .ref (h + 5), .ref (h + 6), .int 0, .ref (h + 7), .long 0, .null, .null, .int 0, .int 0, .int 0, .null, .int 0, .null, .int 0, .int 0, .long 0]), arI 81, arI 324, arI 120, arI 12, arI 12, arI 3300, arI 8]) hp rfl (P := fun w => EZ ZT _ _ _ _ _ _ _ _ _ _ _ _ _ _ _ w) ?_
  refine EZ_aload_n 0 dX6_init_62 rfl rfl ?_
  refine EZ_bipush 17 (by decide) dX6_init_63 ?_
  refine EZ_newI (N := h + 8) (z := 17) (New_G 8 hp (by intro N; simp [nmE, nm]) rfl (by decide) (Nat.le_of_ble_eq_true rfl) (by simp [nmE, nm, arI, arJ]) (by simp [nmE, nm, arI, arJ]) (by simp [nmE, nm, arI, arJ])) (by decide) (by decide) wa_I (Nat.le_of_ble_eq_true rfl) (Nat.le_of_ble_eq_true rfl) dX6_init_65 ?_
  refine G_app (o' := [.inr (6, [.ref (h + 1), .ref (h + 2), .int 0, .ref (h + 3), .int 0, .int 0, .ref (h + 4), .ref (h + 5), .ref (h + 6), .int 0, .ref (h + 7), .long 0, .null, .null, .int 0, .int 0, .int 0, .null, .int 0, .null, .int 0, .int 0, .long 0]), arI 81, arI 324, arI 120, arI 12, arI 12, arI 3300, arI 8, arI 17]) rfl (P := fun w => EZ ZT _ _ _ _ _ _ _ _ _ _ _ _ _ _ _ w) ?_
  refine EZ_putF (ref := RX6) (T := TX6) (N := 23) (ty := (.array .int)) tyX6 tyX6_ok nmX6 rfl uX6 (by decide) fl_X6_31 rfl rfl rfl rfl (by decide +kernel) (fun _ => rfl) (fun _ => rfl) (G_at 0 hp rfl) (Nat.le_of_ble_eq_true rfl) dX6_init_67 ?_
  refine G_set 0 (o' := [.inr (6, [.ref (h + 1), .ref (h + 2), .int 0, .ref (h + 3), .int 0, .int 0, .ref (h + 4), .ref (h + 5), .ref (h + 6), .int 0, .ref (h + 7), .long 0, .ref (h + 8), .null, .int 0, .int 0, .int 0, .null, .int 0, .null, .int 0, .int 0, .long 0]), arI 81, arI 324, arI 120, arI 12, arI 12, arI 3300, arI 8, arI 17]) hp rfl (P := fun w => EZ ZT _ _ _ _ _ _ _ _ _ _ _ _ _ _ _ w) ?_
  refine EZ_aload_n 0 dX6_init_70 rfl rfl ?_
  refine EZ_bipush 32 (by decide) dX6_init_71 ?_
  refine EZ_newI (N := h + 9) (z := 32) (New_G 9 hp (by intro N; simp [nmE, nm]) rfl (by decide) (Nat.le_of_ble_eq_true rfl) (by simp [nmE, nm, arI, arJ]) (by simp [nmE, nm, arI, arJ]) (by simp [nmE, nm, arI, arJ])) (by decide) (by decide) wa_I (Nat.le_of_ble_eq_true rfl) (Nat.le_of_ble_eq_true rfl) dX6_init_73 ?_
  refine G_app (o' := [.inr (6, [.ref (h + 1), .ref (h + 2), .int 0, .ref (h + 3), .int 0, .int 0, .ref (h + 4), .ref (h + 5), .ref (h + 6), .int 0, .ref (h + 7), .long 0, .ref (h + 8), .null, .int 0, .int 0, .int 0, .null, .int 0, .null, .int 0, .int 0, .long 0]), arI 81, arI 324, arI 120, arI 12, arI 12, arI 3300, arI 8, arI 17, arI 32]) rfl (P := fun w => EZ ZT _ _ _ _ _ _ _ _ _ _ _ _ _ _ _ w) ?_
  refine EZ_putF (ref := RX6) (T := TX6) (N := 23) (ty := (.array .int)) tyX6 tyX6_ok nmX6 rfl uX6 (by decide) fl_X6_34 rfl rfl rfl rfl (by decide +kernel) (fun _ => rfl) (fun _ => rfl) (G_at 0 hp rfl) (Nat.le_of_ble_eq_true rfl) dX6_init_75 ?_
  refine G_set 0 (o' := [.inr (6, [.ref (h + 1), .ref (h + 2), .int 0, .ref (h + 3), .int 0, .int 0, .ref (h + 4), .ref (h + 5), .ref (h + 6), .int 0, .ref (h + 7), .long 0, .ref (h + 8), .ref (h + 9), .int 0, .int 0, .int 0, .null, .int 0, .null, .int 0, .int 0, .long 0]), arI 81, arI 324, arI 120, arI 12, arI 12, arI 3300, arI 8, arI 17, arI 32]) hp rfl (P := fun w => EZ ZT _ _ _ _ _ _ _ _ _ _ _ _ _ _ _ w) ?_
  refine EZ_aload_n 0 dX6_init_78 rfl rfl ?_
  refine EZ_bipush 20 (by decide) dX6_init_79 ?_
  refine EZ_newI (N := h + 10) (z := 20) (New_G 10 hp (by intro N; simp [nmE, nm]) rfl (by decide) (Nat.le_of_ble_eq_true rfl) (by simp [nmE, nm, arI, arJ]) (by simp [nmE, nm, arI, arJ]) (by simp [nmE, nm, arI, arJ])) (by decide) (by decide) wa_I (Nat.le_of_ble_eq_true rfl) (Nat.le_of_ble_eq_true rfl) dX6_init_81 ?_
  refine G_app (o' := [.inr (6, [.ref (h + 1), .ref (h + 2), .int 0, .ref (h + 3), .int 0, .int 0, .ref (h + 4), .ref (h + 5), .ref (h + 6), .int 0, .ref (h + 7), .long 0, .ref (h + 8), .ref (h + 9), .int 0, .int 0, .int 0, .null, .int 0, .null, .int 0, .int 0, .long 0]), arI 81, arI 324, arI 120, arI 12, arI 12, arI 3300, arI 8, arI 17, arI 32, arI 20]) rfl (P := fun w => EZ ZT _ _ _ _ _ _ _ _ _ _ _ _ _ _ _ w) ?_
  refine EZ_putF (ref := RX6) (T := TX6) (N := 23) (ty := (.array .int)) tyX6 tyX6_ok nmX6 rfl uX6 (by decide) fl_X6_37 rfl rfl rfl rfl (by decide +kernel) (fun _ => rfl) (fun _ => rfl) (G_at 0 hp rfl) (Nat.le_of_ble_eq_true rfl) dX6_init_83 ?_
  refine G_set 0 (o' := [.inr (6, [.ref (h + 1), .ref (h + 2), .int 0, .ref (h + 3), .int 0, .int 0, .ref (h + 4), .ref (h + 5), .ref (h + 6), .int 0, .ref (h + 7), .long 0, .ref (h + 8), .ref (h + 9), .int 0, .int 0, .int 0, .ref (h + 10), .int 0, .null, .int 0, .int 0, .long 0]), arI 81, arI 324, arI 120, arI 12, arI 12, arI 3300, arI 8, arI 17, arI 32, arI 20]) hp rfl (P := fun w => EZ ZT _ _ _ _ _ _ _ _ _ _ _ _ _ _ _ w) ?_
  refine EZ_aload_n 0 dX6_init_86 rfl rfl ?_
  refine EZ_iconst 5 (by decide) dX6_init_87 ?_
  refine EZ_newI (N := h + 11) (z := 5) (New_G 11 hp (by intro N; simp [nmE, nm]) rfl (by decide) (Nat.le_of_ble_eq_true rfl) (by simp [nmE, nm, arI, arJ]) (by simp [nmE, nm, arI, arJ]) (by simp [nmE, nm, arI, arJ])) (by decide) (by decide) wa_I (Nat.le_of_ble_eq_true rfl) (Nat.le_of_ble_eq_true rfl) dX6_init_88 ?_
  refine G_app (o' := [.inr (6, [.ref (h + 1), .ref (h + 2), .int 0, .ref (h + 3), .int 0, .int 0, .ref (h + 4), .ref (h + 5), .ref (h + 6), .int 0, .ref (h + 7), .long 0, .ref (h + 8), .ref (h + 9), .int 0, .int 0, .int 0, .ref (h + 10), .int 0, .null, .int 0, .int 0, .long 0]), arI 81, arI 324, arI 120, arI 12, arI 12, arI 3300, arI 8, arI 17, arI 32, arI 20, arI 5]) rfl (P := fun w => EZ ZT _ _ _ _ _ _ _ _ _ _ _ _ _ _ _ w) ?_
  refine EZ_putF (ref := RX6) (T := TX6) (N := 23) (ty := (.array .int)) tyX6 tyX6_ok nmX6 rfl uX6 (by decide) fl_X6_40 rfl rfl rfl rfl (by decide +kernel) (fun _ => rfl) (fun _ => rfl) (G_at 0 hp rfl) (Nat.le_of_ble_eq_true rfl) dX6_init_90 ?_
  refine G_set 0 (o' := [.inr (6, [.ref (h + 1), .ref (h + 2), .int 0, .ref (h + 3), .int 0, .int 0, .ref (h + 4), .ref (h + 5), .ref (h + 6), .int 0, .ref (h + 7), .long 0, .ref (h + 8), .ref (h + 9), .int 0, .int 0, .int 0, .ref (h + 10), .int 0, .ref (h + 11), .int 0, .int 0, .long 0]), arI 81, arI 324, arI 120, arI 12, arI 12, arI 3300, arI 8, arI 17, arI 32, arI 20, arI 5]) hp rfl (P := fun w => EZ ZT _ _ _ _ _ _ _ _ _ _ _ _ _ _ _ w) ?_
  refine EZ_aload_n 0 dX6_init_93 rfl rfl ?_
  refine EZ_get (ref := RX6) (T := TX6) (N := 23) rfl uX6 (by decide) fl_X6_7 rfl (G_at 0 hp rfl) (v := .ref (h + 1)) rfl dX6_init_94 ?_
  refine EZ_iconst 0 (by decide) dX6_init_97 ?_
  refine EZ_iconst 3 (by decide) dX6_init_98 ?_
  refine EZ_iast (G_at 1 hp rfl) (vpi (j := 0) rfl (by decide)) dX6_init_99 ?_
  refine G_set 1 (o' := [.inr (6, [.ref (h + 1), .ref (h + 2), .int 0, .ref (h + 3), .int 0, .int 0, .ref (h + 4), .ref (h + 5), .ref (h + 6), .int 0, .ref (h + 7), .long 0, .ref (h + 8), .ref (h + 9), .int 0, .int 0, .int 0, .ref (h + 10), .int 0, .ref (h + 11), .int 0, .int 0, .long 0]), .inl (0, 81, .inl (upd (fun _ => 0) (Int32.toNatClampNeg 0) 3)), arI 324, arI 120, arI 12, arI 12, arI 3300, arI 8, arI 17, arI 32, arI 20, arI 5]) hp rfl (P := fun w => EZ ZT _ _ _ _ _ _ _ _ _ _ _ _ _ _ _ w) ?_
  refine EZ_aload_n 0 dX6_init_100 rfl rfl ?_
  refine EZ_get (ref := RX6) (T := TX6) (N := 23) rfl uX6 (by decide) fl_X6_7 rfl (G_at 0 hp rfl) (v := .ref (h + 1)) rfl dX6_init_101 ?_
  refine EZ_iconst 2 (by decide) dX6_init_104 ?_
  refine EZ_bipush 100 (by decide) dX6_init_105 ?_
  refine EZ_iast (G_at 1 hp rfl) (vpi (j := 2) rfl (by decide)) dX6_init_107 ?_
  refine G_set 1 (o' := [.inr (6, [.ref (h + 1), .ref (h + 2), .int 0, .ref (h + 3), .int 0, .int 0, .ref (h + 4), .ref (h + 5), .ref (h + 6), .int 0, .ref (h + 7), .long 0, .ref (h + 8), .ref (h + 9), .int 0, .int 0, .int 0, .ref (h + 10), .int 0, .ref (h + 11), .int 0, .int 0, .long 0]), .inl (0, 81, .inl (upd (upd (fun _ => 0) (Int32.toNatClampNeg 0) 3) (Int32.toNatClampNeg 2) 100)), arI 324, arI 120, arI 12, arI 12, arI 3300, arI 8, arI 17, arI 32, arI 20, arI 5]) hp rfl (P := fun w => EZ ZT _ _ _ _ _ _ _ _ _ _ _ _ _ _ _ w) ?_
  refine EZ_aload_n 0 dX6_init_108 rfl rfl ?_
  refine EZ_get (ref := RX6) (T := TX6) (N := 23) rfl uX6 (by decide) fl_X6_7 rfl (G_at 0 hp rfl) (v := .ref (h + 1)) rfl dX6_init_109 ?_
  refine EZ_iconst 4 (by decide) dX6_init_112 ?_
  refine EZ_iconst 1 (by decide) dX6_init_113 ?_
  refine EZ_iast (G_at 1 hp rfl) (vpi (j := 4) rfl (by decide)) dX6_init_114 ?_
  refine G_set 1 (o' := [.inr (6, [.ref (h + 1), .ref (h + 2), .int 0, .ref (h + 3), .int 0, .int 0, .ref (h + 4), .ref (h + 5), .ref (h + 6), .int 0, .ref (h + 7), .long 0, .ref (h + 8), .ref (h + 9), .int 0, .int 0, .int 0, .ref (h + 10), .int 0, .ref (h + 11), .int 0, .int 0, .long 0]), .inl (0, 81, .inl (upd (upd (upd (fun _ => 0) (Int32.toNatClampNeg 0) 3) (Int32.toNatClampNeg 2) 100) (Int32.toNatClampNeg 4) 1)), arI 324, arI 120, arI 12, arI 12, arI 3300, arI 8, arI 17, arI 32, arI 20, arI 5]) hp rfl (P := fun w => EZ ZT _ _ _ _ _ _ _ _ _ _ _ _ _ _ _ w) ?_
  exact EZ_nret rfl (Nat.le_of_ble_eq_true rfl) (Nat.le_of_ble_eq_true rfl) dX6_init_115 rfl
end GROW3
