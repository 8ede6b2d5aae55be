section GROW3
variable {Z : State → (Nat → Nat) → Prop} {l : Launch} {own : String} {cc : ByteArray} {nL : Nat} {ret : Option FieldType} {ini : Bool} {hh : List ExceptionTableEntry} {R : Room} {w0 : AW} {Tg : TgT} {k n pc : Nat} {lv : List (Nat × Value)} {st : List Value} {w : AW} {pre o : AW} {h : Nat} {mi : MI} {ml : MJ}
theorem app_at {pre o : AW} {h j : Nat} (hp : pre.length = h) : (pre ++ o)[h + j]? = o[j]? := by
  rw [List.getElem?_append_right (by omega)]
  congr 1
  omega
theorem app_set {pre o : AW} {h j : Nat} {e : va_E} (hp : pre.length = h) : (pre ++ o).set (h + j) e = pre ++ o.set j e := by
  simp [List.set_append, hp]
def dkN (h : Nat) : List va_E := [.inr (1, [.int 3, .int 0, .int 100, .int 0, .int 1, .int 0, .ref (h + 1), .ref (h + 2), .int 0, .ref (h + 3), .int 0, .ref (h + 4), .ref (h + 5), .ref (h + 6), .ref (h + 7)]), arI 10, arI 10, arI 5, arI 16, arI 16, arI 16, arI 16]
def Pre (pre : AW) (h : Nat) : Prop := pre.length = h ∧ ∀ e ∈ pre, ∀ N, h ≤ N → nmE N e
theorem Pre.app {pre o : AW} {h N : Nat} (hp : Pre pre h) (ho : ∀ e ∈ o, nmE (h + N) e) : ∀ e ∈ pre ++ o, nmE (h + N) e := by
  intro e he
  rcases List.mem_append.mp he with q | q
  · exact hp.2 e q (h + N) (by omega)
  · exact ho e q
theorem Pre.cls {pre : AW} {h : Nat} {c : va_E} (hp : Pre pre h) (hc : ∀ N, nmE N c) : Cls (pre ++ [c]) := by
  intro e he N hN
  rcases List.mem_append.mp he with q | q
  · exact hp.2 e q N (by rw [List.length_append, hp.1] at hN; omega)
  · rw [List.mem_singleton.mp q]; exact hc N
theorem New_G {c : va_E} {o1 : AW} {mc ms : Nat} (N : Nat) (hp : Pre pre h) (hc : ∀ N, nmE N c) (hN : o.length = N) (h1 : 1 ≤ N) (h2 : N < o1.length) (ho : ∀ e ∈ o, nmE (h + N) e) (hs : ∀ v ∈ st, nm (h + N) v) (hv : ∀ x ∈ lv, nm (h + N) x.2) : New ZT (TgN (pre ++ [c]) (pre ++ o1) mc ms) (pre ++ [c]) (h + N) lv st (pre ++ o) :=
  New_N (hp.cls hc) (by rw [List.length_append, hp.1]; exact Nat.add_le_add_left h1 h) (by rw [List.length_append, hp.1]; exact Nat.add_lt_add_left h2 h) (by rw [List.length_append, hp.1, hN]) (hp.app ho) hs hv
theorem G_at {e : va_E} (j : Nat) (hp : Pre pre h) (ho : o[j]? = some e) : (pre ++ o)[h + j]? = some e := by rw [app_at hp.1]; exact ho
theorem G_set {o' : AW} {e : va_E} (j : Nat) (hp : Pre pre h) (ho : o.set j e = o') {P : AW → Prop} (hk : P (pre ++ o')) : P ((pre ++ o).set (h + j) e) := by rw [app_set hp.1, ho]; exact hk
theorem G_app {o' : AW} {e : va_E} (ho : o ++ [e] = o') {P : AW → Prop} (hk : P (pre ++ o')) : P ((pre ++ o) ++ [e]) := by rw [List.append_assoc, ho]; exact hk
theorem wa_I : Wd (.arrayClass .int) := ⟨List.mem_of_getElem? (i := 115) (by decide +kernel), rfl⟩
theorem wa_J : Wd (.arrayClass .long) := ⟨List.mem_of_getElem? (i := 188) (by decide +kernel), rfl⟩
theorem wn_X0 : Wd (.instantiable RX0 10) := ⟨List.mem_of_getElem? (i := 151) (by decide +kernel), rfl⟩
theorem wn_X1 : Wd (.instantiable RX1 15) := ⟨List.mem_of_getElem? (i := 47) (by decide +kernel), rfl⟩
theorem wn_X2 : Wd (.instantiable RX2 3) := ⟨List.mem_of_getElem? (i := 117) (by decide +kernel), rfl⟩
theorem wn_X3 : Wd (.instantiable RX3 2) := ⟨List.mem_of_getElem? (i := 137) (by decide +kernel), rfl⟩
theorem wn_X4 : Wd (.instantiable RX4 5) := ⟨List.mem_of_getElem? (i := 190) (by decide +kernel), rfl⟩
theorem wn_X5 : Wd (.instantiable RX5 7) := ⟨List.mem_of_getElem? (i := 39) (by decide +kernel), rfl⟩
set_option maxRecDepth 100000 in
theorem n_X1 (l : Launch) (hfl : l.stackTraces = false) {pre : AW} {h : Nat} (hp : Pre pre h) : CtN l yX1_init (.code yX1_init cX1_init 1 none) 0 7 89 [.ref h] (pre ++ [.inr (1, [.int 0, .int 0, .int 0, .int 0, .int 0, .int 0, .null, .null, .int 0, .null, .int 0, .null, .null, .null, .null])]) (pre ++ dkN h) := by
  refine CtN_of pn_X1 hfl rfl (Nat.le_of_ble_eq_true rfl) (fun hh => ?_)
  show EZ ZT l RX1 cX1_init 1 none true hh (rmE 0 7 89) (pre ++ [.inr (1, [.int 0, .int 0, .int 0, .int 0, .int 0, .int 0, .null, .null, .int 0, .null, .int 0, .null, .null, .null, .null])]) (TgN (pre ++ [.inr (1, [.int 0, .int 0, .int 0, .int 0, .int 0, .int 0, .null, .null, .int 0, .null, .int 0, .null, .null, .null, .null])]) (pre ++ dkN h) 7 89) 0 0 0 [(0, .ref h)] [] (pre ++ [.inr (1, [.int 0, .int 0, .int 0, .int 0, .int 0, .int 0, .null, .null, .int 0, .null, .int 0, .null, .null, .null, .null])])
  refine EZ_aload_n 0 dX1_init_0 rfl rfl ?_
  refine EZ_obj wl_X1_3 dX1_init_1 ⟨Nat.le_of_ble_eq_true rfl, Nat.le_of_ble_eq_true rfl⟩ (Nat.le_of_ble_eq_true rfl) ?_
  refine EZ_aload_n 0 dX1_init_4 rfl rfl ?_
  refine EZ_iconst 3 (by decide) dX1_init_5 ?_
  refine EZ_put (ref := RX1) (T := TX1) (N := 15) (ty := .int) tyX1 tyX1_ok nmX1 rfl uX1 (by decide) fl_X1_9 rfl rfl (by decide +kernel) (fun _ => rfl) (fun _ => rfl) (G_at 0 hp rfl) (Nat.le_of_ble_eq_true rfl) dX1_init_6 ?_
  refine G_set 0 (o' := [.inr (1, [.int 3, .int 0, .int 0, .int 0, .int 0, .int 0, .null, .null, .int 0, .null, .int 0, .null, .null, .null, .null])]) hp rfl (P := fun w => EZ ZT _ _ _ _ _ _ _ _ _ _ _ _ _ _ _ w) ?_
  refine EZ_aload_n 0 dX1_init_9 rfl rfl ?_
  refine EZ_iconst 0 (by decide) dX1_init_10 ?_
  refine EZ_put (ref := RX1) (T := TX1) (N := 15) (ty := .int) tyX1 tyX1_ok nmX1 rfl uX1 (by decide) fl_X1_15 rfl rfl (by decide +kernel) (fun _ => rfl) (fun _ => rfl) (G_at 0 hp rfl) (Nat.le_of_ble_eq_true rfl) dX1_init_11 ?_
  refine G_set 0 (o' := [.inr (1, [.int 3, .int 0, .int 0, .int 0, .int 0, .int 0, .null, .null, .int 0, .null, .int 0, .null, .null, .null, .null])]) hp rfl (P := fun w => EZ ZT _ _ _ _ _ _ _ _ _ _ _ _ _ _ _ w) ?_
  refine EZ_aload_n 0 dX1_init_14 rfl rfl ?_
  refine EZ_bipush 100 (by decide) dX1_init_15 ?_
  refine EZ_put (ref := RX1) (T := TX1) (N := 15) (ty := .int) tyX1 tyX1_ok nmX1 rfl uX1 (by decide) fl_X1_18 rfl rfl (by decide +kernel) (fun _ => rfl) (fun _ => rfl) (G_at 0 hp rfl) (Nat.le_of_ble_eq_true rfl) dX1_init_17 ?_
  refine G_set 0 (o' := [.inr (1, [.int 3, .int 0, .int 100, .int 0, .int 0, .int 0, .null, .null, .int 0, .null, .int 0, .null, .null, .null, .null])]) hp rfl (P := fun w => EZ ZT _ _ _ _ _ _ _ _ _ _ _ _ _ _ _ w) ?_
  refine EZ_aload_n 0 dX1_init_20 rfl rfl ?_
  refine EZ_iconst 0 (by decide) dX1_init_21 ?_
  refine EZ_put (ref := RX1) (T := TX1) (N := 15) (ty := .int) tyX1 tyX1_ok nmX1 rfl uX1 (by decide) fl_X1_21 rfl rfl (by decide +kernel) (fun _ => rfl) (fun _ => rfl) (G_at 0 hp rfl) (Nat.le_of_ble_eq_true rfl) dX1_init_22 ?_
  refine G_set 0 (o' := [.inr (1, [.int 3, .int 0, .int 100, .int 0, .int 0, .int 0, .null, .null, .int 0, .null, .int 0, .null, .null, .null, .null])]) hp rfl (P := fun w => EZ ZT _ _ _ _ _ _ _ _ _ _ _ _ _ _ _ w) ?_
  refine EZ_aload_n 0 dX1_init_25 rfl rfl ?_
  refine EZ_iconst 1 (by decide) dX1_init_26 ?_
  refine EZ_put (ref := RX1) (T := TX1) (N := 15) (ty := .int) tyX1 tyX1_ok nmX1 rfl uX1 (by decide) fl_X1_24 rfl rfl (by decide +kernel) (fun _ => rfl) (fun _ => rfl) (G_at 0 hp rfl) (Nat.le_of_ble_eq_true rfl) dX1_init_27 ?_
  refine G_set 0 (o' := [.inr (1, [.int 3, .int 0, .int 100, .int 0, .int 1, .int 0, .null, .null, .int 0, .null, .int 0, .null, .null, .null, .null])]) hp rfl (P := fun w => EZ ZT _ _ _ _ _ _ _ _ _ _ _ _ _ _ _ w) ?_
  refine EZ_aload_n 0 dX1_init_30 rfl rfl ?_
  refine EZ_bipush 10 (by decide) dX1_init_31 ?_
  refine EZ_newI (N := h + 1) (z := 10) (New_G 1 hp (by intro N; simp [nmE, nm]) rfl (by decide) (Nat.le_of_ble_eq_true rfl) (by simp [nmE, nm, arI, arJ]) (by simp [nmE, nm, arI, arJ]) (by simp [nmE, nm, arI, arJ])) (by decide) (by decide) wa_I (Nat.le_of_ble_eq_true rfl) (Nat.le_of_ble_eq_true rfl) dX1_init_33 ?_
  refine G_app (o' := [.inr (1, [.int 3, .int 0, .int 100, .int 0, .int 1, .int 0, .null, .null, .int 0, .null, .int 0, .null, .null, .null, .null]), arI 10]) rfl (P := fun w => EZ ZT _ _ _ _ _ _ _ _ _ _ _ _ _ _ _ w) ?_
  refine EZ_putF (ref := RX1) (T := TX1) (N := 15) (ty := (.array .int)) tyX1 tyX1_ok nmX1 rfl uX1 (by decide) fl_X1_27 rfl rfl rfl rfl (by decide +kernel) (fun _ => rfl) (fun _ => rfl) (G_at 0 hp rfl) (Nat.le_of_ble_eq_true rfl) dX1_init_35 ?_
  refine G_set 0 (o' := [.inr (1, [.int 3, .int 0, .int 100, .int 0, .int 1, .int 0, .ref (h + 1), .null, .int 0, .null, .int 0, .null, .null, .null, .null]), arI 10]) hp rfl (P := fun w => EZ ZT _ _ _ _ _ _ _ _ _ _ _ _ _ _ _ w) ?_
  refine EZ_aload_n 0 dX1_init_38 rfl rfl ?_
  refine EZ_bipush 10 (by decide) dX1_init_39 ?_
  refine EZ_newI (N := h + 2) (z := 10) (New_G 2 hp (by intro N; simp [nmE, nm]) rfl (by decide) (Nat.le_of_ble_eq_true rfl) (by simp [nmE, nm, arI, arJ]) (by simp [nmE, nm, arI, arJ]) (by simp [nmE, nm, arI, arJ])) (by decide) (by decide) wa_I (Nat.le_of_ble_eq_true rfl) (Nat.le_of_ble_eq_true rfl) dX1_init_41 ?_
  refine G_app (o' := [.inr (1, [.int 3, .int 0, .int 100, .int 0, .int 1, .int 0, .ref (h + 1), .null, .int 0, .null, .int 0, .null, .null, .null, .null]), arI 10, arI 10]) rfl (P := fun w => EZ ZT _ _ _ _ _ _ _ _ _ _ _ _ _ _ _ w) ?_
  refine EZ_putF (ref := RX1) (T := TX1) (N := 15) (ty := (.array .int)) tyX1 tyX1_ok nmX1 rfl uX1 (by decide) fl_X1_31 rfl rfl rfl rfl (by decide +kernel) (fun _ => rfl) (fun _ => rfl) (G_at 0 hp rfl) (Nat.le_of_ble_eq_true rfl) dX1_init_43 ?_
  refine G_set 0 (o' := [.inr (1, [.int 3, .int 0, .int 100, .int 0, .int 1, .int 0, .ref (h + 1), .ref (h + 2), .int 0, .null, .int 0, .null, .null, .null, .null]), arI 10, arI 10]) hp rfl (P := fun w => EZ ZT _ _ _ _ _ _ _ _ _ _ _ _ _ _ _ w) ?_
  refine EZ_aload_n 0 dX1_init_46 rfl rfl ?_
  refine EZ_iconst 5 (by decide) dX1_init_47 ?_
  refine EZ_newI (N := h + 3) (z := 5) (New_G 3 hp (by intro N; simp [nmE, nm]) rfl (by decide) (Nat.le_of_ble_eq_true rfl) (by simp [nmE, nm, arI, arJ]) (by simp [nmE, nm, arI, arJ]) (by simp [nmE, nm, arI, arJ])) (by decide) (by decide) wa_I (Nat.le_of_ble_eq_true rfl) (Nat.le_of_ble_eq_true rfl) dX1_init_48 ?_
  refine G_app (o' := [.inr (1, [.int 3, .int 0, .int 100, .int 0, .int 1, .int 0, .ref (h + 1), .ref (h + 2), .int 0, .null, .int 0, .null, .null, .null, .null]), arI 10, arI 10, arI 5]) rfl (P := fun w => EZ ZT _ _ _ _ _ _ _ _ _ _ _ _ _ _ _ w) ?_
  refine EZ_putF (ref := RX1) (T := TX1) (N := 15) (ty := (.array .int)) tyX1 tyX1_ok nmX1 rfl uX1 (by decide) fl_X1_34 rfl rfl rfl rfl (by decide +kernel) (fun _ => rfl) (fun _ => rfl) (G_at 0 hp rfl) (Nat.le_of_ble_eq_true rfl) dX1_init_50 ?_
  refine G_set 0 (o' := [.inr (1, [.int 3, .int 0, .int 100, .int 0, .int 1, .int 0, .ref (h + 1), .ref (h + 2), .int 0, .ref (h + 3), .int 0, .null, .null, .null, .null]), arI 10, arI 10, arI 5]) hp rfl (P := fun w => EZ ZT _ _ _ _ _ _ _ _ _ _ _ _ _ _ _ w) ?_
  refine EZ_aload_n 0 dX1_init_53 rfl rfl ?_
  refine EZ_bipush 16 (by decide) dX1_init_54 ?_
  refine EZ_newI (N := h + 4) (z := 16) (New_G 4 hp (by intro N; simp [nmE, nm]) rfl (by decide) (Nat.le_of_ble_eq_true rfl) (by simp [nmE, nm, arI, arJ]) (by simp [nmE, nm, arI, arJ]) (by simp [nmE, nm, arI, arJ])) (by decide) (by decide) wa_I (Nat.le_of_ble_eq_true rfl) (Nat.le_of_ble_eq_true rfl) dX1_init_56 ?_
  refine G_app (o' := [.inr (1, [.int 3, .int 0, .int 100, .int 0, .int 1, .int 0, .ref (h + 1), .ref (h + 2), .int 0, .ref (h + 3), .int 0, .null, .null, .null, .null]), arI 10, arI 10, arI 5, arI 16]) rfl (P := fun w => EZ ZT _ _ _ _ _ _ _ _ _ _ _ _ _ _ _ w) ?_
  refine EZ_putF (ref := RX1) (T := TX1) (N := 15) (ty := (.array .int)) tyX1 tyX1_ok nmX1 rfl uX1 (by decide) fl_X1_37 rfl rfl rfl rfl (by decide +kernel) (fun _ => rfl) (fun _ => rfl) (G_at 0 hp rfl) (Nat.le_of_ble_eq_true rfl) dX1_init_58 ?_
  refine G_set 0 (o' := [.inr (1, [.int 3, .int 0, .int 100, .int 0, .int 1, .int 0, .ref (h + 1), .ref (h + 2), .int 0, .ref (h + 3), .int 0, .ref (h + 4), .null, .null, .null]), arI 10, arI 10, arI 5, arI 16]) hp rfl (P := fun w => EZ ZT _ _ _ _ _ _ _ _ _ _ _ _ _ _ _ w) ?_
  refine EZ_aload_n 0 dX1_init_61 rfl rfl ?_
  refine EZ_bipush 16 (by decide) dX1_init_62 ?_
  refine EZ_newI (N := h + 5) (z := 16) (New_G 5 hp (by intro N; simp [nmE, nm]) rfl (by decide) (Nat.le_of_ble_eq_true rfl) (by simp [nmE, nm, arI, arJ]) (by simp [nmE, nm, arI, arJ]) (by simp [nmE, nm, arI, arJ])) (by decide) (by decide) wa_I (Nat.le_of_ble_eq_true rfl) (Nat.le_of_ble_eq_true rfl) dX1_init_64 ?_
  refine G_app (o' := [.inr (1, [.int 3, .int 0, .int 100, .int 0, .int 1, .int 0, .ref (h + 1), .ref (h + 2), .int 0, .ref (h + 3), .int 0, .ref (h + 4), .null, .null, .null]), arI 10, arI 10, arI 5, arI 16, arI 16]) rfl (P := fun w => EZ ZT _ _ _ _ _ _ _ _ _ _ _ _ _ _ _ w) ?_
  refine EZ_putF (ref := RX1) (T := TX1) (N := 15) (ty := (.array .int)) tyX1 tyX1_ok nmX1 rfl uX1 (by decide) fl_X1_40 rfl rfl rfl rfl (by decide +kernel) (fun _ => rfl) (fun _ => rfl) (G_at 0 hp rfl) (Nat.le_of_ble_eq_true rfl) dX1_init_66 ?_
  refine G_set 0 (o' := [.inr (1, [.int 3, .int 0, .int 100, .int 0, .int 1, .int 0, .ref (h + 1), .ref (h + 2), .int 0, .ref (h + 3), .int 0, .ref (h + 4), .ref (h + 5), .null, .null]), arI 10, arI 10, arI 5, arI 16, arI 16]) hp rfl (P := fun w => EZ ZT _ _ _ _ _ _ _ _ _ _ _ _ _ _ _ w) ?_
  refine EZ_aload_n 0 dX1_init_69 rfl rfl ?_
  refine EZ_bipush 16 (by decide) dX1_init_70 ?_
  refine EZ_newI (N := h + 6) (z := 16) (New_G 6 hp (by intro N; simp [nmE, nm]) rfl (by decide) (Nat.le_of_ble_eq_true rfl) (by simp [nmE, nm, arI, arJ]) (by simp [nmE, nm, arI, arJ]) (by simp [nmE, nm, arI, arJ])) (by decide) (by decide) wa_I (Nat.le_of_ble_eq_true rfl) (Nat.le_of_ble_eq_true rfl) dX1_init_72 ?_
  refine G_app (o' := [.inr (1, [.int 3, .int 0, .int 100, .int 0, .int 1, .int 0, .ref (h + 1), .ref (h + 2), .int 0, .ref (h + 3), .int 0, .ref (h + 4), .ref (h + 5), .null, .null]), arI 10, arI 10, arI 5, arI 16, arI 16, arI 16]) rfl (P := fun w => EZ ZT _ _ _ _ _ _ _ _ _ _ _ _ _ _ _ w) ?_
  refine EZ_putF (ref := RX1) (T := TX1) (N := 15) (ty := (.array .int)) tyX1 tyX1_ok nmX1 rfl uX1 (by decide) fl_X1_43 rfl rfl rfl rfl (by decide +kernel) (fun _ => rfl) (fun _ => rfl) (G_at 0 hp rfl) (Nat.le_of_ble_eq_true rfl) dX1_init_74 ?_
  refine G_set 0 (o' := [.inr (1, [.int 3, .int 0, .int 100, .int 0, .int 1, .int 0, .ref (h + 1), .ref (h + 2), .int 0, .ref (h + 3), .int 0, .ref (h + 4), .ref (h + 5), .ref (h + 6), .null]), arI 10, arI 10, arI 5, arI 16, arI 16, arI 16]) hp rfl (P := fun w => EZ ZT _ _ _ _ _ _ _ _ _ _ _ _ _ _ _ w) ?_
  refine EZ_aload_n 0 dX1_init_77 rfl rfl ?_
  refine EZ_bipush 16 (by decide) dX1_init_78 ?_
  refine EZ_newI (N := h + 7) (z := 16) (New_G 7 hp (by intro N; simp [nmE, nm]) rfl (by decide) (Nat.le_of_ble_eq_true rfl) (by simp [nmE, nm, arI, arJ]) (by simp [nmE, nm, arI, arJ]) (by simp [nmE, nm, arI, arJ])) (by decide) (by decide) wa_I (Nat.le_of_ble_eq_true rfl) (Nat.le_of_ble_eq_true rfl) dX1_init_80 ?_
  refine G_app (o' := [.inr (1, [.int 3, .int 0, .int 100, .int 0, .int 1, .int 0, .ref (h + 1), .ref (h + 2), .int 0, .ref (h + 3), .int 0, .ref (h + 4), .ref (h + 5), .ref (h + 6), .null]), arI 10, arI 10, arI 5, arI 16, arI 16, arI 16, arI 16]) rfl (P := fun w => EZ ZT _ _ _ _ _ _ _ _ _ _ _ _ _ _ _ w) ?_
  refine EZ_putF (ref := RX1) (T := TX1) (N := 15) (ty := (.array .int)) tyX1 tyX1_ok nmX1 rfl uX1 (by decide) fl_X1_46 rfl rfl rfl rfl (by decide +kernel) (fun _ => rfl) (fun _ => rfl) (G_at 0 hp rfl) (Nat.le_of_ble_eq_true rfl) dX1_init_82 ?_
  refine G_set 0 (o' := [.inr (1, [.int 3, .int 0, .int 100, .int 0, .int 1, .int 0, .ref (h + 1), .ref (h + 2), .int 0, .ref (h + 3), .int 0, .ref (h + 4), .ref (h + 5), .ref (h + 6), .ref (h + 7)]), arI 10, arI 10, arI 5, arI 16, arI 16, arI 16, arI 16]) hp rfl (P := fun w => EZ ZT _ _ _ _ _ _ _ _ _ _ _ _ _ _ _ w) ?_
  exact EZ_nret rfl (Nat.le_of_ble_eq_true rfl) (Nat.le_of_ble_eq_true rfl) dX1_init_85 rfl
set_option maxRecDepth 100000 in
theorem n_X0 (l : Launch) (hfl : l.stackTraces = false) {pre : AW} {h : Nat} (hp : Pre pre h) : CtN l yX0_init (.code yX0_init cX0_init 1 none) 0 4 46 [.ref h] (pre ++ [.inr (0, [.null, .null, .null, .null, .int 0, .int 0, .int 0, .int 0, .int 0, .int 0])]) (pre ++ [.inr (0, [.ref (h + 1), .ref (h + 2), .ref (h + 3), .ref (h + 4), .int 0, .int 0, .int 0, .int 0, .int 0, .int 0]), arI 11, arI 11, arJ 12, arJ 12]) := by
  refine CtN_of pn_X0 hfl rfl (Nat.le_of_ble_eq_true rfl) (fun hh => ?_)
  show EZ ZT l RX0 cX0_init 1 none true hh (rmE 0 4 46) (pre ++ [.inr (0, [.null, .null, .null, .null, .int 0, .int 0, .int 0, .int 0, .int 0, .int 0])]) (TgN (pre ++ [.inr (0, [.null, .null, .null, .null, .int 0, .int 0, .int 0, .int 0, .int 0, .int 0])]) (pre ++ [.inr (0, [.ref (h + 1), .ref (h + 2), .ref (h + 3), .ref (h + 4), .int 0, .int 0, .int 0, .int 0, .int 0, .int 0]), arI 11, arI 11, arJ 12, arJ 12]) 4 46) 0 0 0 [(0, .ref h)] [] (pre ++ [.inr (0, [.null, .null, .null, .null, .int 0, .int 0, .int 0, .int 0, .int 0, .int 0])])
  refine EZ_aload_n 0 dX0_init_0 rfl rfl ?_
  refine EZ_obj wl_X0_3 dX0_init_1 ⟨Nat.le_of_ble_eq_true rfl, Nat.le_of_ble_eq_true rfl⟩ (Nat.le_of_ble_eq_true rfl) ?_
  refine EZ_aload_n 0 dX0_init_4 rfl rfl ?_
  refine EZ_bipush 11 (by decide) dX0_init_5 ?_
  refine EZ_newI (N := h + 1) (z := 11) (New_G 1 hp (by intro N; simp [nmE, nm]) rfl (by decide) (Nat.le_of_ble_eq_true rfl) (by simp [nmE, nm, arI, arJ]) (by simp [nmE, nm, arI, arJ]) (by simp [nmE, nm, arI, arJ])) (by decide) (by decide) wa_I (Nat.le_of_ble_eq_true rfl) (Nat.le_of_ble_eq_true rfl) dX0_init_7 ?_
  refine G_app (o' := [.inr (0, [.null, .null, .null, .null, .int 0, .int 0, .int 0, .int 0, .int 0, .int 0]), arI 11]) rfl (P := fun w => EZ ZT _ _ _ _ _ _ _ _ _ _ _ _ _ _ _ w) ?_
  refine EZ_putF (ref := RX0) (T := TX0) (N := 10) (ty := (.array .int)) tyX0 tyX0_ok nmX0 rfl uX0 (by decide) fl_X0_11 rfl rfl rfl rfl (by decide +kernel) (fun _ => rfl) (fun _ => rfl) (G_at 0 hp rfl) (Nat.le_of_ble_eq_true rfl) dX0_init_9 ?_
  refine G_set 0 (o' := [.inr (0, [.ref (h + 1), .null, .null, .null, .int 0, .int 0, .int 0, .int 0, .int 0, .int 0]), arI 11]) hp rfl (P := fun w => EZ ZT _ _ _ _ _ _ _ _ _ _ _ _ _ _ _ w) ?_
  refine EZ_aload_n 0 dX0_init_12 rfl rfl ?_
  refine EZ_bipush 11 (by decide) dX0_init_13 ?_
  refine EZ_newI (N := h + 2) (z := 11) (New_G 2 hp (by intro N; simp [nmE, nm]) rfl (by decide) (Nat.le_of_ble_eq_true rfl) (by simp [nmE, nm, arI, arJ]) (by simp [nmE, nm, arI, arJ]) (by simp [nmE, nm, arI, arJ])) (by decide) (by decide) wa_I (Nat.le_of_ble_eq_true rfl) (Nat.le_of_ble_eq_true rfl) dX0_init_15 ?_
  refine G_app (o' := [.inr (0, [.ref (h + 1), .null, .null, .null, .int 0, .int 0, .int 0, .int 0, .int 0, .int 0]), arI 11, arI 11]) rfl (P := fun w => EZ ZT _ _ _ _ _ _ _ _ _ _ _ _ _ _ _ w) ?_
  refine EZ_putF (ref := RX0) (T := TX0) (N := 10) (ty := (.array .int)) tyX0 tyX0_ok nmX0 rfl uX0 (by decide) fl_X0_15 rfl rfl rfl rfl (by decide +kernel) (fun _ => rfl) (fun _ => rfl) (G_at 0 hp rfl) (Nat.le_of_ble_eq_true rfl) dX0_init_17 ?_
  refine G_set 0 (o' := [.inr (0, [.ref (h + 1), .ref (h + 2), .null, .null, .int 0, .int 0, .int 0, .int 0, .int 0, .int 0]), arI 11, arI 11]) hp rfl (P := fun w => EZ ZT _ _ _ _ _ _ _ _ _ _ _ _ _ _ _ w) ?_
  refine EZ_aload_n 0 dX0_init_20 rfl rfl ?_
  refine EZ_bipush 12 (by decide) dX0_init_21 ?_
  refine EZ_newJ (N := h + 3) (z := 12) (New_G 3 hp (by intro N; simp [nmE, nm]) rfl (by decide) (Nat.le_of_ble_eq_true rfl) (by simp [nmE, nm, arI, arJ]) (by simp [nmE, nm, arI, arJ]) (by simp [nmE, nm, arI, arJ])) (by decide) (by decide) wa_J (Nat.le_of_ble_eq_true rfl) (Nat.le_of_ble_eq_true rfl) dX0_init_23 ?_
  refine G_app (o' := [.inr (0, [.ref (h + 1), .ref (h + 2), .null, .null, .int 0, .int 0, .int 0, .int 0, .int 0, .int 0]), arI 11, arI 11, arJ 12]) rfl (P := fun w => EZ ZT _ _ _ _ _ _ _ _ _ _ _ _ _ _ _ w) ?_
  refine EZ_putF (ref := RX0) (T := TX0) (N := 10) (ty := (.array .long)) tyX0 tyX0_ok nmX0 rfl uX0 (by decide) fl_X0_18 rfl rfl rfl rfl (by decide +kernel) (fun _ => rfl) (fun _ => rfl) (G_at 0 hp rfl) (Nat.le_of_ble_eq_true rfl) dX0_init_25 ?_
  refine G_set 0 (o' := [.inr (0, [.ref (h + 1), .ref (h + 2), .ref (h + 3), .null, .int 0, .int 0, .int 0, .int 0, .int 0, .int 0]), arI 11, arI 11, arJ 12]) hp rfl (P := fun w => EZ ZT _ _ _ _ _ _ _ _ _ _ _ _ _ _ _ w) ?_
  refine EZ_aload_n 0 dX0_init_28 rfl rfl ?_
  refine EZ_bipush 12 (by decide) dX0_init_29 ?_
  refine EZ_newJ (N := h + 4) (z := 12) (New_G 4 hp (by intro N; simp [nmE, nm]) rfl (by decide) (Nat.le_of_ble_eq_true rfl) (by simp [nmE, nm, arI, arJ]) (by simp [nmE, nm, arI, arJ]) (by simp [nmE, nm, arI, arJ])) (by decide) (by decide) wa_J (Nat.le_of_ble_eq_true rfl) (Nat.le_of_ble_eq_true rfl) dX0_init_31 ?_
  refine G_app (o' := [.inr (0, [.ref (h + 1), .ref (h + 2), .ref (h + 3), .null, .int 0, .int 0, .int 0, .int 0, .int 0, .int 0]), arI 11, arI 11, arJ 12, arJ 12]) rfl (P := fun w => EZ ZT _ _ _ _ _ _ _ _ _ _ _ _ _ _ _ w) ?_
  refine EZ_putF (ref := RX0) (T := TX0) (N := 10) (ty := (.array .long)) tyX0 tyX0_ok nmX0 rfl uX0 (by decide) fl_X0_22 rfl rfl rfl rfl (by decide +kernel) (fun _ => rfl) (fun _ => rfl) (G_at 0 hp rfl) (Nat.le_of_ble_eq_true rfl) dX0_init_33 ?_
  refine G_set 0 (o' := [.inr (0, [.ref (h + 1), .ref (h + 2), .ref (h + 3), .ref (h + 4), .int 0, .int 0, .int 0, .int 0, .int 0, .int 0]), arI 11, arI 11, arJ 12, arJ 12]) hp rfl (P := fun w => EZ ZT _ _ _ _ _ _ _ _ _ _ _ _ _ _ _ w) ?_
  exact EZ_nret rfl (Nat.le_of_ble_eq_true rfl) (Nat.le_of_ble_eq_true rfl) dX0_init_36 rfl
set_option maxRecDepth 100000 in
theorem n_X3 (l : Launch) (hfl : l.stackTraces = false) {pre : AW} {h : Nat} (hp : Pre pre h) : CtN l yX3_init (.code yX3_init cX3_init 1 none) 0 1 3240 [.ref h] (pre ++ [.inr (3, [.null, .int 0])]) (pre ++ [.inr (3, [.ref (h + 1), .int 0]), arI 3240]) := by
  refine CtN_of pn_X3 hfl rfl (Nat.le_of_ble_eq_true rfl) (fun hh => ?_)
  show EZ ZT l RX3 cX3_init 1 none true hh (rmE 0 1 3240) (pre ++ [.inr (3, [.null, .int 0])]) (TgN (pre ++ [.inr (3, [.null, .int 0])]) (pre ++ [.inr (3, [.ref (h + 1), .int 0]), arI 3240]) 1 3240) 0 0 0 [(0, .ref h)] [] (pre ++ [.inr (3, [.null, .int 0])])
  refine EZ_aload_n 0 dX3_init_0 rfl rfl ?_
  refine EZ_obj wl_X3_3 dX3_init_1 ⟨Nat.le_of_ble_eq_true rfl, Nat.le_of_ble_eq_true rfl⟩ (Nat.le_of_ble_eq_true rfl) ?_
  refine EZ_aload_n 0 dX3_init_4 rfl rfl ?_
  refine EZ_sipush 3240 (by decide) dX3_init_5 ?_
  refine EZ_newI (N := h + 1) (z := 3240) (New_G 1 hp (by intro N; simp [nmE, nm]) rfl (by decide) (Nat.le_of_ble_eq_true rfl) (by simp [nmE, nm, arI, arJ]) (by simp [nmE, nm, arI, arJ]) (by simp [nmE, nm, arI, arJ])) (by decide) (by decide) wa_I (Nat.le_of_ble_eq_true rfl) (Nat.le_of_ble_eq_true rfl) dX3_init_8 ?_
  refine G_app (o' := [.inr (3, [.null, .int 0]), arI 3240]) rfl (P := fun w => EZ ZT _ _ _ _ _ _ _ _ _ _ _ _ _ _ _ w) ?_
  refine EZ_putF (ref := RX3) (T := TX3) (N := 2) (ty := (.array .int)) tyX3 tyX3_ok nmX3 rfl uX3 (by decide) fl_X3_11 rfl rfl rfl rfl (by decide +kernel) (fun _ => rfl) (fun _ => rfl) (G_at 0 hp rfl) (Nat.le_of_ble_eq_true rfl) dX3_init_10 ?_
  refine G_set 0 (o' := [.inr (3, [.ref (h + 1), .int 0]), arI 3240]) hp rfl (P := fun w => EZ ZT _ _ _ _ _ _ _ _ _ _ _ _ _ _ _ w) ?_
  exact EZ_nret rfl (Nat.le_of_ble_eq_true rfl) (Nat.le_of_ble_eq_true rfl) dX3_init_13 rfl
set_option maxRecDepth 100000 in
theorem n_X4 (l : Launch) (hfl : l.stackTraces = false) {pre : AW} {h : Nat} (hp : Pre pre h) : CtN l yX4_init (.code yX4_init cX4_init 1 none) 0 1 120 [.ref h] (pre ++ [.inr (4, [.null, .int 0, .int 0, .int 0, .int 0])]) (pre ++ [.inr (4, [.ref (h + 1), .int 0, .int 0, .int 0, .int 0]), arI 120]) := by
  refine CtN_of pn_X4 hfl rfl (Nat.le_of_ble_eq_true rfl) (fun hh => ?_)
  show EZ ZT l RX4 cX4_init 1 none true hh (rmE 0 1 120) (pre ++ [.inr (4, [.null, .int 0, .int 0, .int 0, .int 0])]) (TgN (pre ++ [.inr (4, [.null, .int 0, .int 0, .int 0, .int 0])]) (pre ++ [.inr (4, [.ref (h + 1), .int 0, .int 0, .int 0, .int 0]), arI 120]) 1 120) 0 0 0 [(0, .ref h)] [] (pre ++ [.inr (4, [.null, .int 0, .int 0, .int 0, .int 0])])
  refine EZ_aload_n 0 dX4_init_0 rfl rfl ?_
  refine EZ_obj wl_X4_3 dX4_init_1 ⟨Nat.le_of_ble_eq_true rfl, Nat.le_of_ble_eq_true rfl⟩ (Nat.le_of_ble_eq_true rfl) ?_
  refine EZ_aload_n 0 dX4_init_4 rfl rfl ?_
  refine EZ_bipush 120 (by decide) dX4_init_5 ?_
  refine EZ_newI (N := h + 1) (z := 120) (New_G 1 hp (by intro N; simp [nmE, nm]) rfl (by decide) (Nat.le_of_ble_eq_true rfl) (by simp [nmE, nm, arI, arJ]) (by simp [nmE, nm, arI, arJ]) (by simp [nmE, nm, arI, arJ])) (by decide) (by decide) wa_I (Nat.le_of_ble_eq_true rfl) (Nat.le_of_ble_eq_true rfl) dX4_init_7 ?_
  refine G_app (o' := [.inr (4, [.null, .int 0, .int 0, .int 0, .int 0]), arI 120]) rfl (P := fun w => EZ ZT _ _ _ _ _ _ _ _ _ _ _ _ _ _ _ w) ?_
  refine EZ_putF (ref := RX4) (T := TX4) (N := 5) (ty := (.array .int)) tyX4 tyX4_ok nmX4 rfl uX4 (by decide) fl_X4_9 rfl rfl rfl rfl (by decide +kernel) (fun _ => rfl) (fun _ => rfl) (G_at 0 hp rfl) (Nat.le_of_ble_eq_true rfl) dX4_init_9 ?_
  refine G_set 0 (o' := [.inr (4, [.ref (h + 1), .int 0, .int 0, .int 0, .int 0]), arI 120]) hp rfl (P := fun w => EZ ZT _ _ _ _ _ _ _ _ _ _ _ _ _ _ _ w) ?_
  exact EZ_nret rfl (Nat.le_of_ble_eq_true rfl) (Nat.le_of_ble_eq_true rfl) dX4_init_12 rfl
end GROW3
