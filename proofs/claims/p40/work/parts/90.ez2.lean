section EZ2
section rows
variable {Z : State → (Nat → Nat) → Prop} {l : Launch} {own : String} {cc : ByteArray} {nL : Nat} {ret : Option FieldType} {ini : Bool} {hh : List ExceptionTableEntry} {R : Room} {w0 : AW} {Tg : TgT} {k n pc : Nat} {lv : List (Nat × Value)} {st : List Value} {w : AW} {mi : MI} {ml : MJ}
theorem EZ_imul {x y : Int32} (hd : decode cc pc = .ok (.imul, 1))
    (kk : EZ Z l own cc nL ret ini hh R w0 Tg k n (pc + 1) lv (.int (x * y) :: st) w) : EZ Z l own cc nL ret ini hh R w0 Tg k n pc lv (.int y :: .int x :: st) w := by
  intro p e s m args below meth c g ad hz H locs ls hc hP hD hS hl
  exact lv_imul hc.1 hc.2.1 hd (kk p e s m args below meth c g ad hz H locs ls hc hP hD hS hl)
theorem EZ_ior {x y : Int32} (hd : decode cc pc = .ok (.ior, 1))
    (kk : EZ Z l own cc nL ret ini hh R w0 Tg k n (pc + 1) lv (.int (x ||| y) :: st) w) : EZ Z l own cc nL ret ini hh R w0 Tg k n pc lv (.int y :: .int x :: st) w := by
  intro p e s m args below meth c g ad hz H locs ls hc hP hD hS hl
  exact lv_ior hc.1 hc.2.1 hd (kk p e s m args below meth c g ad hz H locs ls hc hP hD hS hl)
theorem EZ_ixor {x y : Int32} (hd : decode cc pc = .ok (.ixor, 1))
    (kk : EZ Z l own cc nL ret ini hh R w0 Tg k n (pc + 1) lv (.int (x ^^^ y) :: st) w) : EZ Z l own cc nL ret ini hh R w0 Tg k n pc lv (.int y :: .int x :: st) w := by
  intro p e s m args below meth c g ad hz H locs ls hc hP hD hS hl
  exact lv_ixor hc.1 hc.2.1 hd (kk p e s m args below meth c g ad hz H locs ls hc hP hD hS hl)
theorem EZ_ishl {x y : Int32} (hd : decode cc pc = .ok (.ishl, 1))
    (kk : EZ Z l own cc nL ret ini hh R w0 Tg k n (pc + 1) lv (.int (x <<< (y &&& 31)) :: st) w) : EZ Z l own cc nL ret ini hh R w0 Tg k n pc lv (.int y :: .int x :: st) w := by
  intro p e s m args below meth c g ad hz H locs ls hc hP hD hS hl
  exact lv_ishl hc.1 hc.2.1 hd (kk p e s m args below meth c g ad hz H locs ls hc hP hD hS hl)
theorem EZ_ishr {x y : Int32} (hd : decode cc pc = .ok (.ishr, 1))
    (kk : EZ Z l own cc nL ret ini hh R w0 Tg k n (pc + 1) lv (.int (x >>> (y &&& 31)) :: st) w) : EZ Z l own cc nL ret ini hh R w0 Tg k n pc lv (.int y :: .int x :: st) w := by
  intro p e s m args below meth c g ad hz H locs ls hc hP hD hS hl
  exact lv_ishr hc.1 hc.2.1 hd (kk p e s m args below meth c g ad hz H locs ls hc hP hD hS hl)
theorem EZ_land {x y : Int64} (hd : decode cc pc = .ok (.land, 1))
    (kk : EZ Z l own cc nL ret ini hh R w0 Tg k n (pc + 1) lv (.long (x &&& y) :: st) w) : EZ Z l own cc nL ret ini hh R w0 Tg k n pc lv (.long y :: .long x :: st) w := by
  intro p e s m args below meth c g ad hz H locs ls hc hP hD hS hl
  exact lv_land hc.1 hc.2.1 hd (kk p e s m args below meth c g ad hz H locs ls hc hP hD hS hl)
theorem EZ_lor {x y : Int64} (hd : decode cc pc = .ok (.lor, 1))
    (kk : EZ Z l own cc nL ret ini hh R w0 Tg k n (pc + 1) lv (.long (x ||| y) :: st) w) : EZ Z l own cc nL ret ini hh R w0 Tg k n pc lv (.long y :: .long x :: st) w := by
  intro p e s m args below meth c g ad hz H locs ls hc hP hD hS hl
  exact lv_lor hc.1 hc.2.1 hd (kk p e s m args below meth c g ad hz H locs ls hc hP hD hS hl)
theorem EZ_lsub {x y : Int64} (hd : decode cc pc = .ok (.lsub, 1))
    (kk : EZ Z l own cc nL ret ini hh R w0 Tg k n (pc + 1) lv (.long (x - y) :: st) w) : EZ Z l own cc nL ret ini hh R w0 Tg k n pc lv (.long y :: .long x :: st) w := by
  intro p e s m args below meth c g ad hz H locs ls hc hP hD hS hl
  exact lv_lsub hc.1 hc.2.1 hd (kk p e s m args below meth c g ad hz H locs ls hc hP hD hS hl)
theorem EZ_lshl {x : Int64} {y : Int32} (hd : decode cc pc = .ok (.lshl, 1))
    (kk : EZ Z l own cc nL ret ini hh R w0 Tg k n (pc + 1) lv (.long (x <<< (y.toInt64 &&& 63)) :: st) w) : EZ Z l own cc nL ret ini hh R w0 Tg k n pc lv (.int y :: .long x :: st) w := by
  intro p e s m args below meth c g ad hz H locs ls hc hP hD hS hl
  exact lv_lshl hc.1 hc.2.1 hd rfl (kk p e s m args below meth c g ad hz H locs ls hc hP hD hS hl)
theorem EZ_lshr {x : Int64} {y : Int32} (hd : decode cc pc = .ok (.lshr, 1))
    (kk : EZ Z l own cc nL ret ini hh R w0 Tg k n (pc + 1) lv (.long (x >>> (y.toInt64 &&& 63)) :: st) w) : EZ Z l own cc nL ret ini hh R w0 Tg k n pc lv (.int y :: .long x :: st) w := by
  intro p e s m args below meth c g ad hz H locs ls hc hP hD hS hl
  exact lv_lshr hc.1 hc.2.1 hd rfl (kk p e s m args below meth c g ad hz H locs ls hc hP hD hS hl)
theorem EZ_ldc {i : Nat} {v : Int32} (hw : Wd (.constant own i v)) (hd : decode cc pc = .ok (.ldc i, 2)) (kk : EZ Z l own cc nL ret ini hh R w0 Tg k n (pc + 2) lv (.int v :: st) w) : EZ Z l own cc nL ret ini hh R w0 Tg k n pc lv st w := by
  intro p e s m args below meth c g ad hz H locs ls hc hP hD hS hl
  exact lv_ldc hc.1 hc.2.1 hc.2.2.2.2.1 (hc.2.2.2.2.2.2.2.2.2.1.1.use hw) hd (kk p e s m args below meth c g ad hz H locs ls hc hP hD hS hl)
theorem EZ_ldc2 {i : Nat} {v : Int64} (hw : Wd (.constantLong own i v)) (hd : decode cc pc = .ok (.ldc2_w i, 3)) (kk : EZ Z l own cc nL ret ini hh R w0 Tg k n (pc + 3) lv (.long v :: st) w) : EZ Z l own cc nL ret ini hh R w0 Tg k n pc lv st w := by
  intro p e s m args below meth c g ad hz H locs ls hc hP hD hS hl
  exact lv_ldc2 hc.1 hc.2.1 hc.2.2.2.2.1 (hc.2.2.2.2.2.2.2.2.2.1.1.use hw) hd (kk p e s m args below meth c g ad hz H locs ls hc hP hD hS hl)
theorem EZ_lconst {i : Fin 2} (v : Int64) (hv : Int64.ofNat (i : Nat) = v) (hd : decode cc pc = .ok (.lconst i, 1))
    (kk : EZ Z l own cc nL ret ini hh R w0 Tg k n (pc + 1) lv (.long v :: st) w) : EZ Z l own cc nL ret ini hh R w0 Tg k n pc lv (st) w := by
  intro p e s m args below meth c g ad hz H locs ls hc hP hD hS hl
  exact lv_lconst hc.1 hc.2.1 hd hv (kk p e s m args below meth c g ad hz H locs ls hc hP hD hS hl)
theorem EZ_ineg {x : Int32} (hd : decode cc pc = .ok (.ineg, 1))
    (kk : EZ Z l own cc nL ret ini hh R w0 Tg k n (pc + 1) lv (.int (0 - x) :: st) w) : EZ Z l own cc nL ret ini hh R w0 Tg k n pc lv (.int x :: st) w := by
  intro p e s m args below meth c g ad hz H locs ls hc hP hD hS hl
  exact lv_ineg hc.1 hc.2.1 hd (kk p e s m args below meth c g ad hz H locs ls hc hP hD hS hl)
theorem EZ_idiv {x y : Int32} (hne : ¬ y = 0) (hd : decode cc pc = .ok (.idiv, 1))
    (kk : EZ Z l own cc nL ret ini hh R w0 Tg k n (pc + 1) lv (.int (x / y) :: st) w) : EZ Z l own cc nL ret ini hh R w0 Tg k n pc lv (.int y :: .int x :: st) w := by
  intro p e s m args below meth c g ad hz H locs ls hc hP hD hS hl
  exact lv_idiv hc.1 hc.2.1 hd hne (kk p e s m args below meth c g ad hz H locs ls hc hP hD hS hl)
theorem EZ_irem {x y : Int32} (hne : ¬ y = 0) (hd : decode cc pc = .ok (.irem, 1))
    (kk : EZ Z l own cc nL ret ini hh R w0 Tg k n (pc + 1) lv (.int (x - x / y * y) :: st) w) : EZ Z l own cc nL ret ini hh R w0 Tg k n pc lv (.int y :: .int x :: st) w := by
  intro p e s m args below meth c g ad hz H locs ls hc hP hD hS hl
  exact lv_irem hc.1 hc.2.1 hd hne (kk p e s m args below meth c g ad hz H locs ls hc hP hD hS hl)
theorem EZ_lxor {x y : Int64} (hd : decode cc pc = .ok (.lxor, 1))
    (kk : EZ Z l own cc nL ret ini hh R w0 Tg k n (pc + 1) lv (.long (x ^^^ y) :: st) w) : EZ Z l own cc nL ret ini hh R w0 Tg k n pc lv (.long y :: .long x :: st) w := by
  intro p e s m args below meth c g ad hz H locs ls hc hP hD hS hl
  exact lv_lxor hc.1 hc.2.1 hd (kk p e s m args below meth c g ad hz H locs ls hc hP hD hS hl)
end rows
section ends
variable {Z : State → (Nat → Nat) → Prop} {l : Launch} {own : String} {cc : ByteArray} {nL : Nat} {ret : Option FieldType} {ini : Bool} {hh : List ExceptionTableEntry} {R : Room} {w0 : AW} {k n pc : Nat} {lv : List (Nat × Value)} {st : List Value} {w : AW} {mc ms : Nat} {Q : Option Value → AW → Prop} {X : String → AW → Prop}
theorem EZ_lret {v : Int64} (hr : ret = some .long) (hk : k ≤ mc) (hn : n ≤ ms) (hd : decode cc pc = .ok (.lreturn, 1)) (hq : Q (some (.long v)) w) : EZ Z l own cc nL ret ini hh R w0 (TgM w0 mc ms Q X) k n pc lv [.long v] w := by
  intro p e s m args below meth c g ad hz H locs ls hc hP hD hS hl
  refine W.widen hk hn (vx_ret ?_)
  exact W.lret (v := v) hc.1 hc.2.1 (hc.2.2.2.1.trans hr) (fun t ht hW => ⟨⟨some (.long v), w, rfl, hq, by rw [ht]; exact hP, hD⟩, hS.F ht⟩) hS.2.2 hd hc.2.2.2.2.2.1
end ends
theorem Nc2.mv {s U : State} (h : s.vm.Alike U.vm) (q : Nc2 s) : Nc2 U := ⟨q.1.moved h, q.2.moved h⟩
/-- a method without handlers, where the failing casts are known -/
theorem CtZ_of {l : Launch} {y : MethodName} {cc : ByteArray} {nL : Nat} {ret : Option FieldType} {d mc ms : Nat} {As : List Value} {w : AW} {Q : Option Value → AW → Prop} {X : String → AW → Prop} (hy : plainName y.cls = true) (hfl : l.stackTraces = false) (hlen : (lg_sl As).length ≤ nL)
    (h : EZ (fun s _ => Nc2 s) l y.cls cc nL ret false [] (rmE d mc ms) w (TgM w mc ms Q X) 0 0 0 (lv_args 0 As) [] w) : CtH l y (.code y cc nL ret) d mc ms As w Q X := by
  intro g ad sz
  refine vx_ofW (cc := cc) (maxL := nL) (ret := ret) hy rfl ?_
  intro p e s m args below meth c s₁ B hml hex hv
  obtain ⟨⟨rfl, hsz, hcs, hP, hD0, hZ⟩, hnc⟩ := hv
  subst hsz
  have hown : s.vm.findClass y.cls = some m.cls := findClass_of_methodNamed B.named
  have hD := hD0.self (sz := s.heap.size)
  have hl := lv_entry (As.map (cV ad)) (n := nL) (by rw [lg_sl_len]; exact hlen)
  rw [lg_entry_eq]
  rw [lv_args_map] at hl
  exact h p e s m _ below meth c g ad hnc s.heap [] _ ⟨B.exec, B.bytes, hml, B.returns, hown, B.notSynchronized, fun q => (by cases q), List.eq_nil_iff_forall_not_mem.mpr hex, hfl, hcs, hZ⟩ hP hD va_S.rf hl
/-- the words of a call of a method with handlers -/
def CwH (own : String) (idx : Nat) (y : MethodName) (bytes : ByteArray) (maxL : Nat) (rt : Option FieldType) (hh : List (Nat × Nat × Nat × Nat)) (nA : Nat) : Prop :=
  Wd (.methodLink own idx y) ∧ Wd (.codeWith y bytes maxL rt hh) ∧ Wd (.initialized y.cls) ∧ (y.cls ≠ "java/lang/invoke/MethodHandle" ∧ y.cls ≠ "java/lang/invoke/VarHandle") ∧ (parseMethodDescriptor y.desc).map (fun d => d.parameters.length) = some nA ∧ Wd (.static y)
theorem rok {d d' mc ms mc' ms' maxL k n : Nat} (h1 : d' + 7 ≤ d + 6) (h2 : 8 + (maxL + 11) + (60 * d' + 100) ≤ 60 * d + 100) (h3 : k + mc' ≤ mc) (h4 : n + ms' ≤ ms) : RoomOk (rmE d mc ms) d' mc' ms' maxL k n := ⟨h1, h2, h3, h4⟩
section calls
variable {Z : State → (Nat → Nat) → Prop} {l : Launch} {own : String} {cc : ByteArray} {nL : Nat} {ret : Option FieldType} {ini : Bool} {hh : List ExceptionTableEntry} {R : Room} {w0 : AW} {Tg : TgT} {k n pc : Nat} {lv : List (Nat × Value)} {st : List Value} {w : AW} {Q : Option Value → AW → Prop} {X : String → AW → Prop}
theorem EZ_callH (hzn : ∀ s ad, Z s ad → Nc2 s) {y : MethodName} {bytes : ByteArray} {maxL nA d mc ms idx : Nat} {rt : Option FieldType} {hhs : List (Nat × Nat × Nat × Nat)} {As : List Value} (hC : CtH l y (.codeWith y bytes maxL rt hhs) d mc ms As w Q noX)
    (hcw : CwH own idx y bytes maxL rt hhs nA) (hA : As.length = nA) (hR : RoomOk R d mc ms maxL k n) (hst : (st.map fun v => v.category).sum ≤ 8)
    (hd : decode cc pc = .ok (.invokestatic idx, 3)) {st0 : List Value} (hst0 : As.reverse ++ st = st0)
    (kk : ∀ (rv : Option Value) (w' : AW), Q rv w' → EZ Z l own cc nL ret ini hh R w0 Tg (k + mc) (n + ms) (pc + 3) lv (rv.toList ++ st) w') : EZ Z l own cc nL ret ini hh R w0 Tg k n pc lv st0 w := by
  subst hst0
  intro p e s m args below meth c g ad hz H locs ls hc hP hD hS hl
  have hcs := hc.2.2.2.2.2.2.2.2.2.1
  obtain ⟨h1, h2, h3, h4, h5, h6⟩ := hcw
  have hrun := vx_runSX (args := args) (Ts := []) (As := As.map (cV ad)) (rest := st.map (cV ad)) (g := F0 m pc ls ((As.reverse ++ st).map (cV ad))) (e := e) (below := below) (meth := meth) (H := H) (locs := locs) (cells := k) (slots := n) (nL := nL) ⟨hc.1, hc.2.1, hc.2.2.1, hc.2.2.2.2.1, fun _ h => nomatch h⟩ (hC g ad H.size)
    ⟨⟨rfl, rfl, hR.1, hR.2.1, fun w9 hw9 a' U hW => by rw [List.mem_singleton.mp hw9]; exact (hcs.1.move hW).use h2, List.mem_singleton.mpr rfl⟩, hcs.1.use h2, hcs.1.use h3, h4, fun sig hs => by rw [hs] at h5; exact (Option.some.inj h5).symm, hcs.1.use h1, hcs.1.use h6⟩
    ⟨fun a U gg mk q => ⟨PcE_blind a U gg mk q.1, Nc2.mv (Vm.Alike.refl U.vm) q.2⟩, fun U hU hW => ⟨PcE_at (As := As) hcs hc.2.2.2.2.2.2.2.2.2.2 hP hD hS (fun q h => Or.inr h) U hU hW, Nc2.mv hW.alike (hzn s ad hz)⟩⟩ rfl (by simpa using hA) hl.1 (by simp [List.map_append, List.map_reverse]) (lv_room (by rw [cV_sum]; exact hst)) hd ⟨hR.2.2.1, hR.2.2.2⟩
  exact RunEZ_go (w0 := w0) (st := st) (lv := lv) hz hrun hc hD hS hl (fun En w' _ _ _ _ h => h.elim) kk
theorem EZ_callZ (hzn : ∀ s ad, Z s ad → Nc2 s) {y : MethodName} {bytes : ByteArray} {maxL nA d mc ms idx : Nat} {rt : Option FieldType} {As : List Value} (hC : CtH l y (.code y bytes maxL rt) d mc ms As w Q noX)
    (hcw : CwE own idx y bytes maxL rt nA) (hin : Wd (.static y)) (hA : As.length = nA) (hR : RoomOk R d mc ms maxL k n) (hst : (st.map fun v => v.category).sum ≤ 8)
    (hd : decode cc pc = .ok (.invokestatic idx, 3)) {st0 : List Value} (hst0 : As.reverse ++ st = st0)
    (kk : ∀ (rv : Option Value) (w' : AW), Q rv w' → EZ Z l own cc nL ret ini hh R w0 Tg (k + mc) (n + ms) (pc + 3) lv (rv.toList ++ st) w') : EZ Z l own cc nL ret ini hh R w0 Tg k n pc lv st0 w := by
  subst hst0
  intro p e s m args below meth c g ad hz H locs ls hc hP hD hS hl
  have hcs := hc.2.2.2.2.2.2.2.2.2.1
  have hrun := vx_runS (args := args) (Ts := []) (As := As.map (cV ad)) (rest := st.map (cV ad)) (g := F0 m pc ls ((As.reverse ++ st).map (cV ad))) (e := e) (below := below) (meth := meth) (H := H) (locs := locs) (cells := k) (slots := n) (nL := nL) ⟨hc.1, hc.2.1, hc.2.2.1, hc.2.2.2.2.1, fun _ h => nomatch h⟩ (hC g ad H.size) ⟨hcw.callB hcs hR, hcs.1.use hin⟩
    ⟨fun a U gg mk q => ⟨PcE_blind a U gg mk q.1, Nc2.mv (Vm.Alike.refl U.vm) q.2⟩, fun U hU hW => ⟨PcE_at (As := As) hcs hc.2.2.2.2.2.2.2.2.2.2 hP hD hS (fun q h => Or.inr h) U hU hW, Nc2.mv hW.alike (hzn s ad hz)⟩⟩ rfl (by simpa using hA) hl.1 (by simp [List.map_append, List.map_reverse]) (lv_room (by rw [cV_sum]; exact hst)) hd ⟨hR.2.2.1, hR.2.2.2⟩
  exact RunEZ_go (w0 := w0) (st := st) (lv := lv) hz hrun hc hD hS hl (fun En w' _ _ _ _ h => h.elim) kk
end calls
/-- where the throw of En at pc goes, and what is answered there -/
def HKVI (own : String) (hh : List ExceptionTableEntry) (cc : ByteArray) (nL pc : Nat) (En : String) (v : Int32) : Prop :=
  ∃ (pre : List ExceptionTableEntry) (x : ExceptionTableEntry) (suf : List ExceptionTableEntry), hh = pre ++ x :: suf ∧ (∀ z ∈ pre, covers z pc = false ∨ (z.catchType ≠ 0 ∧ ∃ nm : String, Wd (.classLink own z.catchType nm) ∧ ∀ s, Nc2 s → va_Nc En nm s)) ∧ covers x pc = true ∧ x.catchType ≠ 0 ∧ Wd (.classLink own x.catchType En) ∧ Wd (.castable En En) ∧
    ∃ (i ln : Nat) (iv : Int), i < nL ∧ ((decode cc x.handlerPc = .ok (.astore i, 2) ∧ ln = 2) ∨ (∃ q : Fin 4, (q : Nat) = i ∧ decode cc x.handlerPc = .ok (.astore_n q, 1) ∧ ln = 1)) ∧ decode cc (x.handlerPc + ln) = .ok (.sipush iv, 3) ∧ (Int16.ofInt iv).toInt32 = v ∧ decode cc (x.handlerPc + ln + 3) = .ok (.ireturn, 1)
theorem EZ_callVI {mc0 ms0 : Nat} {l : Launch} {own : String} {cc : ByteArray} {nL : Nat} {ret : Option FieldType} {ini : Bool} {hh : List ExceptionTableEntry} {R : Room} {w0 : AW} {k n pc : Nat} {lv : List (Nat × Value)} {st : List Value} {w : AW} {Q : Option Value → AW → Prop} {X : String → AW → Prop} {Q0 : Option Value → AW → Prop} {X0 : String → AW → Prop} {y : MethodName} {bytes : ByteArray} {maxL nA d mc ms i ci idx : Nat} {rt : Option FieldType} {As : List Value} {fs : List Value} {q : vw_C} (hC : Ct l y (.code y bytes maxL rt) d mc ms (.ref i :: As) w Q X)
    (hcw : CwE own idx y bytes maxL rt nA) (hin : Wd (.instanceMethod y)) (hse : Wd (.selects y.cls y y)) (hci : vwCl[ci]? = some q) (hq : q.1 = y.cls) (hw : w[i]? = some (.inr (ci, fs))) (hA : As.length = nA) (hR : RoomOk R d mc ms maxL k n) (hst : (st.map fun v => v.category).sum ≤ 8)
    (hd : decode cc pc = .ok (.invokevirtual idx, 3)) (hret : ret = some .int) (hk0 : k + mc ≤ mc0) (hn0 : n + ms ≤ ms0) (hX : ∀ En w', X En w' → ∃ v : Int32, HKVI own hh cc nL pc En v ∧ Q0 (some (.int v)) w') {st0 : List Value} (hst0 : As.reverse ++ .ref i :: st = st0)
    (kk : ∀ (rv : Option Value) (w' : AW), Q rv w' → EZ (fun s _ => Nc2 s) l own cc nL ret ini hh R w0 (TgM w0 mc0 ms0 Q0 X0) (k + mc) (n + ms) (pc + 3) lv (rv.toList ++ st) w') : EZ (fun s _ => Nc2 s) l own cc nL ret ini hh R w0 (TgM w0 mc0 ms0 Q0 X0) k n pc lv st0 w := by
  subst hst0
  intro p e s m args below meth c g ad hz H locs ls hc hP hD hS hl
  have hcs := hc.2.2.2.2.2.2.2.2.2.1
  have hrun := vx_runV (args := args) (Ts := []) (As := As.map (cV ad)) (rest := st.map (cV ad)) (g := F0 m pc ls ((As.reverse ++ .ref i :: st).map (cV ad))) (e := e) (below := below) (meth := meth) (H := H) (locs := locs) (cells := k) (slots := n) (nL := nL) ⟨hc.1, hc.2.1, hc.2.2.1, hc.2.2.2.2.1, fun _ h => nomatch h⟩ (hC g ad H.size) ⟨hcw.callB hcs hR, hcs.1.use hin, hcs.1.use hse⟩
    ⟨PcE_blind, by rw [← hq]; exact va_recv hcs.2.2.2 hP hci (cW_at hw), PcE_at (As := .ref i :: As) hcs hc.2.2.2.2.2.2.2.2.2.2 hP hD hS (fun q h => Or.inr h)⟩ rfl (by simpa using hA) hl.1 (by simp [cV, List.map_append, List.map_reverse]) (lv_room (by rw [cV_sum]; exact hst)) hd ⟨hR.2.2.1, hR.2.2.2⟩
  refine RunEZ_go (w0 := w0) (st := st) (lv := lv) hz hrun hc hD hS hl (fun En w' ce q9 H1 locs1 h hP1 hD1 hS1 hce hcv hcl => ?_) kk
  obtain ⟨v, ⟨pre, x, suf, e1, e2, e3, e4, e5, e6, i9, ln, iv, f1, f2, f3, f4, f5⟩, hQ⟩ := hX En w' h
  refine vx_catch (own := own) (name := En) (E := En) hc.2.2.2.2.1 pre x suf (hc.2.2.2.2.2.2.2.1.trans e1) (fun z hzz => ?_) e3 e4 (hcs.1.use e5) (hcs.1.use e6) hce hcv hcl ?_
  · rcases e2 z hzz with r | ⟨r1, nm, r2, r3⟩
    · exact Or.inl r
    · exact Or.inr ⟨r1, nm, hcs.1.use r2, r3 s hz⟩
  · have fin : ∀ ls' : Array Slot, W p l e R s m args below meth c H1 locs1 (k + mc) (n + ms) (TgM w0 mc0 ms0 Q0 X0 below args s g ad) (F0 m (x.handlerPc + ln) ls' []) := fun ls' => by
      refine lv_sipush hc.1 hc.2.1 f3 f4 ?_
      refine W.widen hk0 hn0 (vx_ret ?_)
      exact W.iret (v := v) hc.1 hc.2.1 (hc.2.2.2.1.trans hret) (fun t ht hW => ⟨⟨some (.int v), w', rfl, hQ, by rw [ht]; exact hP1, hD1⟩, hS1.F ht⟩) hS1.2.2 f5 hc.2.2.2.2.2.1
    rcases f2 with ⟨g1, g2⟩ | ⟨q, g0, g1, g2⟩
    · subst g2; exact lv_astore hc.1 hc.2.1 g1 hl f1 rfl (fun ls' _ => fin ls')
    · subst g2; exact lv_astore_n hc.1 hc.2.1 g1 g0 hl f1 rfl (fun ls' _ => fin ls')
/-- where the throw of En at pc goes, and what is answered there -/
def HKVJ (own : String) (hh : List ExceptionTableEntry) (cc : ByteArray) (nL pc : Nat) (En : String) (v : Int64) : Prop :=
  ∃ (pre : List ExceptionTableEntry) (x : ExceptionTableEntry) (suf : List ExceptionTableEntry), hh = pre ++ x :: suf ∧ (∀ z ∈ pre, covers z pc = false ∨ (z.catchType ≠ 0 ∧ ∃ nm : String, Wd (.classLink own z.catchType nm) ∧ ∀ s, Nc2 s → va_Nc En nm s)) ∧ covers x pc = true ∧ x.catchType ≠ 0 ∧ Wd (.classLink own x.catchType En) ∧ Wd (.castable En En) ∧
    ∃ (i ln : Nat) (iv : Nat), i < nL ∧ ((decode cc x.handlerPc = .ok (.astore i, 2) ∧ ln = 2) ∨ (∃ q : Fin 4, (q : Nat) = i ∧ decode cc x.handlerPc = .ok (.astore_n q, 1) ∧ ln = 1)) ∧ decode cc (x.handlerPc + ln) = .ok (.ldc2_w iv, 3) ∧ Wd (.constantLong own iv v) ∧ decode cc (x.handlerPc + ln + 3) = .ok (.lreturn, 1)
theorem EZ_callVJ {mc0 ms0 : Nat} {l : Launch} {own : String} {cc : ByteArray} {nL : Nat} {ret : Option FieldType} {ini : Bool} {hh : List ExceptionTableEntry} {R : Room} {w0 : AW} {k n pc : Nat} {lv : List (Nat × Value)} {st : List Value} {w : AW} {Q : Option Value → AW → Prop} {X : String → AW → Prop} {Q0 : Option Value → AW → Prop} {X0 : String → AW → Prop} {y : MethodName} {bytes : ByteArray} {maxL nA d mc ms i ci idx : Nat} {rt : Option FieldType} {As : List Value} {fs : List Value} {q : vw_C} (hC : Ct l y (.code y bytes maxL rt) d mc ms (.ref i :: As) w Q X)
    (hcw : CwE own idx y bytes maxL rt nA) (hin : Wd (.instanceMethod y)) (hse : Wd (.selects y.cls y y)) (hci : vwCl[ci]? = some q) (hq : q.1 = y.cls) (hw : w[i]? = some (.inr (ci, fs))) (hA : As.length = nA) (hR : RoomOk R d mc ms maxL k n) (hst : (st.map fun v => v.category).sum ≤ 8)
    (hd : decode cc pc = .ok (.invokevirtual idx, 3)) (hret : ret = some .long) (hk0 : k + mc ≤ mc0) (hn0 : n + ms ≤ ms0) (hX : ∀ En w', X En w' → ∃ v : Int64, HKVJ own hh cc nL pc En v ∧ Q0 (some (.long v)) w') {st0 : List Value} (hst0 : As.reverse ++ .ref i :: st = st0)
    (kk : ∀ (rv : Option Value) (w' : AW), Q rv w' → EZ (fun s _ => Nc2 s) l own cc nL ret ini hh R w0 (TgM w0 mc0 ms0 Q0 X0) (k + mc) (n + ms) (pc + 3) lv (rv.toList ++ st) w') : EZ (fun s _ => Nc2 s) l own cc nL ret ini hh R w0 (TgM w0 mc0 ms0 Q0 X0) k n pc lv st0 w := by
  subst hst0
  intro p e s m args below meth c g ad hz H locs ls hc hP hD hS hl
  have hcs := hc.2.2.2.2.2.2.2.2.2.1
  have hrun := vx_runV (args := args) (Ts := []) (As := As.map (cV ad)) (rest := st.map (cV ad)) (g := F0 m pc ls ((As.reverse ++ .ref i :: st).map (cV ad))) (e := e) (below := below) (meth := meth) (H := H) (locs := locs) (cells := k) (slots := n) (nL := nL) ⟨hc.1, hc.2.1, hc.2.2.1, hc.2.2.2.2.1, fun _ h => nomatch h⟩ (hC g ad H.size) ⟨hcw.callB hcs hR, hcs.1.use hin, hcs.1.use hse⟩
    ⟨PcE_blind, by rw [← hq]; exact va_recv hcs.2.2.2 hP hci (cW_at hw), PcE_at (As := .ref i :: As) hcs hc.2.2.2.2.2.2.2.2.2.2 hP hD hS (fun q h => Or.inr h)⟩ rfl (by simpa using hA) hl.1 (by simp [cV, List.map_append, List.map_reverse]) (lv_room (by rw [cV_sum]; exact hst)) hd ⟨hR.2.2.1, hR.2.2.2⟩
  refine RunEZ_go (w0 := w0) (st := st) (lv := lv) hz hrun hc hD hS hl (fun En w' ce q9 H1 locs1 h hP1 hD1 hS1 hce hcv hcl => ?_) kk
  obtain ⟨v, ⟨pre, x, suf, e1, e2, e3, e4, e5, e6, i9, ln, iv, f1, f2, f3, f4, f5⟩, hQ⟩ := hX En w' h
  refine vx_catch (own := own) (name := En) (E := En) hc.2.2.2.2.1 pre x suf (hc.2.2.2.2.2.2.2.1.trans e1) (fun z hzz => ?_) e3 e4 (hcs.1.use e5) (hcs.1.use e6) hce hcv hcl ?_
  · rcases e2 z hzz with r | ⟨r1, nm, r2, r3⟩
    · exact Or.inl r
    · exact Or.inr ⟨r1, nm, hcs.1.use r2, r3 s hz⟩
  · have fin : ∀ ls' : Array Slot, W p l e R s m args below meth c H1 locs1 (k + mc) (n + ms) (TgM w0 mc0 ms0 Q0 X0 below args s g ad) (F0 m (x.handlerPc + ln) ls' []) := fun ls' => by
      refine lv_ldc2 hc.1 hc.2.1 hc.2.2.2.2.1 (hcs.1.use f4) f3 ?_
      refine W.widen hk0 hn0 (vx_ret ?_)
      exact W.lret (v := v) hc.1 hc.2.1 (hc.2.2.2.1.trans hret) (fun t ht hW => ⟨⟨some (.long v), w', rfl, hQ, by rw [ht]; exact hP1, hD1⟩, hS1.F ht⟩) hS1.2.2 f5 hc.2.2.2.2.2.1
    rcases f2 with ⟨g1, g2⟩ | ⟨q, g0, g1, g2⟩
    · subst g2; exact lv_astore hc.1 hc.2.1 g1 hl f1 rfl (fun ls' _ => fin ls')
    · subst g2; exact lv_astore_n hc.1 hc.2.1 g1 g0 hl f1 rfl (fun ls' _ => fin ls')
/-- how a helper ends: as the call, or with the throw's number -/
def HR (PN : Int32 → MI → MJ → Prop) (PX : String → MI → MJ → Prop) (cd : String → Int32) : Option Value → AW → Prop := fun rv w => ∃ (r : Int32) (mi : MI) (ml : MJ), rv = some (.int r) ∧ w = wl mi ml ∧ (PN r mi ml ∨ ∃ En, PX En mi ml ∧ r = cd En)
def HRJ (PN : Int64 → MI → MJ → Prop) (PX : String → MI → MJ → Prop) (cd : String → Int64) : Option Value → AW → Prop := fun rv w => ∃ (r : Int64) (mi : MI) (ml : MJ), rv = some (.long r) ∧ w = wl mi ml ∧ (PN r mi ml ∨ ∃ En, PX En mi ml ∧ r = cd En)
theorem okHR {PN : Int32 → MI → MJ → Prop} {PX : String → MI → MJ → Prop} {cd : String → Int32} {v : Int32} {mi : MI} {mk : MJ} (h : PN v mi mk) : HR PN PX cd (some (.int v)) (wl mi mk) := ⟨v, mi, mk, rfl, rfl, Or.inl h⟩
theorem okHRJ {PN : Int64 → MI → MJ → Prop} {PX : String → MI → MJ → Prop} {cd : String → Int64} {v : Int64} {mi : MI} {mk : MJ} (h : PN v mi mk) : HRJ PN PX cd (some (.long v)) (wl mi mk) := ⟨v, mi, mk, rfl, rfl, Or.inl h⟩
theorem xXR {PN : Int32 → MI → MJ → Prop} {PX : String → MI → MJ → Prop} {cd : String → Int32} {hk : String → Int32 → Prop} (h : ∀ En mi ml, PX En mi ml → hk En (cd En)) : ∀ En w, XW PX En w → ∃ v, hk En v ∧ HR PN PX cd (some (.int v)) w := by
  intro En w hx
  obtain ⟨mi, ml, e, q⟩ := hx
  exact ⟨cd En, h En mi ml q, cd En, mi, ml, rfl, e, Or.inr ⟨En, q, rfl⟩⟩
theorem xXRJ {PN : Int64 → MI → MJ → Prop} {PX : String → MI → MJ → Prop} {cd : String → Int64} {hk : String → Int64 → Prop} (h : ∀ En mi ml, PX En mi ml → hk En (cd En)) : ∀ En w, XW PX En w → ∃ v, hk En v ∧ HRJ PN PX cd (some (.long v)) w := by
  intro En w hx
  obtain ⟨mi, ml, e, q⟩ := hx
  exact ⟨cd En, h En mi ml q, cd En, mi, ml, rfl, e, Or.inr ⟨En, q, rfl⟩⟩
/-- the numbers of the throws -/
def cThr : String → Int32 := fun En => if En = xIA then -901 else if En = xIS then -902 else -903
def cThJ : String → Int64 := fun _ => -901
theorem cThr_IA : cThr xIA = -901 := if_pos rfl
theorem cThr_IS : cThr xIS = -902 := by unfold cThr; rw [if_neg (by decide), if_pos rfl]
theorem cThr_IO : cThr xIO = -903 := by unfold cThr; rw [if_neg (by decide), if_neg (by decide)]
theorem zn1 : ∀ (s : State) (ad : Nat → Nat), (fun (s : State) (_ : Nat → Nat) => Nc2 s) s ad → Nc2 s := fun _ _ h => h
end EZ2
