/-! THE E LAYER: entry, ends, throws, calls -/
section EC
theorem lv_args_map (ad : Nat → Nat) : ∀ (As : List Value) (k : Nat), lv_args k (As.map (cV ad)) = cL ad (lv_args k As) := by
  intro As
  induction As with
  | nil => intro k; rfl
  | cons a As ih =>
    intro k
    cases a <;> simp [lv_args, cL, cV, ih, Value.category]
theorem lg_sl_len (ad : Nat → Nat) : ∀ (As : List Value), (lg_sl (As.map (cV ad))).length = (lg_sl As).length := by
  intro As
  induction As with
  | nil => rfl
  | cons a As ih => cases a <;> simp_all [lg_sl, cV, Value.category]
theorem ZQ.moved {A : Nat → Prop} {u U : State} {H : Heap} (hvm : u.vm.Alike U.vm) (h : ZQ A u H) : ZQ A U H := ⟨vx_Zq.moved hvm h.1, vx_Zq.moved hvm h.2⟩
theorem ZQ.kept {A : Nat → Prop} {U : State} {H H1 : Heap} (h : ZQ A U H) (hq : ∀ a : Nat, a < H.size → ¬ A a → H1[a]? = H[a]?) : ZQ A U H1 := ⟨h.1.kept hq, h.2.kept hq⟩
theorem ZQ.narrow {A B : Nat → Prop} {U : State} {H : Heap} (h : ZQ A U H) (hAB : ∀ q, B q → A q) : ZQ B U H := ⟨h.1.narrow hAB, h.2.narrow hAB⟩
theorem vaA_sub {A : Nat → Prop} {ws : va_W} {H0 H : Heap} {locs : List Loc} (hD : va_D A ws) (hS : va_S A H0 H locs) (hA : ∀ q, H0.size ≤ q → A q) : ∀ q, va_A ws H.size q → A q := by
  intro q h
  rcases h with ⟨k, e, h⟩ | h
  · exact hD.2 k (q, e) h
  · exact hA q (Nat.le_trans hS.1 h)
theorem PcE_blind {g : Gx} {ad : Nat → Nat} {sz : Nat} {As : List Value} {w : AW} : FrameBlind (PcE g ad sz As w) := by
  intro a U gg mk q
  obtain ⟨q0, q1, q2, q3, q4, q5⟩ := q
  exact ⟨q0, q1, CS.move (s := U) (U := U.calling gg mk a) (State.WarmedH.refl U) q2, q3, q4, ZQ.moved (u := U) (U := U.calling gg mk a) (Vm.Alike.refl U.vm) q5⟩
theorem PcE_at {g : Gx} {ad : Nat → Nat} {As : List Value} {w : AW} {A : Nat → Prop} {s : State} {H : Heap} {locs : List Loc} (hcs : CS g s) (hz : ZQ A s s.heap) (hP : va_P g.1 vwCl (cW g ad w) H) (hD : va_D A (cW g ad w)) (hS : va_S A s.heap H locs) (hA : ∀ q, s.heap.size ≤ q → A q) :
    ∀ U : State, U.heap = H → s.WarmedH U.vm → PcE g ad H.size As w (As.map (cV ad)).toArray U := by
  intro U hU hW
  refine ⟨rfl, by rw [hU], hcs.move hW, by rw [hU]; exact hP, hD.weaken (fun _ _ _ _ => trivial), ?_⟩
  rw [hU]
  exact ((hz.kept hS.2.1).moved hW.alike).narrow (vaA_sub hD hS hA)
theorem Ct_of {l : Launch} {y : MethodName} {cc : ByteArray} {nL : Nat} {ret : Option FieldType} {ini : Bool} {d mc ms : Nat} {As : List Value} {w : AW} {Q : Option Value → AW → Prop} {X : String → AW → Prop} (hy : plainName y.cls = true) (hfl : l.stackTraces = false) (hi : ini = true → y.name = "<init>") (hlen : (lg_sl As).length ≤ nL)
    (h : E l y.cls cc nL ret ini [] (rmE d mc ms) w (TgM w mc ms Q X) 0 0 0 (lv_args 0 As) [] w) : Ct l y (.code y cc nL ret) d mc ms As w Q X := by
  intro g ad sz
  refine vx_ofW (cc := cc) (maxL := nL) (ret := ret) hy rfl ?_
  intro p e s m args below meth c s₁ B hml hex hv
  obtain ⟨rfl, hsz, hcs, hP, hD0, hZ⟩ := hv
  subst hsz
  have hown : s.vm.findClass y.cls = some m.cls := findClass_of_methodNamed B.named
  have hD := hD0.self (sz := s.heap.size)
  have hl := lv_entry (As.map (cV ad)) (n := nL) (by rw [lg_sl_len]; exact hlen)
  rw [lg_entry_eq]
  rw [lv_args_map] at hl
  exact h p e s m _ below meth c g ad s.heap [] _ ⟨B.exec, B.bytes, hml, B.returns, hown, B.notSynchronized, fun q => (name_of_methodNamed B.named B.method).1.trans (hi q), List.eq_nil_iff_forall_not_mem.mpr hex, hfl, hcs, hZ⟩ hP hD va_S.rf hl
section ends
variable {l : Launch} {own : String} {cc : ByteArray} {nL : Nat} {ret : Option FieldType} {ini : Bool} {hh : List ExceptionTableEntry} {R : Room} {w0 : AW} {k n pc : Nat} {lv : List (Nat × Value)} {st : List Value} {w : AW} {mc ms : Nat} {Q : Option Value → AW → Prop} {X : String → AW → Prop}
theorem E_iret {v : Int32} (hr : ret = some .int) (hk : k ≤ mc) (hn : n ≤ ms) (hd : decode cc pc = .ok (.ireturn, 1)) (hq : Q (some (.int v)) w) : E l own cc nL ret ini hh R w0 (TgM w0 mc ms Q X) k n pc lv [.int v] w := by
  intro p e s m args below meth c g ad H locs ls hc hP hD hS hl
  refine W.widen hk hn (vx_ret ?_)
  exact W.iret (v := v) hc.1 hc.2.1 (hc.2.2.2.1.trans hr) (fun t ht hW => ⟨⟨some (.int v), w, rfl, hq, by rw [ht]; exact hP, hD⟩, hS.F ht⟩) hS.2.2 hd hc.2.2.2.2.2.1
theorem E_zret {v : Int32} {ty : FieldType} (hr : ret = some ty) (hnv : narrow ty (.int v) = .int v) (hk : k ≤ mc) (hn : n ≤ ms) (hd : decode cc pc = .ok (.ireturn, 1)) (hq : Q (some (.int v)) w) : E l own cc nL ret ini hh R w0 (TgM w0 mc ms Q X) k n pc lv [.int v] w := by
  intro p e s m args below meth c g ad H locs ls hc hP hD hS hl
  refine W.widen hk hn (vx_ret ?_)
  exact W.zret (v := v) hc.1 hc.2.1 (hc.2.2.2.1.trans hr) hnv (fun t ht hW => ⟨⟨some (.int v), w, rfl, hq, by rw [ht]; exact hP, hD⟩, hS.F ht⟩) hS.2.2 hd hc.2.2.2.2.2.1
theorem E_lret {v : Int64} (hr : ret = some .long) (hk : k ≤ mc) (hn : n ≤ ms) (hd : decode cc pc = .ok (.lreturn, 1)) (hq : Q (some (.long v)) w) : E l own cc nL ret ini hh R w0 (TgM w0 mc ms Q X) k n pc lv [.long v] w := by
  intro p e s m args below meth c g ad H locs ls hc hP hD hS hl
  refine W.widen hk hn (vx_ret ?_)
  exact W.lret (v := v) hc.1 hc.2.1 (hc.2.2.2.1.trans hr) (fun t ht hW => ⟨⟨some (.long v), w, rfl, hq, by rw [ht]; exact hP, hD⟩, hS.F ht⟩) hS.2.2 hd hc.2.2.2.2.2.1
theorem E_vret (hr : ret = none) (hk : k ≤ mc) (hn : n ≤ ms) (hd : decode cc pc = .ok (.return_, 1)) (hq : Q none w) : E l own cc nL ret ini hh R w0 (TgM w0 mc ms Q X) k n pc lv [] w := by
  intro p e s m args below meth c g ad H locs ls hc hP hD hS hl
  refine W.widen hk hn (vx_ret ?_)
  exact W.vret hc.1 hc.2.1 (hc.2.2.2.1.trans hr) (fun t ht hW => ⟨⟨none, w, rfl, hq, by rw [ht]; exact hP, hD⟩, hS.F ht⟩) hS.2.2 hd hc.2.2.2.2.2.1
theorem E_aret {v : Nat} {C : String} (hr : ret = some (.object C)) (hk : k ≤ mc) (hn : n ≤ ms) (hd : decode cc pc = .ok (.areturn, 1)) (hq : Q (some (.ref v)) w) : E l own cc nL ret ini hh R w0 (TgM w0 mc ms Q X) k n pc lv [.ref v] w := by
  intro p e s m args below meth c g ad H locs ls hc hP hD hS hl
  refine W.widen hk hn (vx_ret ?_)
  exact W.aret (v := .ref (ad v)) hc.1 hc.2.1 (hc.2.2.2.1.trans hr) (Or.inl ⟨C, rfl⟩) (Or.inr ⟨ad v, rfl⟩) (fun t ht hW => ⟨⟨some (.ref v), w, rfl, hq, by rw [ht]; exact hP, hD⟩, hS.F ht⟩) hS.2.2 hd hc.2.2.2.2.2.1
theorem XcE_of {g : Gx} {ad : Nat → Nat} {s : State} {H : Heap} {locs : List Loc} {En : String} (hX : X En w) (hP : va_P g.1 vwCl (cW g ad w) H) (hD : va_D (va_A (cW g ad w0) s.heap.size) (cW g ad w)) (hS : va_S (va_A (cW g ad w0) s.heap.size) s.heap H locs) (t : State) (hz : H.size ≤ t.heap.size) (hk : ∀ q : Nat, q < H.size → t.heap[q]? = H[q]?) : XcE g ad s.heap.size w0 X En s t := by
  refine ⟨⟨w, hX, hP.kept (fun k q hq => hk _ (hP k q hq).lt), hD⟩, Nat.le_trans hS.1 hz, fun q h1 h2 => ?_⟩
  rw [hk q (Nat.lt_of_lt_of_le h1 hS.1)]
  exact hS.2.1 q h1 h2
/-- throw new E("text") -/
theorem E_throw {cls text : String} {names : List String} {ik is ic : Nat} (hcls : Bundle.fit cls = true) (hnames : ∀ n ∈ names, Bundle.fit n = true) (hk1 : Wd (.classLink own ik cls)) (hini : Wd (.initialized cls)) (hstr : Str own is text) (hat : ∀ x ∈ vx_atS own ic cls names, Wd x)
    (hgood : ∀ x ∈ Cond.classLink own ik cls :: Cond.initialized cls :: vx_atS own ic cls names, vx_ot x = true) (hht : hh = [])
    (hR : names.length + 3 < R.frames ∧ (st.map fun v => v.category).sum + (13 * (names.length + 1) + 43) ≤ R.locals ∧ k + 1 ≤ R.cells ∧ n + 6 ≤ R.slots) (hk : k + 1 ≤ mc) (hn : n + 6 ≤ ms)
    (d0 : decode cc pc = .ok (.new ik, 3)) (d3 : decode cc (pc + 3) = .ok (.dup, 1)) (d4 : decode cc (pc + 4) = .ok (.ldc is, 2)) (d6 : decode cc (pc + 6) = .ok (.invokespecial ic, 3)) (d9 : decode cc (pc + 9) = .ok (.athrow, 1))
    (hx : X cls w) : E l own cc nL ret ini hh R w0 (TgM w0 mc ms Q X) k n pc lv st w := by
  intro p e s m args below meth c g ad H locs ls hc hP hD hS hl
  obtain ⟨hx1, hb, hml, hr, hown, hlocks, -, hex, hfl, hcs, hz⟩ := hc
  obtain ⟨sa, hsa⟩ := hcs.2.1 _ _ _ hstr
  exact vx_throwS (names := names) (sa := sa) (text := text) hx1 hb hfl hown hcls hnames (hcs.1.use hk1) (hcs.1.use hini) hsa (fun x hx => hcs.1.use (hat x hx)) hgood hz.1 hz.2 hS (by rw [hml]; exact hl.1) d0 d3 d4 d6 d9 (fun x hx => by rw [hex, hht] at hx; cases hx)
    hR.1 (by rw [cV_sum]; exact hR.2.1) hR.2.2.1 hR.2.2.2 hlocks (fun t _ h2 h3 => XcE_of hx hP hD hS t h2 h3) hS.2.2 hk hn
theorem E_throwW {cls text : String} {names : List String} {ik is ic : Nat} (hcls : Bundle.fit cls = true) (hnames : ∀ n ∈ names, Bundle.fit n = true) (hk1 : Wd (.classLink own ik cls)) (hini : Wd (.initialized cls)) (hstr : Str own is text) (hat : ∀ x ∈ vx_atS own ic cls names, Wd x)
    (hgood : ∀ x ∈ Cond.classLink own ik cls :: Cond.initialized cls :: vx_atS own ic cls names, vx_ot x = true) (hht : hh = [])
    (hR : names.length + 3 < R.frames ∧ (st.map fun v => v.category).sum + (13 * (names.length + 1) + 43) ≤ R.locals ∧ k + 1 ≤ R.cells ∧ n + 6 ≤ R.slots) (hk : k + 1 ≤ mc) (hn : n + 6 ≤ ms)
    (d0 : decode cc pc = .ok (.new ik, 3)) (d3 : decode cc (pc + 3) = .ok (.dup, 1)) (d4 : decode cc (pc + 4) = .ok (.ldc_w is, 3)) (d6 : decode cc (pc + 7) = .ok (.invokespecial ic, 3)) (d9 : decode cc (pc + 10) = .ok (.athrow, 1))
    (hx : X cls w) : E l own cc nL ret ini hh R w0 (TgM w0 mc ms Q X) k n pc lv st w := by
  intro p e s m args below meth c g ad H locs ls hc hP hD hS hl
  obtain ⟨hx1, hb, hml, hr, hown, hlocks, -, hex, hfl, hcs, hz⟩ := hc
  obtain ⟨sa, hsa⟩ := hcs.2.1 _ _ _ hstr
  exact vx_throwSW (names := names) (sa := sa) (text := text) hx1 hb hfl hown hcls hnames (hcs.1.use hk1) (hcs.1.use hini) hsa (fun x hx => hcs.1.use (hat x hx)) hgood hz.1 hz.2 hS (by rw [hml]; exact hl.1) d0 d3 d4 d6 d9 (fun x hx => by rw [hex, hht] at hx; cases hx)
    hR.1 (by rw [cV_sum]; exact hR.2.1) hR.2.2.1 hR.2.2.2 hlocks (fun t _ h2 h3 => XcE_of hx hP hD hS t h2 h3) hS.2.2 hk hn
end ends
/-- what a run of a callee in place words gives -/
def RunE (p : Program) (l : Launch) (e : Env) (R : Room) (s : State) (m : MethodId) (args : Array Value) (below : List Frame) (meth : Method) (c : Code) (g : Gx) (ad : Nat → Nat) (w : AW) (H : Heap) (locs : List Loc) (k n mc ms : Nat) (gg : JFrame) (rest : List Value) (Q : Option Value → AW → Prop) (X : String → AW → Prop) : Prop :=
  vx_Run p l e R s m args below meth c H locs k n mc ms gg rest (fun st₀ o t => QcE g ad H.size w Q #[] st₀ o t) (XcE g ad H.size w X) (va_A (cW g ad w) H.size)
theorem RunE_go {p : Program} {l : Launch} {e : Env} {R : Room} {s : State} {m : MethodId} {args : Array Value} {below : List Frame} {meth : Method} {c : Code} {g : Gx} {ad : Nat → Nat} {w w0 : AW} {H : Heap} {locs : List Loc} {k n mc ms : Nat} {st st0 : List Value} {Q : Option Value → AW → Prop} {X : String → AW → Prop} {own : String} {cc : ByteArray} {nL : Nat} {ret : Option FieldType} {ini : Bool} {hh : List ExceptionTableEntry} {Tg : TgT} {pc : Nat} {lv : List (Nat × Value)} {ls : Array Slot}
    (hr : RunE p l e R s m args below meth c g ad w H locs k n mc ms (F0 m pc ls st0) (st.map (cV ad)) Q X)
    (hc : Cx p l s m meth c own cc nL ret ini hh g (va_A (cW g ad w0) s.heap.size)) (hD : va_D (va_A (cW g ad w0) s.heap.size) (cW g ad w)) (hS : va_S (va_A (cW g ad w0) s.heap.size) s.heap H locs) (hl : lv_has ls nL (cL ad lv))
    (kx : ∀ (En : String) (w' : AW) (ce : Cell) (q9 : Addr) (H1 : Heap) (locs1 : List Loc), X En w' → va_P g.1 vwCl (cW g ad w') H1 → va_D (va_A (cW g ad w0) s.heap.size) (cW g ad w') → va_S (va_A (cW g ad w0) s.heap.size) s.heap H1 locs1 → H1[q9]? = some ce → ce.vm = .none → s.vm.findClass En = some ce.cls → vx_W p l e R s m args below meth c H1 locs1 (k + mc) (n + ms) (Tg below args s g ad) (F0 m pc ls (st.map (cV ad))) q9)
    (kk : ∀ (rv : Option Value) (w' : AW), Q rv w' → E l own cc nL ret ini hh R w0 Tg (k + mc) (n + ms) (pc + 3) lv (rv.toList ++ st) w') :
    W p l e R s m args below meth c H locs k n (Tg below args s g ad) (F0 m pc ls st0) := by
  have hA : ∀ q, s.heap.size ≤ q → va_A (cW g ad w0) s.heap.size q := fun q h => Or.inr h
  have hsub := vaA_sub hD hS hA
  intro T hT X9
  rcases hr T hT X9 with ⟨v, st₀, t, T', L, h0, X', hL, e1, e2, hq, stp⟩ | ⟨q, st₀, t, T', L, En, ce, h0, X', hL, e1, e2, hq, hce, hcv, hcl, stp⟩
  · obtain ⟨⟨rv, w', ho, hQ, hP', hD'⟩, hF⟩ := hq
    cases ho
    obtain ⟨-, -, hS'⟩ := vx_keep h0 e1 hS (fun q _ h => hsub q h) hsub hL hF
    obtain ⟨t2, a1, b1⟩ := kk rv w' hQ p e s m args below meth c g ad T'.heap _ ls hc (by rw [e1]; exact hP') (hD'.weaken (fun _ q _ h => hsub q.1 h)) hS' hl T' rfl X'
    refine ⟨t2, stp t2 ?_, b1⟩
    have e9 : (rv.map (cV ad)).toList ++ st.map (cV ad) = (rv.toList ++ st).map (cV ad) := by cases rv <;> simp
    rw [e9]
    exact a1
  · obtain ⟨⟨w', hX, hP', hD'⟩, hF⟩ := hq
    obtain ⟨-, -, hS'⟩ := vx_keep h0 e1 hS (fun q _ h => hsub q h) hsub hL hF
    obtain ⟨t2, a1, b1⟩ := kx En w' ce q T'.heap _ hX (by rw [e1]; exact hP') (hD'.weaken (fun _ q _ h => hsub q.1 h)) hS' (by rw [e1]; exact hce) hcv hcl T' rfl X'
    exact ⟨t2, stp.trans a1, b1⟩
section calls
variable {l : Launch} {own : String} {cc : ByteArray} {nL : Nat} {ret : Option FieldType} {ini : Bool} {hh : List ExceptionTableEntry} {R : Room} {w0 : AW} {Tg : TgT} {k n pc : Nat} {lv : List (Nat × Value)} {st : List Value} {w : AW} {Q : Option Value → AW → Prop} {X : String → AW → Prop}
/-- the words of a method that is called -/
def CwE (own : String) (idx : Nat) (y : MethodName) (bytes : ByteArray) (maxL : Nat) (rt : Option FieldType) (nA : Nat) : Prop :=
  Wd (.methodLink own idx y) ∧ Wd (.code y bytes maxL rt) ∧ Wd (.initialized y.cls) ∧ (y.cls ≠ "java/lang/invoke/MethodHandle" ∧ y.cls ≠ "java/lang/invoke/VarHandle") ∧ (parseMethodDescriptor y.desc).map (fun d => d.parameters.length) = some nA
abbrev RoomOk (R : Room) (d mc ms maxL k n : Nat) : Prop := d + 7 ≤ R.frames ∧ 8 + (maxL + 11) + (60 * d + 100) ≤ R.locals ∧ k + mc ≤ R.cells ∧ n + ms ≤ R.slots
theorem CwE.callB {s : State} {args : Array Value} {own : String} {idx nA d mc ms maxL k n : Nat} {y : MethodName} {bytes : ByteArray} {rt : Option FieldType} {g : Gx} {R : Room} (h : CwE own idx y bytes maxL rt nA) (hcs : CS g s) (hR : RoomOk R d mc ms maxL k n) : CallB R s args own idx y bytes maxL rt [.code y bytes maxL rt] (rmE d mc ms) mc ms nA := by
  obtain ⟨h1, h2, h3, h4, h5⟩ := h
  refine ⟨rfl, rfl, hR.1, hR.2.1, fun w hw a' U hW => ?_, List.mem_singleton.mpr rfl, hcs.1.use h2, hcs.1.use h3, h4, fun sig hs => ?_, hcs.1.use h1⟩
  · rw [List.mem_singleton.mp hw]
    exact (hcs.1.move hW).use h2
  · rw [hs] at h5
    exact (Option.some.inj h5).symm
theorem E_callV {y : MethodName} {bytes : ByteArray} {maxL nA d mc ms i ci idx : Nat} {rt : Option FieldType} {As : List Value} {fs : List Value} {q : vw_C} (hC : Ct l y (.code y bytes maxL rt) d mc ms (.ref i :: As) w Q X)
    (hcw : CwE own idx y bytes maxL rt nA) (hin : Wd (.instanceMethod y)) (hse : Wd (.selects y.cls y y)) (hci : vwCl[ci]? = some q) (hq : q.1 = y.cls) (hw : w[i]? = some (.inr (ci, fs))) (hA : As.length = nA) (hR : RoomOk R d mc ms maxL k n) (hst : (st.map fun v => v.category).sum ≤ 8)
    (hd : decode cc pc = .ok (.invokevirtual idx, 3)) (hX : ∀ En w', X En w' → False) {st0 : List Value} (hst0 : As.reverse ++ .ref i :: st = st0)
    (kk : ∀ (rv : Option Value) (w' : AW), Q rv w' → E l own cc nL ret ini hh R w0 Tg (k + mc) (n + ms) (pc + 3) lv (rv.toList ++ st) w') : E l own cc nL ret ini hh R w0 Tg k n pc lv st0 w := by
  subst hst0
  intro p e s m args below meth c g ad H locs ls hc hP hD hS hl
  have hcs := hc.2.2.2.2.2.2.2.2.2.1
  have hrun := vx_runV (args := args) (Ts := []) (As := As.map (cV ad)) (rest := st.map (cV ad)) (g := F0 m pc ls ((As.reverse ++ .ref i :: st).map (cV ad))) (e := e) (below := below) (meth := meth) (H := H) (locs := locs) (cells := k) (slots := n) (nL := nL) ⟨hc.1, hc.2.1, hc.2.2.1, hc.2.2.2.2.1, fun _ h => nomatch h⟩ (hC g ad H.size) ⟨hcw.callB hcs hR, hcs.1.use hin, hcs.1.use hse⟩
    ⟨PcE_blind, by rw [← hq]; exact va_recv hcs.2.2.2 hP hci (cW_at hw), PcE_at (As := .ref i :: As) hcs hc.2.2.2.2.2.2.2.2.2.2 hP hD hS (fun q h => Or.inr h)⟩ rfl (by simpa using hA) hl.1 (by simp [cV, List.map_append, List.map_reverse]) (lv_room (by rw [cV_sum]; exact hst)) hd ⟨hR.2.2.1, hR.2.2.2⟩
  exact RunE_go (w0 := w0) (st := st) (lv := lv) hrun hc hD hS hl (fun En w' _ _ _ _ h => (hX En w' h).elim) kk
theorem E_callS {y : MethodName} {bytes : ByteArray} {maxL nA d mc ms idx : Nat} {rt : Option FieldType} {As : List Value} (hC : Ct l y (.code y bytes maxL rt) d mc ms As w Q X)
    (hcw : CwE own idx y bytes maxL rt nA) (hin : Wd (.static y)) (hA : As.length = nA) (hR : RoomOk R d mc ms maxL k n) (hst : (st.map fun v => v.category).sum ≤ 8)
    (hd : decode cc pc = .ok (.invokestatic idx, 3)) (hX : ∀ En w', X En w' → False) {st0 : List Value} (hst0 : As.reverse ++ st = st0)
    (kk : ∀ (rv : Option Value) (w' : AW), Q rv w' → E l own cc nL ret ini hh R w0 Tg (k + mc) (n + ms) (pc + 3) lv (rv.toList ++ st) w') : E l own cc nL ret ini hh R w0 Tg k n pc lv st0 w := by
  subst hst0
  intro p e s m args below meth c g ad H locs ls hc hP hD hS hl
  have hcs := hc.2.2.2.2.2.2.2.2.2.1
  have hrun := vx_runS (args := args) (Ts := []) (As := As.map (cV ad)) (rest := st.map (cV ad)) (g := F0 m pc ls ((As.reverse ++ st).map (cV ad))) (e := e) (below := below) (meth := meth) (H := H) (locs := locs) (cells := k) (slots := n) (nL := nL) ⟨hc.1, hc.2.1, hc.2.2.1, hc.2.2.2.2.1, fun _ h => nomatch h⟩ (hC g ad H.size) ⟨hcw.callB hcs hR, hcs.1.use hin⟩
    ⟨PcE_blind, PcE_at (As := As) hcs hc.2.2.2.2.2.2.2.2.2.2 hP hD hS (fun q h => Or.inr h)⟩ rfl (by simpa using hA) hl.1 (by simp [List.map_append, List.map_reverse]) (lv_room (by rw [cV_sum]; exact hst)) hd ⟨hR.2.2.1, hR.2.2.2⟩
  exact RunE_go (w0 := w0) (st := st) (lv := lv) hrun hc hD hS hl (fun En w' _ _ _ _ h => (hX En w' h).elim) kk
theorem E_callVx {mc0 ms0 : Nat} {Q0 : Option Value → AW → Prop} {X0 : String → AW → Prop} {y : MethodName} {bytes : ByteArray} {maxL nA d mc ms i ci idx : Nat} {rt : Option FieldType} {As : List Value} {fs : List Value} {q : vw_C} (hC : Ct l y (.code y bytes maxL rt) d mc ms (.ref i :: As) w Q X)
    (hcw : CwE own idx y bytes maxL rt nA) (hin : Wd (.instanceMethod y)) (hse : Wd (.selects y.cls y y)) (hci : vwCl[ci]? = some q) (hq : q.1 = y.cls) (hw : w[i]? = some (.inr (ci, fs))) (hA : As.length = nA) (hR : RoomOk R d mc ms maxL k n) (hst : (st.map fun v => v.category).sum ≤ 8)
    (hd : decode cc pc = .ok (.invokevirtual idx, 3)) (hht : hh = []) (hk0 : k + mc ≤ mc0) (hn0 : n + ms ≤ ms0) (hX : ∀ En w', X En w' → X0 En w') {st0 : List Value} (hst0 : As.reverse ++ .ref i :: st = st0)
    (kk : ∀ (rv : Option Value) (w' : AW), Q rv w' → E l own cc nL ret ini hh R w0 (TgM w0 mc0 ms0 Q0 X0) (k + mc) (n + ms) (pc + 3) lv (rv.toList ++ st) w') : E l own cc nL ret ini hh R w0 (TgM w0 mc0 ms0 Q0 X0) k n pc lv st0 w := by
  subst hst0
  intro p e s m args below meth c g ad H locs ls hc hP hD hS hl
  have hcs := hc.2.2.2.2.2.2.2.2.2.1
  have hrun := vx_runV (args := args) (Ts := []) (As := As.map (cV ad)) (rest := st.map (cV ad)) (g := F0 m pc ls ((As.reverse ++ .ref i :: st).map (cV ad))) (e := e) (below := below) (meth := meth) (H := H) (locs := locs) (cells := k) (slots := n) (nL := nL) ⟨hc.1, hc.2.1, hc.2.2.1, hc.2.2.2.2.1, fun _ h => nomatch h⟩ (hC g ad H.size) ⟨hcw.callB hcs hR, hcs.1.use hin, hcs.1.use hse⟩
    ⟨PcE_blind, by rw [← hq]; exact va_recv hcs.2.2.2 hP hci (cW_at hw), PcE_at (As := .ref i :: As) hcs hc.2.2.2.2.2.2.2.2.2.2 hP hD hS (fun q h => Or.inr h)⟩ rfl (by simpa using hA) hl.1 (by simp [cV, List.map_append, List.map_reverse]) (lv_room (by rw [cV_sum]; exact hst)) hd ⟨hR.2.2.1, hR.2.2.2⟩
  exact RunE_go (w0 := w0) (st := st) (lv := lv) hrun hc hD hS hl (fun En w' ce q9 H1 locs1 h hP1 hD1 hS1 hce hcv hcl => vx_out (fun x hx => by rw [hc.2.2.2.2.2.2.2.1, hht] at hx; cases hx) hc.2.2.2.2.2.1 hce hcv hcl (fun t ht _ => XcE_of (hX En w' h) hP1 hD1 hS1 t (by rw [ht]; exact Nat.le_refl _) (fun q _ => by rw [ht])) hS1.2.2 hk0 hn0) kk
theorem E_callSx {mc0 ms0 : Nat} {Q0 : Option Value → AW → Prop} {X0 : String → AW → Prop} {y : MethodName} {bytes : ByteArray} {maxL nA d mc ms idx : Nat} {rt : Option FieldType} {As : List Value} (hC : Ct l y (.code y bytes maxL rt) d mc ms As w Q X)
    (hcw : CwE own idx y bytes maxL rt nA) (hin : Wd (.static y)) (hA : As.length = nA) (hR : RoomOk R d mc ms maxL k n) (hst : (st.map fun v => v.category).sum ≤ 8)
    (hd : decode cc pc = .ok (.invokestatic idx, 3)) (hht : hh = []) (hk0 : k + mc ≤ mc0) (hn0 : n + ms ≤ ms0) (hX : ∀ En w', X En w' → X0 En w') {st0 : List Value} (hst0 : As.reverse ++ st = st0)
    (kk : ∀ (rv : Option Value) (w' : AW), Q rv w' → E l own cc nL ret ini hh R w0 (TgM w0 mc0 ms0 Q0 X0) (k + mc) (n + ms) (pc + 3) lv (rv.toList ++ st) w') : E l own cc nL ret ini hh R w0 (TgM w0 mc0 ms0 Q0 X0) k n pc lv st0 w := by
  subst hst0
  intro p e s m args below meth c g ad H locs ls hc hP hD hS hl
  have hcs := hc.2.2.2.2.2.2.2.2.2.1
  have hrun := vx_runS (args := args) (Ts := []) (As := As.map (cV ad)) (rest := st.map (cV ad)) (g := F0 m pc ls ((As.reverse ++ st).map (cV ad))) (e := e) (below := below) (meth := meth) (H := H) (locs := locs) (cells := k) (slots := n) (nL := nL) ⟨hc.1, hc.2.1, hc.2.2.1, hc.2.2.2.2.1, fun _ h => nomatch h⟩ (hC g ad H.size) ⟨hcw.callB hcs hR, hcs.1.use hin⟩
    ⟨PcE_blind, PcE_at (As := As) hcs hc.2.2.2.2.2.2.2.2.2.2 hP hD hS (fun q h => Or.inr h)⟩ rfl (by simpa using hA) hl.1 (by simp [List.map_append, List.map_reverse]) (lv_room (by rw [cV_sum]; exact hst)) hd ⟨hR.2.2.1, hR.2.2.2⟩
  exact RunE_go (w0 := w0) (st := st) (lv := lv) hrun hc hD hS hl (fun En w' ce q9 H1 locs1 h hP1 hD1 hS1 hce hcv hcl => vx_out (fun x hx => by rw [hc.2.2.2.2.2.2.2.1, hht] at hx; cases hx) hc.2.2.2.2.2.1 hce hcv hcl (fun t ht _ => XcE_of (hX En w' h) hP1 hD1 hS1 t (by rw [ht]; exact Nat.le_refl _) (fun q _ => by rw [ht])) hS1.2.2 hk0 hn0) kk

/-- a callee that throws nothing -/
theorem vx_to {l : Launch} {y : MethodName} {ws : List Cond} {rm : Room} {Pc : Array Value → State → Prop} {Qc : Array Value → State → Outcome → State → Prop} {XC : String → State → State → Prop} {mc ms : Nat} {free : Addr → Prop} (h : vx_Met l y ws rm Pc Qc XC mc ms free) (hX : ∀ En s t, XC En s t → False) : Met l y ws rm Pc Qc mc ms free := by
  refine MetFree.mono (P' := Pc) h (fun _ _ h => h) (fun _ _ _ _ _ h => h) (fun a s o t _ hq => ?_)
  rcases hq with hq | ⟨q, ho, En, ce, L, hx, -⟩
  · exact hq
  · exact (hX _ _ _ hx).elim
/-- the words of a private static method of the nest that is called -/
def CwN (own : String) (idx : Nat) (y : MethodName) (host : String) (bytes : ByteArray) (maxL : Nat) (rt : Option FieldType) (nA : Nat) : Prop :=
  Wd (.methodLinkNest own idx y host) ∧ Wd (.code y bytes maxL rt) ∧ Wd (.initialized y.cls) ∧ (y.cls ≠ "java/lang/invoke/MethodHandle" ∧ y.cls ≠ "java/lang/invoke/VarHandle") ∧ (parseMethodDescriptor y.desc).map (fun d => d.parameters.length) = some nA
theorem E_callSN {y : MethodName} {host : String} {bytes : ByteArray} {maxL nA d mc ms idx : Nat} {rt : Option FieldType} {As : List Value} (hC : Ct l y (.code y bytes maxL rt) d mc ms As w Q X)
    (hcw : CwN own idx y host bytes maxL rt nA) (hin : Wd (.static y)) (hA : As.length = nA) (hR : RoomOk R d mc ms maxL k n) (hst : (st.map fun v => v.category).sum ≤ 8)
    (hd : decode cc pc = .ok (.invokestatic idx, 3)) (hX : ∀ En w', X En w' → False) {st0 : List Value} (hst0 : As.reverse ++ st = st0)
    (kk : ∀ (rv : Option Value) (w' : AW), Q rv w' → E l own cc nL ret ini hh R w0 Tg (k + mc) (n + ms) (pc + 3) lv (rv.toList ++ st) w') : E l own cc nL ret ini hh R w0 Tg k n pc lv st0 w := by
  subst hst0
  intro p e s m args below meth c g ad H locs ls hc hP hD hS hl
  have hcs := hc.2.2.2.2.2.2.2.2.2.1
  obtain ⟨h1, h2, h3, h4, h5⟩ := hcw
  have hrun := va_runSN (args := args) (Ts := []) (host := host) (n := nA) (bytes := bytes) (maxL := maxL) (ret := rt) (index := idx) (As := As.map (cV ad)) (rest := st.map (cV ad)) (g := F0 m pc ls ((As.reverse ++ st).map (cV ad))) (e := e) (below := below) (meth := meth) (H := H) (locs := locs) (cells := k) (slots := n) (nL := nL) (own := own) ⟨hc.1, hc.2.1, hc.2.2.1, hc.2.2.2.2.1, fun _ h => nomatch h⟩ (vx_to (hC g ad H.size) (fun En s t h => by obtain ⟨⟨w', hx, -⟩, -⟩ := h; exact hX En w' hx))
    ⟨⟨⟨rfl, rfl, hR.1, hR.2.1, fun w hw a' U hW => by rw [List.mem_singleton.mp hw]; exact (hcs.1.move hW).use h2, List.mem_singleton.mpr rfl⟩, hcs.1.use h2, hcs.1.use h3, h4, fun sig hs => by rw [hs] at h5; exact (Option.some.inj h5).symm, hcs.1.use h1⟩, hcs.1.use hin, trivial⟩
    ⟨PcE_blind, PcE_at (As := As) hcs hc.2.2.2.2.2.2.2.2.2.2 hP hD hS (fun q h => Or.inr h)⟩ rfl (by simpa using hA) hl.1 (by simp [List.map_append, List.map_reverse]) (lv_room (by rw [cV_sum]; exact hst)) hd ⟨hR.2.2.1, hR.2.2.2⟩
  refine RunE_go (w0 := w0) (st := st) (lv := lv) (Q := Q) (X := X) (mc := mc) (ms := ms) ?_ hc hD hS hl (fun En w' _ _ _ _ h => (hX En w' h).elim) kk
  intro T hT X9
  obtain ⟨v, st₀, t, T', L, q1, q2, q3, q4, q5, q6, q7⟩ := hrun T hT X9
  exact Or.inl ⟨v, st₀, t, T', L, q1, q2, q3, q4, q5, q6, q7⟩
end calls
end EC
