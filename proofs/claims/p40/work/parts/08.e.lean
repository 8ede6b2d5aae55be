/-! THE E LAYER: a method's frame over an abstract world (a list of cells; a reference is a place in that list). -/
section EL
abbrev AW : Type := List va_E
abbrev Gx : Type := va_G × (Nat → ClassId)
def mvW : Cond → Bool
  | .fieldLinkNest .. => true
  | .methodLinkNest .. => true
  | .castable .. => true
  | .declares .. => true
  | w => goodWord w
theorem mvW_move {w : Cond} (hm : mvW w = true) {args args' : Array Value} {s U : State} (hW : s.WarmedH U.vm) (h : w.before args s = true) : w.before args' U = true := by
  cases w with
  | fieldLinkNest a i b n d h9 => exact va_Nw.use rfl (va_Nw.warmF hW (va_Nw.of rfl h))
  | methodLinkNest a i x h9 => exact va_Nw.use rfl (va_Nw.warmM hW (va_Nw.of rfl h))
  | castable a b => exact va_Nw.use rfl (va_Nw.warmC hW (va_Nw.of rfl h))
  | declares x => exact va_Nw.use rfl (va_Nw.warmD hW (va_Nw.of rfl h))
  | _ => exact word_at hW (good_of_word hm) h
/-- a word of the tables that moves -/
def Wd (w : Cond) : Prop := w ∈ lw_tbl ∧ mvW w = true
def Tb (s : State) : Prop := ∀ w ∈ lw_tbl, mvW w = true → w.before #[] s = true
theorem Tb.use {s : State} {w : Cond} (h : Tb s) (hw : Wd w) {args : Array Value} : w.before args s = true := mvW_move hw.2 (State.WarmedH.refl s) (h w hw.1 hw.2)
theorem Tb.move {s U : State} (hW : s.WarmedH U.vm) (h : Tb s) : Tb U := fun w hw hm => mvW_move hm hW (h w hw hm)
def Str (own : String) (k : Nat) (tx : String) : Prop := Cond.stringRef own k tx ∈ tables_1
def SR (s : State) : Prop := ∀ (own : String) (k : Nat) (tx : String), Str own k tx → ∃ a, vk_R own k tx a s
theorem SR.move {s U : State} (hW : s.WarmedH U.vm) (h : SR s) : SR U := fun o k tx hs => (h o k tx hs).elim fun a ha => ⟨a, vk_R.warm hW ha⟩
def ZQ (A : Nat → Prop) (U : State) (H : Heap) : Prop := vx_Zq Bundle.tN "UNASSIGNED_STACK" Bundle.steD A U H ∧ vx_Zq Bundle.tN "SUPPRESSED_SENTINEL" Bundle.listD A U H
def tysG (g : Gx) : List (ClassId × FieldType) := [(g.2 0, .int), (g.2 1, .long), (g.2 2, .object "ChannelSpacer$Desk")]
def CS (g : Gx) (s : State) : Prop := Tb s ∧ SR s ∧ va_AO "ChannelSpacer$Desk" s ∧ va_K g.1 vwCl (tysG g) s
theorem CS.move {g : Gx} {s U : State} (hW : s.WarmedH U.vm) (h : CS g s) : CS g U := ⟨h.1.move hW, h.2.1.move hW, h.2.2.1.moved hW.alike, h.2.2.2.moved hW.alike⟩
/-- abstract values and cells, at addresses -/
def cV (ad : Nat → Nat) : Value → Value
  | .ref i => .ref (ad i)
  | v => v
def cE (g : Gx) (ad : Nat → Nat) : va_E → va_E
  | .inr (ci, fs) => .inr (ci, fs.map (cV ad))
  | .inl (t, n, .inr (.inr (.inr (.inr f)))) => .inl (g.2 t, n, .inr (.inr (.inr (.inr (fun j => (f j).map ad)))))
  | .inl (t, n, f) => .inl (g.2 t, n, f)
def cW (g : Gx) (ad : Nat → Nat) (w : AW) : va_W := w.mapIdx (fun i e => (ad i, cE g ad e))
def cL (ad : Nat → Nat) (lv : List (Nat × Value)) : List (Nat × Value) := lv.map (fun q => (q.1, cV ad q.2))
theorem cW_at {g : Gx} {ad : Nat → Nat} {w : AW} {i : Nat} {e : va_E} (h : w[i]? = some e) : (cW g ad w)[i]? = some (ad i, cE g ad e) := by
  simp [cW, List.getElem?_mapIdx, h]
theorem cW_set {g : Gx} {ad : Nat → Nat} {w : AW} {i : Nat} {e : va_E} : (cW g ad w).set i (ad i, cE g ad e) = cW g ad (w.set i e) := by
  apply List.ext_getElem?
  intro k
  simp only [cW, List.getElem?_mapIdx, List.getElem?_set, List.length_mapIdx]
  by_cases h : i = k
  · subst h
    by_cases h2 : i < w.length <;> simp [h2]
  · simp [h]
theorem cE_set {g : Gx} {ad : Nat → Nat} {ci : Nat} {fs : List Value} {k : Nat} {v : Value} : (Sum.inr (ci, (fs.map (cV ad)).set k (cV ad v)) : va_E) = cE g ad (.inr (ci, fs.set k v)) := by
  simp [cE, List.map_set]
theorem cL_at {ad : Nat → Nat} {lv : List (Nat × Value)} {k i : Nat} {v : Value} (h : lv[k]? = some (i, v)) : (cL ad lv)[k]? = some (i, cV ad v) := by simp [cL, h]
theorem cV_cat (ad : Nat → Nat) (v : Value) : (cV ad v).category = v.category := by cases v <;> rfl
theorem cV_sum (ad : Nat → Nat) (st : List Value) : ((st.map (cV ad)).map fun v => v.category).sum = (st.map fun v => v.category).sum := by
  simp [List.map_map, Function.comp_def, cV_cat]
/-- the locals behind a store, as a filtered list -/
def lst1 (i : Nat) (v : Value) (lv : List (Nat × Value)) : List (Nat × Value) := (i, v) :: lv.filter (fun q => !(q.1 == i) && !(q.1 + 1 == i && q.2.category == 2))
def lst2 (i : Nat) (v : Value) (lv : List (Nat × Value)) : List (Nat × Value) := (i, v) :: lv.filter (fun q => !(q.1 == i) && (!(q.1 == i + 1) && !(q.1 + 1 == i && q.2.category == 2)))
theorem cL_filter (ad : Nat → Nat) (P : Nat → Nat → Bool) (lv : List (Nat × Value)) : (cL ad lv).filter (fun q => P q.1 q.2.category) = cL ad (lv.filter (fun q => P q.1 q.2.category)) := by
  simp only [cL, List.filter_map]
  congr 1
  apply List.filter_congr
  intro q _
  simp [Function.comp, cV_cat]
theorem cL_lst1 (ad : Nat → Nat) (i : Nat) (v : Value) (lv : List (Nat × Value)) : lst1 i (cV ad v) (cL ad lv) = cL ad (lst1 i v lv) := by
  have h := cL_filter ad (fun a c => !(a == i) && !(a + 1 == i && c == 2)) lv
  unfold lst1
  rw [h]
  rfl
theorem cL_lst2 (ad : Nat → Nat) (i : Nat) (v : Value) (lv : List (Nat × Value)) : lst2 i (cV ad v) (cL ad lv) = cL ad (lst2 i v lv) := by
  have h := cL_filter ad (fun a c => !(a == i) && (!(a == i + 1) && !(a + 1 == i && c == 2))) lv
  unfold lst2
  rw [h]
  rfl
theorem cL_pick (ad : Nat → Nat) (lv : List (Nat × Value)) (ks : List Nat) : lv_pick (cL ad lv) ks = cL ad (lv_pick lv ks) := by
  simp only [lv_pick, cL]
  induction ks with
  | nil => rfl
  | cons a ks ih =>
    simp only [List.getElem?_map] at ih
    simp only [List.filterMap_cons, List.getElem?_map]
    cases h : lv[a]? with
    | none => simp [ih]
    | some q => simp [ih]
/-- rooms by depth -/
def rmE (d mc ms : Nat) : Room := { frames := d + 6, cells := mc, slots := ms, locals := 60 * d + 100 }
def PcE (g : Gx) (ad : Nat → Nat) (sz : Nat) (As : List Value) (w : AW) : Array Value → State → Prop := fun a U =>
  a = (As.map (cV ad)).toArray ∧ U.heap.size = sz ∧ CS g U ∧ va_P g.1 vwCl (cW g ad w) U.heap ∧ va_D (fun _ => True) (cW g ad w) ∧ ZQ (va_A (cW g ad w) sz) U U.heap
def QcE (g : Gx) (ad : Nat → Nat) (sz : Nat) (w : AW) (Q : Option Value → AW → Prop) : Array Value → State → Outcome → State → Prop := fun _ s o t =>
  (∃ (rv : Option Value) (w' : AW), o = .returned (rv.map (cV ad)) ∧ Q rv w' ∧ va_P g.1 vwCl (cW g ad w') t.heap ∧ va_D (va_A (cW g ad w) sz) (cW g ad w')) ∧ va_F (va_A (cW g ad w) sz) s t
def XcE (g : Gx) (ad : Nat → Nat) (sz : Nat) (w : AW) (X : String → AW → Prop) : String → State → State → Prop := fun E s t =>
  (∃ w' : AW, X E w' ∧ va_P g.1 vwCl (cW g ad w') t.heap ∧ va_D (va_A (cW g ad w) sz) (cW g ad w')) ∧ va_F (va_A (cW g ad w) sz) s t
/-- a method's contract, in place words -/
def Ct (l : Launch) (y : MethodName) (cw : Cond) (d mc ms : Nat) (As : List Value) (w : AW) (Q : Option Value → AW → Prop) (X : String → AW → Prop) : Prop :=
  ∀ (g : Gx) (ad : Nat → Nat) (sz : Nat), vx_Met l y [cw] (rmE d mc ms) (PcE g ad sz As w) (QcE g ad sz w Q) (XcE g ad sz w X) mc ms (va_A (cW g ad w) sz)
def Cx (p : Program) (l : Launch) (s : State) (m : MethodId) (meth : Method) (c : Code) (own : String) (cc : ByteArray) (nL : Nat) (ret : Option FieldType) (ini : Bool) (hh : List ExceptionTableEntry) (g : Gx) (A : Nat → Prop) : Prop :=
  p.tables.exec = Jvm.exec ∧ c.code = cc ∧ c.maxLocals = nL ∧ meth.sig.returnType = ret ∧ s.vm.findClass own = some m.cls ∧ meth.locks = false ∧ (ini = true → meth.name = "<init>") ∧ c.exceptionTable.toList = hh ∧ l.stackTraces = false ∧ CS g s ∧ ZQ A s s.heap
abbrev TgT : Type := List Frame → Array Value → State → Gx → (Nat → Nat) → State → Prop
def E (l : Launch) (own : String) (cc : ByteArray) (nL : Nat) (ret : Option FieldType) (ini : Bool) (hh : List ExceptionTableEntry) (R : Room) (w0 : AW) (Tg : TgT) (k n pc : Nat) (lv : List (Nat × Value)) (st : List Value) (w : AW) : Prop :=
  ∀ (p : Program) (e : Env) (s : State) (m : MethodId) (args : Array Value) (below : List Frame) (meth : Method) (c : Code) (g : Gx) (ad : Nat → Nat) (H : Heap) (locs : List Loc) (ls : Array Slot),
    Cx p l s m meth c own cc nL ret ini hh g (va_A (cW g ad w0) s.heap.size) → va_P g.1 vwCl (cW g ad w) H → va_D (va_A (cW g ad w0) s.heap.size) (cW g ad w) → va_S (va_A (cW g ad w0) s.heap.size) s.heap H locs → lv_has ls nL (cL ad lv) →
    W p l e R s m args below meth c H locs k n (Tg below args s g ad) (F0 m pc ls (st.map (cV ad)))
def TgM (w0 : AW) (mc ms : Nat) (Q : Option Value → AW → Prop) (X : String → AW → Prop) : TgT := fun below args s g ad =>
  vx_MQ below (QcE g ad s.heap.size w0 Q) (XcE g ad s.heap.size w0 X) args s mc ms (va_A (cW g ad w0) s.heap.size)
section rows
variable {l : Launch} {own : String} {cc : ByteArray} {nL : Nat} {ret : Option FieldType} {ini : Bool} {hh : List ExceptionTableEntry} {R : Room} {w0 : AW} {Tg : TgT} {k n pc : Nat} {lv : List (Nat × Value)} {st : List Value} {w : AW}

theorem E_iadd {x y : Int32} (hd : decode cc pc = .ok (.iadd, 1))
    (kk : E l own cc nL ret ini hh R w0 Tg k n (pc + 1) lv (.int (x + y) :: st) w) : E l own cc nL ret ini hh R w0 Tg k n pc lv (.int y :: .int x :: st) w := by
  intro p e s m args below meth c g ad H locs ls hc hP hD hS hl
  exact lv_iadd hc.1 hc.2.1 hd (kk p e s m args below meth c g ad H locs ls hc hP hD hS hl)
theorem E_isub {x y : Int32} (hd : decode cc pc = .ok (.isub, 1))
    (kk : E l own cc nL ret ini hh R w0 Tg k n (pc + 1) lv (.int (x - y) :: st) w) : E l own cc nL ret ini hh R w0 Tg k n pc lv (.int y :: .int x :: st) w := by
  intro p e s m args below meth c g ad H locs ls hc hP hD hS hl
  exact lv_isub hc.1 hc.2.1 hd (kk p e s m args below meth c g ad H locs ls hc hP hD hS hl)
theorem E_imul {x y : Int32} (hd : decode cc pc = .ok (.imul, 1))
    (kk : E l own cc nL ret ini hh R w0 Tg k n (pc + 1) lv (.int (x * y) :: st) w) : E l own cc nL ret ini hh R w0 Tg k n pc lv (.int y :: .int x :: st) w := by
  intro p e s m args below meth c g ad H locs ls hc hP hD hS hl
  exact lv_imul hc.1 hc.2.1 hd (kk p e s m args below meth c g ad H locs ls hc hP hD hS hl)
theorem E_iand {x y : Int32} (hd : decode cc pc = .ok (.iand, 1))
    (kk : E l own cc nL ret ini hh R w0 Tg k n (pc + 1) lv (.int (x &&& y) :: st) w) : E l own cc nL ret ini hh R w0 Tg k n pc lv (.int y :: .int x :: st) w := by
  intro p e s m args below meth c g ad H locs ls hc hP hD hS hl
  exact lv_iand hc.1 hc.2.1 hd (kk p e s m args below meth c g ad H locs ls hc hP hD hS hl)
theorem E_ior {x y : Int32} (hd : decode cc pc = .ok (.ior, 1))
    (kk : E l own cc nL ret ini hh R w0 Tg k n (pc + 1) lv (.int (x ||| y) :: st) w) : E l own cc nL ret ini hh R w0 Tg k n pc lv (.int y :: .int x :: st) w := by
  intro p e s m args below meth c g ad H locs ls hc hP hD hS hl
  exact lv_ior hc.1 hc.2.1 hd (kk p e s m args below meth c g ad H locs ls hc hP hD hS hl)
theorem E_ixor {x y : Int32} (hd : decode cc pc = .ok (.ixor, 1))
    (kk : E l own cc nL ret ini hh R w0 Tg k n (pc + 1) lv (.int (x ^^^ y) :: st) w) : E l own cc nL ret ini hh R w0 Tg k n pc lv (.int y :: .int x :: st) w := by
  intro p e s m args below meth c g ad H locs ls hc hP hD hS hl
  exact lv_ixor hc.1 hc.2.1 hd (kk p e s m args below meth c g ad H locs ls hc hP hD hS hl)
theorem E_ishl {x y : Int32} (hd : decode cc pc = .ok (.ishl, 1))
    (kk : E l own cc nL ret ini hh R w0 Tg k n (pc + 1) lv (.int (x <<< (y &&& 31)) :: st) w) : E l own cc nL ret ini hh R w0 Tg k n pc lv (.int y :: .int x :: st) w := by
  intro p e s m args below meth c g ad H locs ls hc hP hD hS hl
  exact lv_ishl hc.1 hc.2.1 hd (kk p e s m args below meth c g ad H locs ls hc hP hD hS hl)
theorem E_ishr {x y : Int32} (hd : decode cc pc = .ok (.ishr, 1))
    (kk : E l own cc nL ret ini hh R w0 Tg k n (pc + 1) lv (.int (x >>> (y &&& 31)) :: st) w) : E l own cc nL ret ini hh R w0 Tg k n pc lv (.int y :: .int x :: st) w := by
  intro p e s m args below meth c g ad H locs ls hc hP hD hS hl
  exact lv_ishr hc.1 hc.2.1 hd (kk p e s m args below meth c g ad H locs ls hc hP hD hS hl)
theorem E_ladd {x y : Int64} (hd : decode cc pc = .ok (.ladd, 1))
    (kk : E l own cc nL ret ini hh R w0 Tg k n (pc + 1) lv (.long (x + y) :: st) w) : E l own cc nL ret ini hh R w0 Tg k n pc lv (.long y :: .long x :: st) w := by
  intro p e s m args below meth c g ad H locs ls hc hP hD hS hl
  exact lv_ladd hc.1 hc.2.1 hd (kk p e s m args below meth c g ad H locs ls hc hP hD hS hl)
theorem E_lsub {x y : Int64} (hd : decode cc pc = .ok (.lsub, 1))
    (kk : E l own cc nL ret ini hh R w0 Tg k n (pc + 1) lv (.long (x - y) :: st) w) : E l own cc nL ret ini hh R w0 Tg k n pc lv (.long y :: .long x :: st) w := by
  intro p e s m args below meth c g ad H locs ls hc hP hD hS hl
  exact lv_lsub hc.1 hc.2.1 hd (kk p e s m args below meth c g ad H locs ls hc hP hD hS hl)
theorem E_lmul {x y : Int64} (hd : decode cc pc = .ok (.lmul, 1))
    (kk : E l own cc nL ret ini hh R w0 Tg k n (pc + 1) lv (.long (x * y) :: st) w) : E l own cc nL ret ini hh R w0 Tg k n pc lv (.long y :: .long x :: st) w := by
  intro p e s m args below meth c g ad H locs ls hc hP hD hS hl
  exact lv_lmul hc.1 hc.2.1 hd (kk p e s m args below meth c g ad H locs ls hc hP hD hS hl)
theorem E_land {x y : Int64} (hd : decode cc pc = .ok (.land, 1))
    (kk : E l own cc nL ret ini hh R w0 Tg k n (pc + 1) lv (.long (x &&& y) :: st) w) : E l own cc nL ret ini hh R w0 Tg k n pc lv (.long y :: .long x :: st) w := by
  intro p e s m args below meth c g ad H locs ls hc hP hD hS hl
  exact lv_land hc.1 hc.2.1 hd (kk p e s m args below meth c g ad H locs ls hc hP hD hS hl)
theorem E_lor {x y : Int64} (hd : decode cc pc = .ok (.lor, 1))
    (kk : E l own cc nL ret ini hh R w0 Tg k n (pc + 1) lv (.long (x ||| y) :: st) w) : E l own cc nL ret ini hh R w0 Tg k n pc lv (.long y :: .long x :: st) w := by
  intro p e s m args below meth c g ad H locs ls hc hP hD hS hl
  exact lv_lor hc.1 hc.2.1 hd (kk p e s m args below meth c g ad H locs ls hc hP hD hS hl)
theorem E_ineg {x : Int32} (hd : decode cc pc = .ok (.ineg, 1))
    (kk : E l own cc nL ret ini hh R w0 Tg k n (pc + 1) lv (.int (0 - x) :: st) w) : E l own cc nL ret ini hh R w0 Tg k n pc lv (.int x :: st) w := by
  intro p e s m args below meth c g ad H locs ls hc hP hD hS hl
  exact lv_ineg hc.1 hc.2.1 hd (kk p e s m args below meth c g ad H locs ls hc hP hD hS hl)
theorem E_iushr {x y : Int32} (hd : decode cc pc = .ok (.iushr, 1))
    (kk : E l own cc nL ret ini hh R w0 Tg k n (pc + 1) lv (.int ((x.toUInt32 >>> (y.toUInt32 &&& Int32.toUInt32 31)).toInt32) :: st) w) : E l own cc nL ret ini hh R w0 Tg k n pc lv (.int y :: .int x :: st) w := by
  intro p e s m args below meth c g ad H locs ls hc hP hD hS hl
  exact lv_iushr hc.1 hc.2.1 hd rfl (kk p e s m args below meth c g ad H locs ls hc hP hD hS hl)
theorem E_lushr {x : Int64} {y : Int32} (hd : decode cc pc = .ok (.lushr, 1))
    (kk : E l own cc nL ret ini hh R w0 Tg k n (pc + 1) lv (.long ((x.toUInt64 >>> (y.toInt64.toUInt64 &&& Int64.toUInt64 63)).toInt64) :: st) w) : E l own cc nL ret ini hh R w0 Tg k n pc lv (.int y :: .long x :: st) w := by
  intro p e s m args below meth c g ad H locs ls hc hP hD hS hl
  exact lv_lushr hc.1 hc.2.1 hd rfl (kk p e s m args below meth c g ad H locs ls hc hP hD hS hl)
theorem E_lshl {x : Int64} {y : Int32} (hd : decode cc pc = .ok (.lshl, 1))
    (kk : E l own cc nL ret ini hh R w0 Tg k n (pc + 1) lv (.long (x <<< (y.toInt64 &&& 63)) :: st) w) : E l own cc nL ret ini hh R w0 Tg k n pc lv (.int y :: .long x :: st) w := by
  intro p e s m args below meth c g ad H locs ls hc hP hD hS hl
  exact lv_lshl hc.1 hc.2.1 hd rfl (kk p e s m args below meth c g ad H locs ls hc hP hD hS hl)
theorem E_lshr {x : Int64} {y : Int32} (hd : decode cc pc = .ok (.lshr, 1))
    (kk : E l own cc nL ret ini hh R w0 Tg k n (pc + 1) lv (.long (x >>> (y.toInt64 &&& 63)) :: st) w) : E l own cc nL ret ini hh R w0 Tg k n pc lv (.int y :: .long x :: st) w := by
  intro p e s m args below meth c g ad H locs ls hc hP hD hS hl
  exact lv_lshr hc.1 hc.2.1 hd rfl (kk p e s m args below meth c g ad H locs ls hc hP hD hS hl)
theorem E_i2l {x : Int32} (hd : decode cc pc = .ok (.i2l, 1))
    (kk : E l own cc nL ret ini hh R w0 Tg k n (pc + 1) lv (.long x.toInt64 :: st) w) : E l own cc nL ret ini hh R w0 Tg k n pc lv (.int x :: st) w := by
  intro p e s m args below meth c g ad H locs ls hc hP hD hS hl
  exact lv_i2l hc.1 hc.2.1 hd rfl (kk p e s m args below meth c g ad H locs ls hc hP hD hS hl)
theorem E_lcmp {x y : Int64} (hd : decode cc pc = .ok (.lcmp, 1))
    (kk : E l own cc nL ret ini hh R w0 Tg k n (pc + 1) lv (.int (lg_cmp x y) :: st) w) : E l own cc nL ret ini hh R w0 Tg k n pc lv (.long y :: .long x :: st) w := by
  intro p e s m args below meth c g ad H locs ls hc hP hD hS hl
  exact W.lcmp hc.1 hc.2.1 hd (kk p e s m args below meth c g ad H locs ls hc hP hD hS hl)
theorem E_iconst {i : Int} (v : Int32) (hv : Int32.ofInt i = v) (hd : decode cc pc = .ok (.iconst i, 1))
    (kk : E l own cc nL ret ini hh R w0 Tg k n (pc + 1) lv (.int v :: st) w) : E l own cc nL ret ini hh R w0 Tg k n pc lv (st) w := by
  intro p e s m args below meth c g ad H locs ls hc hP hD hS hl
  exact lv_iconst hc.1 hc.2.1 hd hv (kk p e s m args below meth c g ad H locs ls hc hP hD hS hl)
theorem E_bipush {i : Int} (v : Int32) (hv : (Int8.ofInt i).toInt32 = v) (hd : decode cc pc = .ok (.bipush i, 2))
    (kk : E l own cc nL ret ini hh R w0 Tg k n (pc + 2) lv (.int v :: st) w) : E l own cc nL ret ini hh R w0 Tg k n pc lv (st) w := by
  intro p e s m args below meth c g ad H locs ls hc hP hD hS hl
  exact lv_bipush hc.1 hc.2.1 hd hv (kk p e s m args below meth c g ad H locs ls hc hP hD hS hl)
theorem E_sipush {i : Int} (v : Int32) (hv : (Int16.ofInt i).toInt32 = v) (hd : decode cc pc = .ok (.sipush i, 3))
    (kk : E l own cc nL ret ini hh R w0 Tg k n (pc + 3) lv (.int v :: st) w) : E l own cc nL ret ini hh R w0 Tg k n pc lv (st) w := by
  intro p e s m args below meth c g ad H locs ls hc hP hD hS hl
  exact lv_sipush hc.1 hc.2.1 hd hv (kk p e s m args below meth c g ad H locs ls hc hP hD hS hl)
theorem E_lconst {i : Fin 2} (v : Int64) (hv : Int64.ofNat (i : Nat) = v) (hd : decode cc pc = .ok (.lconst i, 1))
    (kk : E l own cc nL ret ini hh R w0 Tg k n (pc + 1) lv (.long v :: st) w) : E l own cc nL ret ini hh R w0 Tg k n pc lv (st) w := by
  intro p e s m args below meth c g ad H locs ls hc hP hD hS hl
  exact lv_lconst hc.1 hc.2.1 hd hv (kk p e s m args below meth c g ad H locs ls hc hP hD hS hl)
theorem E_null  (hd : decode cc pc = .ok (.aconst_null, 1))
    (kk : E l own cc nL ret ini hh R w0 Tg k n (pc + 1) lv (.null :: st) w) : E l own cc nL ret ini hh R w0 Tg k n pc lv (st) w := by
  intro p e s m args below meth c g ad H locs ls hc hP hD hS hl
  exact lv_null hc.1 hc.2.1 hd (kk p e s m args below meth c g ad H locs ls hc hP hD hS hl)
theorem E_dup {v : Value} (hv : v.category = 1) (hd : decode cc pc = .ok (.dup, 1))
    (kk : E l own cc nL ret ini hh R w0 Tg k n (pc + 1) lv (v :: v :: st) w) : E l own cc nL ret ini hh R w0 Tg k n pc lv (v :: st) w := by
  intro p e s m args below meth c g ad H locs ls hc hP hD hS hl
  exact lv_dup hc.1 hc.2.1 hd ((cV_cat ad v).trans hv) (kk p e s m args below meth c g ad H locs ls hc hP hD hS hl)
theorem E_pop {v : Value} (hv : v.category = 1) (hd : decode cc pc = .ok (.pop, 1))
    (kk : E l own cc nL ret ini hh R w0 Tg k n (pc + 1) lv st w) : E l own cc nL ret ini hh R w0 Tg k n pc lv (v :: st) w := by
  intro p e s m args below meth c g ad H locs ls hc hP hD hS hl
  exact lv_pop hc.1 hc.2.1 hd ((cV_cat ad v).trans hv) (kk p e s m args below meth c g ad H locs ls hc hP hD hS hl)
theorem E_dup2 {v u : Value} (hv : v.category = 1) (hu : u.category = 1) (hd : decode cc pc = .ok (.dup2, 1))
    (kk : E l own cc nL ret ini hh R w0 Tg k n (pc + 1) lv (v :: u :: v :: u :: st) w) : E l own cc nL ret ini hh R w0 Tg k n pc lv (v :: u :: st) w := by
  intro p e s m args below meth c g ad H locs ls hc hP hD hS hl
  exact lv_dup2_11 hc.1 hc.2.1 hd ((cV_cat ad v).trans hv) ((cV_cat ad u).trans hu) (kk p e s m args below meth c g ad H locs ls hc hP hD hS hl)
theorem E_goto {off : Int} (tgt : Nat) (hd : decode cc pc = .ok (.goto off, 3)) (ht : (pc : Int) + off = (tgt : Int))
    (kk : E l own cc nL ret ini hh R w0 Tg k n tgt lv st w) : E l own cc nL ret ini hh R w0 Tg k n pc lv st w := by
  intro p e s m args below meth c g ad H locs ls hc hP hD hS hl
  exact lv_goto hc.1 hc.2.1 hd ht (kk p e s m args below meth c g ad H locs ls hc hP hD hS hl)
theorem E_iload_n {q : Fin 4} {i : Nat} {x : Int32} (j : Nat) (hd : decode cc pc = .ok (.iload_n q, 1)) (hi : (q : Nat) = i) (hj : lv[j]? = some (i, .int x))
    (kk : E l own cc nL ret ini hh R w0 Tg k n (pc + 1) lv (.int x :: st) w) : E l own cc nL ret ini hh R w0 Tg k n pc lv st w := by
  intro p e s m args below meth c g ad H locs ls hc hP hD hS hl
  exact lv_iload_n hc.1 hc.2.1 hd hi (lv_at hl j (cL_at hj)) (kk p e s m args below meth c g ad H locs ls hc hP hD hS hl)
theorem E_iload {i : Nat} {x : Int32} (j : Nat) (hd : decode cc pc = .ok (.iload i, 2)) (hj : lv[j]? = some (i, .int x))
    (kk : E l own cc nL ret ini hh R w0 Tg k n (pc + 2) lv (.int x :: st) w) : E l own cc nL ret ini hh R w0 Tg k n pc lv st w := by
  intro p e s m args below meth c g ad H locs ls hc hP hD hS hl
  exact lv_iload hc.1 hc.2.1 hd (lv_at hl j (cL_at hj)) (kk p e s m args below meth c g ad H locs ls hc hP hD hS hl)
theorem E_lload_n {q : Fin 4} {i : Nat} {x : Int64} (j : Nat) (hd : decode cc pc = .ok (.lload_n q, 1)) (hi : (q : Nat) = i) (hj : lv[j]? = some (i, .long x))
    (kk : E l own cc nL ret ini hh R w0 Tg k n (pc + 1) lv (.long x :: st) w) : E l own cc nL ret ini hh R w0 Tg k n pc lv st w := by
  intro p e s m args below meth c g ad H locs ls hc hP hD hS hl
  exact lv_lload_n hc.1 hc.2.1 hd hi (lv_at hl j (cL_at hj)) (kk p e s m args below meth c g ad H locs ls hc hP hD hS hl)
theorem E_lload {i : Nat} {x : Int64} (j : Nat) (hd : decode cc pc = .ok (.lload i, 2)) (hj : lv[j]? = some (i, .long x))
    (kk : E l own cc nL ret ini hh R w0 Tg k n (pc + 2) lv (.long x :: st) w) : E l own cc nL ret ini hh R w0 Tg k n pc lv st w := by
  intro p e s m args below meth c g ad H locs ls hc hP hD hS hl
  exact lv_lload hc.1 hc.2.1 hd (lv_at hl j (cL_at hj)) (kk p e s m args below meth c g ad H locs ls hc hP hD hS hl)
theorem E_aload_n {q : Fin 4} {i : Nat} {x : Nat} (j : Nat) (hd : decode cc pc = .ok (.aload_n q, 1)) (hi : (q : Nat) = i) (hj : lv[j]? = some (i, .ref x))
    (kk : E l own cc nL ret ini hh R w0 Tg k n (pc + 1) lv (.ref x :: st) w) : E l own cc nL ret ini hh R w0 Tg k n pc lv st w := by
  intro p e s m args below meth c g ad H locs ls hc hP hD hS hl
  exact lv_aload_n hc.1 hc.2.1 hd hi (lv_at hl j (cL_at hj)) (kk p e s m args below meth c g ad H locs ls hc hP hD hS hl)
theorem E_aload {i : Nat} {x : Nat} (j : Nat) (hd : decode cc pc = .ok (.aload i, 2)) (hj : lv[j]? = some (i, .ref x))
    (kk : E l own cc nL ret ini hh R w0 Tg k n (pc + 2) lv (.ref x :: st) w) : E l own cc nL ret ini hh R w0 Tg k n pc lv st w := by
  intro p e s m args below meth c g ad H locs ls hc hP hD hS hl
  exact lv_aload hc.1 hc.2.1 hd (lv_at hl j (cL_at hj)) (kk p e s m args below meth c g ad H locs ls hc hP hD hS hl)
theorem E_istore_n {q : Fin 4} {i : Nat} {x : Int32} (lv' : List (Nat × Value)) (hd : decode cc pc = .ok (.istore_n q, 1)) (hi : (q : Nat) = i) (hn : i < nL) (hl' : lst1 i (.int x) lv = lv')
    (kk : E l own cc nL ret ini hh R w0 Tg k n (pc + 1) lv' st w) : E l own cc nL ret ini hh R w0 Tg k n pc lv (.int x :: st) w := by
  intro p e s m args below meth c g ad H locs ls hc hP hD hS hl
  exact lv_istore_n hc.1 hc.2.1 hd hi hl hn ((cL_lst1 ad i (.int x) lv).trans (congrArg (cL ad) hl')) (fun ls' hl'' => kk p e s m args below meth c g ad H locs ls' hc hP hD hS hl'')
theorem E_istore {i : Nat} {x : Int32} (lv' : List (Nat × Value)) (hd : decode cc pc = .ok (.istore i, 2)) (hn : i < nL) (hl' : lst1 i (.int x) lv = lv')
    (kk : E l own cc nL ret ini hh R w0 Tg k n (pc + 2) lv' st w) : E l own cc nL ret ini hh R w0 Tg k n pc lv (.int x :: st) w := by
  intro p e s m args below meth c g ad H locs ls hc hP hD hS hl
  exact lv_istore hc.1 hc.2.1 hd hl hn ((cL_lst1 ad i (.int x) lv).trans (congrArg (cL ad) hl')) (fun ls' hl'' => kk p e s m args below meth c g ad H locs ls' hc hP hD hS hl'')
theorem E_lstore_n {q : Fin 4} {i : Nat} {x : Int64} (lv' : List (Nat × Value)) (hd : decode cc pc = .ok (.lstore_n q, 1)) (hi : (q : Nat) = i) (hn : i + 1 < nL) (hl' : lst2 i (.long x) lv = lv')
    (kk : E l own cc nL ret ini hh R w0 Tg k n (pc + 1) lv' st w) : E l own cc nL ret ini hh R w0 Tg k n pc lv (.long x :: st) w := by
  intro p e s m args below meth c g ad H locs ls hc hP hD hS hl
  exact lv_lstore_n hc.1 hc.2.1 hd hi hl hn ((cL_lst2 ad i (.long x) lv).trans (congrArg (cL ad) hl')) (fun ls' hl'' => kk p e s m args below meth c g ad H locs ls' hc hP hD hS hl'')
theorem E_lstore {i : Nat} {x : Int64} (lv' : List (Nat × Value)) (hd : decode cc pc = .ok (.lstore i, 2)) (hn : i + 1 < nL) (hl' : lst2 i (.long x) lv = lv')
    (kk : E l own cc nL ret ini hh R w0 Tg k n (pc + 2) lv' st w) : E l own cc nL ret ini hh R w0 Tg k n pc lv (.long x :: st) w := by
  intro p e s m args below meth c g ad H locs ls hc hP hD hS hl
  exact lv_lstore hc.1 hc.2.1 hd hl hn ((cL_lst2 ad i (.long x) lv).trans (congrArg (cL ad) hl')) (fun ls' hl'' => kk p e s m args below meth c g ad H locs ls' hc hP hD hS hl'')
theorem E_astore_n {q : Fin 4} {i : Nat} {x : Nat} (lv' : List (Nat × Value)) (hd : decode cc pc = .ok (.astore_n q, 1)) (hi : (q : Nat) = i) (hn : i < nL) (hl' : lst1 i (.ref x) lv = lv')
    (kk : E l own cc nL ret ini hh R w0 Tg k n (pc + 1) lv' st w) : E l own cc nL ret ini hh R w0 Tg k n pc lv (.ref x :: st) w := by
  intro p e s m args below meth c g ad H locs ls hc hP hD hS hl
  exact lv_astore_n hc.1 hc.2.1 hd hi hl hn ((cL_lst1 ad i (.ref x) lv).trans (congrArg (cL ad) hl')) (fun ls' hl'' => kk p e s m args below meth c g ad H locs ls' hc hP hD hS hl'')
theorem E_astore {i : Nat} {x : Nat} (lv' : List (Nat × Value)) (hd : decode cc pc = .ok (.astore i, 2)) (hn : i < nL) (hl' : lst1 i (.ref x) lv = lv')
    (kk : E l own cc nL ret ini hh R w0 Tg k n (pc + 2) lv' st w) : E l own cc nL ret ini hh R w0 Tg k n pc lv (.ref x :: st) w := by
  intro p e s m args below meth c g ad H locs ls hc hP hD hS hl
  exact lv_astore hc.1 hc.2.1 hd hl hn ((cL_lst1 ad i (.ref x) lv).trans (congrArg (cL ad) hl')) (fun ls' hl'' => kk p e s m args below meth c g ad H locs ls' hc hP hD hS hl'')
theorem E_iinc {i : Nat} {q : Int} {x : Int32} (j : Nat) (v : Int32) (lv' : List (Nat × Value)) (hd : decode cc pc = .ok (.iinc i q, 3)) (hj : lv[j]? = some (i, .int x)) (hv : x + Int32.ofInt q = v) (hn : i < nL) (hl' : lst1 i (.int v) lv = lv')
    (kk : E l own cc nL ret ini hh R w0 Tg k n (pc + 3) lv' st w) : E l own cc nL ret ini hh R w0 Tg k n pc lv st w := by
  intro p e s m args below meth c g ad H locs ls hc hP hD hS hl
  exact lv_iinc hc.1 hc.2.1 hd hl (cL_at hj) hv hn ((cL_lst1 ad i (.int v) lv).trans (congrArg (cL ad) hl')) (fun ls' hl'' => kk p e s m args below meth c g ad H locs ls' hc hP hD hS hl'')
/-- fewer locals, or in another order -/
theorem E_sub (ks : List Nat) {lv' : List (Nat × Value)} (h : lv_pick lv ks = lv') (kk : E l own cc nL ret ini hh R w0 Tg k n pc lv' st w) : E l own cc nL ret ini hh R w0 Tg k n pc lv st w := by
  intro p e s m args below meth c g ad H locs ls hc hP hD hS hl
  exact kk p e s m args below meth c g ad H locs ls hc hP hD hS (lv_sub hl ks ((cL_pick ad lv ks).trans (congrArg (cL ad) h)))
theorem E_widen {k' n' : Nat} (h1 : k ≤ k') (h2 : n ≤ n') (kk : E l own cc nL ret ini hh R w0 Tg k' n' pc lv st w) : E l own cc nL ret ini hh R w0 Tg k n pc lv st w := by
  intro p e s m args below meth c g ad H locs ls hc hP hD hS hl
  exact W.widen h1 h2 (kk p e s m args below meth c g ad H locs ls hc hP hD hS hl)
theorem E_icmp_eq {x y : Int32} {off : Int} (tgt : Nat) (hd : decode cc pc = .ok (.if_icmp .eq off, 3)) (ht : (pc : Int) + off = (tgt : Int))
    (kt : x = y → E l own cc nL ret ini hh R w0 Tg k n tgt lv st w) (kf : ¬ x = y → E l own cc nL ret ini hh R w0 Tg k n (pc + 3) lv st w) : E l own cc nL ret ini hh R w0 Tg k n pc lv (.int y :: .int x :: st) w := by
  intro p e s m args below meth c g ad H locs ls hc hP hD hS hl
  exact lv_icmp_eq hc.1 hc.2.1 hd ht (fun h => kt h p e s m args below meth c g ad H locs ls hc hP hD hS hl) (fun h => kf h p e s m args below meth c g ad H locs ls hc hP hD hS hl)
theorem E_icmp_ne {x y : Int32} {off : Int} (tgt : Nat) (hd : decode cc pc = .ok (.if_icmp .ne off, 3)) (ht : (pc : Int) + off = (tgt : Int))
    (kt : ¬ x = y → E l own cc nL ret ini hh R w0 Tg k n tgt lv st w) (kf : x = y → E l own cc nL ret ini hh R w0 Tg k n (pc + 3) lv st w) : E l own cc nL ret ini hh R w0 Tg k n pc lv (.int y :: .int x :: st) w := by
  intro p e s m args below meth c g ad H locs ls hc hP hD hS hl
  exact lv_icmp_ne hc.1 hc.2.1 hd ht (fun h => kt h p e s m args below meth c g ad H locs ls hc hP hD hS hl) (fun h => kf h p e s m args below meth c g ad H locs ls hc hP hD hS hl)
theorem E_icmp_lt {x y : Int32} {off : Int} (tgt : Nat) (hd : decode cc pc = .ok (.if_icmp .lt off, 3)) (ht : (pc : Int) + off = (tgt : Int))
    (kt : x < y → E l own cc nL ret ini hh R w0 Tg k n tgt lv st w) (kf : ¬ x < y → E l own cc nL ret ini hh R w0 Tg k n (pc + 3) lv st w) : E l own cc nL ret ini hh R w0 Tg k n pc lv (.int y :: .int x :: st) w := by
  intro p e s m args below meth c g ad H locs ls hc hP hD hS hl
  exact lv_icmp_lt hc.1 hc.2.1 hd ht (fun h => kt h p e s m args below meth c g ad H locs ls hc hP hD hS hl) (fun h => kf h p e s m args below meth c g ad H locs ls hc hP hD hS hl)
theorem E_icmp_ge {x y : Int32} {off : Int} (tgt : Nat) (hd : decode cc pc = .ok (.if_icmp .ge off, 3)) (ht : (pc : Int) + off = (tgt : Int))
    (kt : y ≤ x → E l own cc nL ret ini hh R w0 Tg k n tgt lv st w) (kf : ¬ y ≤ x → E l own cc nL ret ini hh R w0 Tg k n (pc + 3) lv st w) : E l own cc nL ret ini hh R w0 Tg k n pc lv (.int y :: .int x :: st) w := by
  intro p e s m args below meth c g ad H locs ls hc hP hD hS hl
  exact lv_icmp_ge hc.1 hc.2.1 hd ht (fun h => kt h p e s m args below meth c g ad H locs ls hc hP hD hS hl) (fun h => kf h p e s m args below meth c g ad H locs ls hc hP hD hS hl)
theorem E_icmp_gt {x y : Int32} {off : Int} (tgt : Nat) (hd : decode cc pc = .ok (.if_icmp .gt off, 3)) (ht : (pc : Int) + off = (tgt : Int))
    (kt : y < x → E l own cc nL ret ini hh R w0 Tg k n tgt lv st w) (kf : ¬ y < x → E l own cc nL ret ini hh R w0 Tg k n (pc + 3) lv st w) : E l own cc nL ret ini hh R w0 Tg k n pc lv (.int y :: .int x :: st) w := by
  intro p e s m args below meth c g ad H locs ls hc hP hD hS hl
  exact lv_icmp_gt hc.1 hc.2.1 hd ht (fun h => kt h p e s m args below meth c g ad H locs ls hc hP hD hS hl) (fun h => kf h p e s m args below meth c g ad H locs ls hc hP hD hS hl)
theorem E_icmp_le {x y : Int32} {off : Int} (tgt : Nat) (hd : decode cc pc = .ok (.if_icmp .le off, 3)) (ht : (pc : Int) + off = (tgt : Int))
    (kt : x ≤ y → E l own cc nL ret ini hh R w0 Tg k n tgt lv st w) (kf : ¬ x ≤ y → E l own cc nL ret ini hh R w0 Tg k n (pc + 3) lv st w) : E l own cc nL ret ini hh R w0 Tg k n pc lv (.int y :: .int x :: st) w := by
  intro p e s m args below meth c g ad H locs ls hc hP hD hS hl
  exact lv_icmp_le hc.1 hc.2.1 hd ht (fun h => kt h p e s m args below meth c g ad H locs ls hc hP hD hS hl) (fun h => kf h p e s m args below meth c g ad H locs ls hc hP hD hS hl)
theorem E_if_eq {x : Int32} {off : Int} (tgt : Nat) (hd : decode cc pc = .ok (.ifCond .eq off, 3)) (ht : (pc : Int) + off = (tgt : Int))
    (kt : x = 0 → E l own cc nL ret ini hh R w0 Tg k n tgt lv st w) (kf : ¬ x = 0 → E l own cc nL ret ini hh R w0 Tg k n (pc + 3) lv st w) : E l own cc nL ret ini hh R w0 Tg k n pc lv (.int x :: st) w := by
  intro p e s m args below meth c g ad H locs ls hc hP hD hS hl
  exact lv_if_eq hc.1 hc.2.1 hd ht (fun h => kt h p e s m args below meth c g ad H locs ls hc hP hD hS hl) (fun h => kf h p e s m args below meth c g ad H locs ls hc hP hD hS hl)
theorem E_if_ne {x : Int32} {off : Int} (tgt : Nat) (hd : decode cc pc = .ok (.ifCond .ne off, 3)) (ht : (pc : Int) + off = (tgt : Int))
    (kt : ¬ x = 0 → E l own cc nL ret ini hh R w0 Tg k n tgt lv st w) (kf : x = 0 → E l own cc nL ret ini hh R w0 Tg k n (pc + 3) lv st w) : E l own cc nL ret ini hh R w0 Tg k n pc lv (.int x :: st) w := by
  intro p e s m args below meth c g ad H locs ls hc hP hD hS hl
  exact lv_if_ne hc.1 hc.2.1 hd ht (fun h => kt h p e s m args below meth c g ad H locs ls hc hP hD hS hl) (fun h => kf h p e s m args below meth c g ad H locs ls hc hP hD hS hl)
theorem E_if_lt {x : Int32} {off : Int} (tgt : Nat) (hd : decode cc pc = .ok (.ifCond .lt off, 3)) (ht : (pc : Int) + off = (tgt : Int))
    (kt : x < 0 → E l own cc nL ret ini hh R w0 Tg k n tgt lv st w) (kf : ¬ x < 0 → E l own cc nL ret ini hh R w0 Tg k n (pc + 3) lv st w) : E l own cc nL ret ini hh R w0 Tg k n pc lv (.int x :: st) w := by
  intro p e s m args below meth c g ad H locs ls hc hP hD hS hl
  exact lv_if_lt hc.1 hc.2.1 hd ht (fun h => kt h p e s m args below meth c g ad H locs ls hc hP hD hS hl) (fun h => kf h p e s m args below meth c g ad H locs ls hc hP hD hS hl)
theorem E_if_ge {x : Int32} {off : Int} (tgt : Nat) (hd : decode cc pc = .ok (.ifCond .ge off, 3)) (ht : (pc : Int) + off = (tgt : Int))
    (kt : 0 ≤ x → E l own cc nL ret ini hh R w0 Tg k n tgt lv st w) (kf : ¬ 0 ≤ x → E l own cc nL ret ini hh R w0 Tg k n (pc + 3) lv st w) : E l own cc nL ret ini hh R w0 Tg k n pc lv (.int x :: st) w := by
  intro p e s m args below meth c g ad H locs ls hc hP hD hS hl
  exact lv_if_ge hc.1 hc.2.1 hd ht (fun h => kt h p e s m args below meth c g ad H locs ls hc hP hD hS hl) (fun h => kf h p e s m args below meth c g ad H locs ls hc hP hD hS hl)
theorem E_if_gt {x : Int32} {off : Int} (tgt : Nat) (hd : decode cc pc = .ok (.ifCond .gt off, 3)) (ht : (pc : Int) + off = (tgt : Int))
    (kt : 0 < x → E l own cc nL ret ini hh R w0 Tg k n tgt lv st w) (kf : ¬ 0 < x → E l own cc nL ret ini hh R w0 Tg k n (pc + 3) lv st w) : E l own cc nL ret ini hh R w0 Tg k n pc lv (.int x :: st) w := by
  intro p e s m args below meth c g ad H locs ls hc hP hD hS hl
  exact lv_if_gt hc.1 hc.2.1 hd ht (fun h => kt h p e s m args below meth c g ad H locs ls hc hP hD hS hl) (fun h => kf h p e s m args below meth c g ad H locs ls hc hP hD hS hl)
theorem E_if_le {x : Int32} {off : Int} (tgt : Nat) (hd : decode cc pc = .ok (.ifCond .le off, 3)) (ht : (pc : Int) + off = (tgt : Int))
    (kt : x ≤ 0 → E l own cc nL ret ini hh R w0 Tg k n tgt lv st w) (kf : ¬ x ≤ 0 → E l own cc nL ret ini hh R w0 Tg k n (pc + 3) lv st w) : E l own cc nL ret ini hh R w0 Tg k n pc lv (.int x :: st) w := by
  intro p e s m args below meth c g ad H locs ls hc hP hD hS hl
  exact lv_if_le hc.1 hc.2.1 hd ht (fun h => kt h p e s m args below meth c g ad H locs ls hc hP hD hS hl) (fun h => kf h p e s m args below meth c g ad H locs ls hc hP hD hS hl)
theorem E_ifnull_ref {x : Nat} {off : Int} (hd : decode cc pc = .ok (.ifnull off, 3)) (kk : E l own cc nL ret ini hh R w0 Tg k n (pc + 3) lv st w) : E l own cc nL ret ini hh R w0 Tg k n pc lv (.ref x :: st) w := by
  intro p e s m args below meth c g ad H locs ls hc hP hD hS hl
  exact lv_ifnull hc.1 hc.2.1 hd (kk p e s m args below meth c g ad H locs ls hc hP hD hS hl)
theorem E_ifnull_null {off : Int} (tgt : Nat) (hd : decode cc pc = .ok (.ifnull off, 3)) (ht : (pc : Int) + off = (tgt : Int)) (kk : E l own cc nL ret ini hh R w0 Tg k n tgt lv st w) : E l own cc nL ret ini hh R w0 Tg k n pc lv (.null :: st) w := by
  intro p e s m args below meth c g ad H locs ls hc hP hD hS hl
  exact lv_ifnullN hc.1 hc.2.1 hd ht (kk p e s m args below meth c g ad H locs ls hc hP hD hS hl)
theorem E_ldc {i : Nat} {v : Int32} (hw : Wd (.constant own i v)) (hd : decode cc pc = .ok (.ldc i, 2)) (kk : E l own cc nL ret ini hh R w0 Tg k n (pc + 2) lv (.int v :: st) w) : E l own cc nL ret ini hh R w0 Tg k n pc lv st w := by
  intro p e s m args below meth c g ad H locs ls hc hP hD hS hl
  exact lv_ldc hc.1 hc.2.1 hc.2.2.2.2.1 (hc.2.2.2.2.2.2.2.2.2.1.1.use hw) hd (kk p e s m args below meth c g ad H locs ls hc hP hD hS hl)
theorem E_ldc_w {i : Nat} {v : Int32} (hw : Wd (.constant own i v)) (hd : decode cc pc = .ok (.ldc_w i, 3)) (kk : E l own cc nL ret ini hh R w0 Tg k n (pc + 3) lv (.int v :: st) w) : E l own cc nL ret ini hh R w0 Tg k n pc lv st w := by
  intro p e s m args below meth c g ad H locs ls hc hP hD hS hl
  exact lv_ldcw hc.1 hc.2.1 hc.2.2.2.2.1 (hc.2.2.2.2.2.2.2.2.2.1.1.use hw) hd (kk p e s m args below meth c g ad H locs ls hc hP hD hS hl)
theorem E_ldc2 {i : Nat} {v : Int64} (hw : Wd (.constantLong own i v)) (hd : decode cc pc = .ok (.ldc2_w i, 3)) (kk : E l own cc nL ret ini hh R w0 Tg k n (pc + 3) lv (.long v :: st) w) : E l own cc nL ret ini hh R w0 Tg k n pc lv st w := by
  intro p e s m args below meth c g ad H locs ls hc hP hD hS hl
  exact lv_ldc2 hc.1 hc.2.1 hc.2.2.2.2.1 (hc.2.2.2.2.2.2.2.2.2.1.1.use hw) hd (kk p e s m args below meth c g ad H locs ls hc hP hD hS hl)
/-- fields -/
theorem E_get {i ci idx f N : Nat} {ref C : String} {T : u_T} {fs : List Value} {v : Value} (hci : vwCl[ci]? = some (C, T, N)) (hin : ∀ x ∈ u_ws C T N, Wd x) (hf : f < N) (hlk : Wd (.fieldLink own idx ref (T f).2.1 (T f).2.2.1)) (href : (T f).1 = ref)
    (hw : w[i]? = some (.inr (ci, fs))) (hv : fs[f]? = some v) (hd : decode cc pc = .ok (.getfield idx, 3))
    (kk : E l own cc nL ret ini hh R w0 Tg k n (pc + 3) lv (v :: st) w) : E l own cc nL ret ini hh R w0 Tg k n pc lv (.ref i :: st) w := by
  intro p e s m args below meth c g ad H locs ls hc hP hD hS hl
  have hT := hc.2.2.2.2.2.2.2.2.2.1
  exact va_get (v := cV ad v) (ref := ref) hc.1 hc.2.1 (Ts := u_ws C T N) (fun x hx => hT.1.use (hin x hx)) (fun _ h => h) hc.2.2.2.2.1 hT.2.2.2 hP i (cW_at hw) hci f hf (hT.1.use hlk) (fun x h => by rw [← href]; exact h) (by simp [hv]) hd (kk p e s m args below meth c g ad H locs ls hc hP hD hS hl)
theorem E_getN {i ci idx f N : Nat} {ref C host : String} {T : u_T} {fs : List Value} {v : Value} (hci : vwCl[ci]? = some (C, T, N)) (hin : ∀ x ∈ u_ws C T N, Wd x) (hf : f < N) (hlk : Wd (.fieldLinkNest own idx ref (T f).2.1 (T f).2.2.1 host)) (href : (T f).1 = ref)
    (hw : w[i]? = some (.inr (ci, fs))) (hv : fs[f]? = some v) (hd : decode cc pc = .ok (.getfield idx, 3))
    (kk : E l own cc nL ret ini hh R w0 Tg k n (pc + 3) lv (v :: st) w) : E l own cc nL ret ini hh R w0 Tg k n pc lv (.ref i :: st) w := by
  intro p e s m args below meth c g ad H locs ls hc hP hD hS hl
  have hT := hc.2.2.2.2.2.2.2.2.2.1
  exact va_getN (v := cV ad v) (ref := ref) (host := host) hc.1 hc.2.1 (Ts := u_ws C T N) (fun x hx => hT.1.use (hin x hx)) (fun _ h => h) hc.2.2.2.2.1 hT.2.2.2 hP i (cW_at hw) hci f hf (hT.1.use hlk) (fun x h => by rw [← href]; exact h) (by simp [hv]) hd (kk p e s m args below meth c g ad H locs ls hc hP hD hS hl)
theorem E_put {i ci idx f N : Nat} {ref C : String} {T : u_T} {fs : List Value} {v : Value} {ty : FieldType} (ty0 : Nat → FieldType) (hty : ∀ k, k < N → parseFieldDescriptor (T k).2.2.1 = some (ty0 k)) (hnm : ∀ a, a < N → ∀ b, b < N → a ≠ b → (T a).2.1 ≠ (T b).2.1) (hci : vwCl[ci]? = some (C, T, N)) (hin : ∀ x ∈ u_ws C T N, Wd x) (hf : f < N) (hlk : Wd (.fieldLink own idx ref (T f).2.1 (T f).2.2.1)) (href : (T f).1 = ref)
    (hfin : (T f).2.2.2 = false) (hpd : parseFieldDescriptor (T f).2.2.1 = some ty) (hnw : ∀ ad, narrow ty (cV ad v) = cV ad v) (hfit : ∀ ad, fits ty (cV ad v) = true) (hw : w[i]? = some (.inr (ci, fs))) (hlen : f < fs.length) (hd : decode cc pc = .ok (.putfield idx, 3))
    (kk : E l own cc nL ret ini hh R w0 Tg k n (pc + 3) lv st (w.set i (.inr (ci, fs.set f v)))) : E l own cc nL ret ini hh R w0 Tg k n pc lv (v :: .ref i :: st) w := by
  intro p e s m args below meth c g ad H locs ls hc hP hD hS hl
  have hT := hc.2.2.2.2.2.2.2.2.2.1
  refine va_put (v := cV ad v) (ref := ref) hc.1 hc.2.1 (Ts := u_ws C T N) (fun x hx => hT.1.use (hin x hx)) (fun _ h => h) ty0 hty hnm hc.2.2.2.2.1 hT.2.2.2 hP hD hS i (cW_at hw) hci f hf (hT.1.use hlk) (fun x h => by rw [← href]; exact h) hfin hpd (hnw ad) (hfit ad) (by simpa using hlen) hd (fun H1 locs1 hP1 hD1 hS1 => ?_)
  rw [cE_set (g := g), cW_set] at hP1 hD1
  exact kk p e s m args below meth c g ad H1 locs1 ls hc hP1 hD1 hS1 hl
theorem E_putN {i ci idx f N : Nat} {ref C host : String} {T : u_T} {fs : List Value} {v : Value} {ty : FieldType} (ty0 : Nat → FieldType) (hty : ∀ k, k < N → parseFieldDescriptor (T k).2.2.1 = some (ty0 k)) (hnm : ∀ a, a < N → ∀ b, b < N → a ≠ b → (T a).2.1 ≠ (T b).2.1) (hci : vwCl[ci]? = some (C, T, N)) (hin : ∀ x ∈ u_ws C T N, Wd x) (hf : f < N) (hlk : Wd (.fieldLinkNest own idx ref (T f).2.1 (T f).2.2.1 host)) (href : (T f).1 = ref)
    (hfin : (T f).2.2.2 = false) (hpd : parseFieldDescriptor (T f).2.2.1 = some ty) (hnw : ∀ ad, narrow ty (cV ad v) = cV ad v) (hfit : ∀ ad, fits ty (cV ad v) = true) (hw : w[i]? = some (.inr (ci, fs))) (hlen : f < fs.length) (hd : decode cc pc = .ok (.putfield idx, 3))
    (kk : E l own cc nL ret ini hh R w0 Tg k n (pc + 3) lv st (w.set i (.inr (ci, fs.set f v)))) : E l own cc nL ret ini hh R w0 Tg k n pc lv (v :: .ref i :: st) w := by
  intro p e s m args below meth c g ad H locs ls hc hP hD hS hl
  have hT := hc.2.2.2.2.2.2.2.2.2.1
  refine va_putN (v := cV ad v) (ref := ref) (host := host) hc.1 hc.2.1 (Ts := u_ws C T N) (fun x hx => hT.1.use (hin x hx)) (fun _ h => h) ty0 hty hnm hc.2.2.2.2.1 hT.2.2.2 hP hD hS i (cW_at hw) hci f hf (hT.1.use hlk) (fun x h => by rw [← href]; exact h) hfin hpd (hnw ad) (hfit ad) (by simpa using hlen) hd (fun H1 locs1 hP1 hD1 hS1 => ?_)
  rw [cE_set (g := g), cW_set] at hP1 hD1
  exact kk p e s m args below meth c g ad H1 locs1 ls hc hP1 hD1 hS1 hl
theorem E_putF {i ci idx f N : Nat} {ref C : String} {T : u_T} {fs : List Value} {v : Value} {ty : FieldType} (ty0 : Nat → FieldType) (hty : ∀ k, k < N → parseFieldDescriptor (T k).2.2.1 = some (ty0 k)) (hnm : ∀ a, a < N → ∀ b, b < N → a ≠ b → (T a).2.1 ≠ (T b).2.1) (hci : vwCl[ci]? = some (C, T, N)) (hin : ∀ x ∈ u_ws C T N, Wd x) (hf : f < N) (hlk : Wd (.fieldLink own idx ref (T f).2.1 (T f).2.2.1)) (href : (T f).1 = ref)
    (hfin : (T f).2.2.2 = true) (hini : ini = true) (hdecl : (T f).1 = own) (hpd : parseFieldDescriptor (T f).2.2.1 = some ty) (hnw : ∀ ad, narrow ty (cV ad v) = cV ad v) (hfit : ∀ ad, fits ty (cV ad v) = true) (hw : w[i]? = some (.inr (ci, fs))) (hlen : f < fs.length) (hd : decode cc pc = .ok (.putfield idx, 3))
    (kk : E l own cc nL ret ini hh R w0 Tg k n (pc + 3) lv st (w.set i (.inr (ci, fs.set f v)))) : E l own cc nL ret ini hh R w0 Tg k n pc lv (v :: .ref i :: st) w := by
  intro p e s m args below meth c g ad H locs ls hc hP hD hS hl
  have hT := hc.2.2.2.2.2.2.2.2.2.1
  refine va_putF (v := cV ad v) (ref := ref) hc.1 hc.2.1 (Ts := u_ws C T N) (fun x hx => hT.1.use (hin x hx)) (fun _ h => h) ty0 hty hnm hc.2.2.2.2.1 hT.2.2.2 hP hD hS i (cW_at hw) hci f hf (hT.1.use hlk) (fun x h => by rw [← href]; exact h) hfin (hc.2.2.2.2.2.2.1 hini) hdecl hpd (hnw ad) (hfit ad) (by simpa using hlen) hd (fun H1 locs1 hP1 hD1 hS1 => ?_)
  rw [cE_set (g := g), cW_set] at hP1 hD1
  exact kk p e s m args below meth c g ad H1 locs1 ls hc hP1 hD1 hS1 hl
/-- arrays -/
theorem E_iald {i z : Nat} {f : Nat → Int32} {j : Int32} (hw : w[i]? = some (.inl (0, z, .inl f))) (hj : vp_in j z) (hd : decode cc pc = .ok (.iaload, 1))
    (kk : E l own cc nL ret ini hh R w0 Tg k n (pc + 1) lv (.int (f j.toNatClampNeg) :: st) w) : E l own cc nL ret ini hh R w0 Tg k n pc lv (.int j :: .ref i :: st) w := by
  intro p e s m args below meth c g ad H locs ls hc hP hD hS hl
  exact va_iald hc.1 hc.2.1 hc.2.2.2.2.2.2.2.2.2.1.2.2.2 hP i 0 (cW_at hw) rfl hj hd (kk p e s m args below meth c g ad H locs ls hc hP hD hS hl)
theorem E_lald {i z : Nat} {f : Nat → Int64} {j : Int32} (hw : w[i]? = some (.inl (1, z, .inr (.inl f)))) (hj : vp_in j z) (hd : decode cc pc = .ok (.laload, 1))
    (kk : E l own cc nL ret ini hh R w0 Tg k n (pc + 1) lv (.long (f j.toNatClampNeg) :: st) w) : E l own cc nL ret ini hh R w0 Tg k n pc lv (.int j :: .ref i :: st) w := by
  intro p e s m args below meth c g ad H locs ls hc hP hD hS hl
  exact va_lald hc.1 hc.2.1 hc.2.2.2.2.2.2.2.2.2.1.2.2.2 hP i 1 (cW_at hw) rfl hj hd (kk p e s m args below meth c g ad H locs ls hc hP hD hS hl)
theorem E_iast {i z : Nat} {f : Nat → Int32} {j x : Int32} (hw : w[i]? = some (.inl (0, z, .inl f))) (hj : vp_in j z) (hd : decode cc pc = .ok (.iastore, 1))
    (kk : E l own cc nL ret ini hh R w0 Tg k n (pc + 1) lv st (w.set i (.inl (0, z, .inl (upd f j.toNatClampNeg x))))) : E l own cc nL ret ini hh R w0 Tg k n pc lv (.int x :: .int j :: .ref i :: st) w := by
  intro p e s m args below meth c g ad H locs ls hc hP hD hS hl
  refine va_iast hc.1 hc.2.1 hc.2.2.2.2.2.2.2.2.2.1.2.2.2 hP hD hS i 0 (cW_at hw) rfl hj hd (fun H1 locs1 hP1 hD1 hS1 => ?_)
  rw [show (Sum.inl (g.2 0, z, Sum.inl (upd f j.toNatClampNeg x)) : va_E) = cE g ad (.inl (0, z, .inl (upd f j.toNatClampNeg x))) from rfl, cW_set] at hP1 hD1
  exact kk p e s m args below meth c g ad H1 locs1 ls hc hP1 hD1 hS1 hl
theorem E_last {i z : Nat} {f : Nat → Int64} {j : Int32} {x : Int64} (hw : w[i]? = some (.inl (1, z, .inr (.inl f)))) (hj : vp_in j z) (hd : decode cc pc = .ok (.lastore, 1))
    (kk : E l own cc nL ret ini hh R w0 Tg k n (pc + 1) lv st (w.set i (.inl (1, z, .inr (.inl (vp_updL f j.toNatClampNeg x)))))) : E l own cc nL ret ini hh R w0 Tg k n pc lv (.long x :: .int j :: .ref i :: st) w := by
  intro p e s m args below meth c g ad H locs ls hc hP hD hS hl
  refine va_last hc.1 hc.2.1 hc.2.2.2.2.2.2.2.2.2.1.2.2.2 hP hD hS i 1 (cW_at hw) rfl hj hd (fun H1 locs1 hP1 hD1 hS1 => ?_)
  rw [show (Sum.inl (g.2 1, z, Sum.inr (Sum.inl (vp_updL f j.toNatClampNeg x))) : va_E) = cE g ad (.inl (1, z, .inr (.inl (vp_updL f j.toNatClampNeg x)))) from rfl, cW_set] at hP1 hD1
  exact kk p e s m args below meth c g ad H1 locs1 ls hc hP1 hD1 hS1 hl
theorem E_alenJ {i z : Nat} {f : Nat → Int64} {v : Int32} (hw : w[i]? = some (.inl (1, z, .inr (.inl f)))) (hv : Int32.ofNat z = v) (hd : decode cc pc = .ok (.arraylength, 1))
    (kk : E l own cc nL ret ini hh R w0 Tg k n (pc + 1) lv (.int v :: st) w) : E l own cc nL ret ini hh R w0 Tg k n pc lv (.ref i :: st) w := by
  intro p e s m args below meth c g ad H locs ls hc hP hD hS hl
  exact va_alen hc.1 hc.2.1 hc.2.2.2.2.2.2.2.2.2.1.2.2.2 hP i 1 (cW_at hw) rfl hv hd (kk p e s m args below meth c g ad H locs ls hc hP hD hS hl)
theorem E_aald {i z : Nat} {f : Nat → Option Nat} {j : Int32} {q : Nat} (hw : w[i]? = some (.inl (2, z, .inr (.inr (.inr (.inr f)))))) (hj : vp_in j z) (hq : f j.toNatClampNeg = some q) (hd : decode cc pc = .ok (.aaload, 1))
    (kk : E l own cc nL ret ini hh R w0 Tg k n (pc + 1) lv (.ref q :: st) w) : E l own cc nL ret ini hh R w0 Tg k n pc lv (.int j :: .ref i :: st) w := by
  intro p e s m args below meth c g ad H locs ls hc hP hD hS hl
  refine va_aldq (C := "ChannelSpacer$Desk") (f := fun j => (f j).map ad) hc.1 hc.2.1 hc.2.2.2.2.2.2.2.2.2.1.2.2.2 hP i 2 (cW_at hw) rfl hj hd ?_
  simp only [hq, Option.map_some, va_rf]
  exact kk p e s m args below meth c g ad H locs ls hc hP hD hS hl
/-- Math -/
theorem E_abs {idx : Nat} {x : Int32} (hlk : Wd (.methodLink own idx Lib.Math.abs.name)) (hst : Wd (.static Lib.Math.abs.name)) (hni : Wd (.initialized "java/lang/Math")) (hcd : Wd (.code Lib.Math.abs.name Lib.Math.abs.code 1 (some .int))) (hR : 1 ≤ R.frames ∧ (st.map fun v => v.category).sum + 13 ≤ R.locals ∧ k ≤ R.cells ∧ n ≤ R.slots) (hd : decode cc pc = .ok (.invokestatic idx, 3))
    (kk : E l own cc nL ret ini hh R w0 Tg k n (pc + 3) lv (.int (if 0 ≤ x then x else 0 - x) :: st) w) : E l own cc nL ret ini hh R w0 Tg k n pc lv (.int x :: st) w := by
  intro p e s m args below meth c g ad H locs ls hc hP hD hS hl
  have hT := hc.2.2.2.2.2.2.2.2.2.1.1
  exact va_mabs hc.1 hc.2.1 (by rw [hc.2.2.1]; exact hl.1.symm) hc.2.2.2.2.1 (hT.use hlk) (hT.use hst) (hT.use hni) (hT.use hcd) hR.1 (by rw [cV_sum]; exact hR.2.1) hR.2.2.1 hR.2.2.2 hd (kk p e s m args below meth c g ad H locs ls hc hP hD hS hl)
theorem E_max {idx : Nat} {x y : Int32} (hlk : Wd (.methodLink own idx Lib.Math.max.name)) (hst : Wd (.static Lib.Math.max.name)) (hni : Wd (.initialized "java/lang/Math")) (hcd : Wd (.code Lib.Math.max.name Lib.Math.max.code 2 (some .int))) (hR : 1 ≤ R.frames ∧ (st.map fun v => v.category).sum + 13 ≤ R.locals ∧ k ≤ R.cells ∧ n ≤ R.slots) (hd : decode cc pc = .ok (.invokestatic idx, 3))
    (kk : E l own cc nL ret ini hh R w0 Tg k n (pc + 3) lv (.int (if x < y then y else x) :: st) w) : E l own cc nL ret ini hh R w0 Tg k n pc lv (.int y :: .int x :: st) w := by
  intro p e s m args below meth c g ad H locs ls hc hP hD hS hl
  have hT := hc.2.2.2.2.2.2.2.2.2.1.1
  exact va_mmax hc.1 hc.2.1 (by rw [hc.2.2.1]; exact hl.1.symm) hc.2.2.2.2.1 (hT.use hlk) (hT.use hst) (hT.use hni) (hT.use hcd) hR.1 (by rw [cV_sum]; exact hR.2.1) hR.2.2.1 hR.2.2.2 hd (kk p e s m args below meth c g ad H locs ls hc hP hD hS hl)
theorem E_min {idx : Nat} {x y : Int32} (hlk : Wd (.methodLink own idx Lib.Math.min.name)) (hst : Wd (.static Lib.Math.min.name)) (hni : Wd (.initialized "java/lang/Math")) (hcd : Wd (.code Lib.Math.min.name Lib.Math.min.code 2 (some .int))) (hR : 1 ≤ R.frames ∧ (st.map fun v => v.category).sum + 13 ≤ R.locals ∧ k ≤ R.cells ∧ n ≤ R.slots) (hd : decode cc pc = .ok (.invokestatic idx, 3))
    (kk : E l own cc nL ret ini hh R w0 Tg k n (pc + 3) lv (.int (if y < x then y else x) :: st) w) : E l own cc nL ret ini hh R w0 Tg k n pc lv (.int y :: .int x :: st) w := by
  intro p e s m args below meth c g ad H locs ls hc hP hD hS hl
  have hT := hc.2.2.2.2.2.2.2.2.2.1.1
  exact va_mmin hc.1 hc.2.1 (by rw [hc.2.2.1]; exact hl.1.symm) hc.2.2.2.2.1 (hT.use hlk) (hT.use hst) (hT.use hni) (hT.use hcd) hR.1 (by rw [cV_sum]; exact hR.2.1) hR.2.2.1 hR.2.2.2 hd (kk p e s m args below meth c g ad H locs ls hc hP hD hS hl)
end rows
end EL
