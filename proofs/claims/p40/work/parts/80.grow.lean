section GROW
variable {Z : State → (Nat → Nat) → Prop} {l : Launch} {own : String} {cc : ByteArray} {nL : Nat} {ret : Option FieldType} {ini : Bool} {hh : List ExceptionTableEntry} {R : Room} {w0 : AW} {Tg : TgT} {k n pc : Nat} {lv : List (Nat × Value)} {st : List Value} {w : AW} {mi : MI} {ml : MJ}
theorem EZ_put {i ci idx f N : Nat} {ref C : String} {T : u_T} {fs : List Value} {v : Value} {ty : FieldType} (ty0 : Nat → FieldType) (hty : ∀ k, k < N → parseFieldDescriptor (T k).2.2.1 = some (ty0 k)) (hnm : ∀ a, a < N → ∀ b, b < N → a ≠ b → (T a).2.1 ≠ (T b).2.1) (hci : vwCl[ci]? = some (C, T, N)) (hin : ∀ x ∈ u_ws C T N, Wd x) (hf : f < N) (hlk : Wd (.fieldLink own idx ref (T f).2.1 (T f).2.2.1)) (href : (T f).1 = ref)
    (hfin : (T f).2.2.2 = false) (hpd : parseFieldDescriptor (T f).2.2.1 = some ty) (hnw : ∀ ad, narrow ty (cV ad v) = cV ad v) (hfit : ∀ ad, fits ty (cV ad v) = true) (hw : w[i]? = some (.inr (ci, fs))) (hlen : f < fs.length) (hd : decode cc pc = .ok (.putfield idx, 3))
    (kk : EZ Z l own cc nL ret ini hh R w0 Tg k n (pc + 3) lv st (w.set i (.inr (ci, fs.set f v)))) : EZ Z l own cc nL ret ini hh R w0 Tg k n pc lv (v :: .ref i :: st) w := by
  intro p e s m args below meth c g ad hz H locs ls hc hP hD hS hl
  have hT := hc.2.2.2.2.2.2.2.2.2.1
  refine va_put (v := cV ad v) (ref := ref) hc.1 hc.2.1 (Ts := u_ws C T N) (fun x hx => hT.1.use (hin x hx)) (fun _ h => h) ty0 hty hnm hc.2.2.2.2.1 hT.2.2.2 hP hD hS i (cW_at hw) hci f hf (hT.1.use hlk) (fun x h => by rw [← href]; exact h) hfin hpd (hnw ad) (hfit ad) (by simpa using hlen) hd (fun H1 locs1 hP1 hD1 hS1 => ?_)
  rw [cE_set (g := g), cW_set] at hP1 hD1
  exact kk p e s m args below meth c g ad hz H1 locs1 ls hc hP1 hD1 hS1 hl
theorem EZ_get {i ci idx f N : Nat} {ref C : String} {T : u_T} {fs : List Value} {v : Value} (hci : vwCl[ci]? = some (C, T, N)) (hin : ∀ x ∈ u_ws C T N, Wd x) (hf : f < N) (hlk : Wd (.fieldLink own idx ref (T f).2.1 (T f).2.2.1)) (href : (T f).1 = ref)
    (hw : w[i]? = some (.inr (ci, fs))) (hv : fs[f]? = some v) (hd : decode cc pc = .ok (.getfield idx, 3))
    (kk : EZ Z l own cc nL ret ini hh R w0 Tg k n (pc + 3) lv (v :: st) w) : EZ Z l own cc nL ret ini hh R w0 Tg k n pc lv (.ref i :: st) w := by
  intro p e s m args below meth c g ad hz H locs ls hc hP hD hS hl
  have hT := hc.2.2.2.2.2.2.2.2.2.1
  exact va_get (v := cV ad v) (ref := ref) hc.1 hc.2.1 (Ts := u_ws C T N) (fun x hx => hT.1.use (hin x hx)) (fun _ h => h) hc.2.2.2.2.1 hT.2.2.2 hP i (cW_at hw) hci f hf (hT.1.use hlk) (fun x h => by rw [← href]; exact h) (by simp [hv]) hd (kk p e s m args below meth c g ad hz H locs ls hc hP hD hS hl)
theorem EZ_iast {i z : Nat} {f : Nat → Int32} {j x : Int32} (hw : w[i]? = some (.inl (0, z, .inl f))) (hj : vp_in j z) (hd : decode cc pc = .ok (.iastore, 1))
    (kk : EZ Z l own cc nL ret ini hh R w0 Tg k n (pc + 1) lv st (w.set i (.inl (0, z, .inl (upd f j.toNatClampNeg x))))) : EZ Z l own cc nL ret ini hh R w0 Tg k n pc lv (.int x :: .int j :: .ref i :: st) w := by
  intro p e s m args below meth c g ad hz H locs ls hc hP hD hS hl
  refine va_iast hc.1 hc.2.1 hc.2.2.2.2.2.2.2.2.2.1.2.2.2 hP hD hS i 0 (cW_at hw) rfl hj hd (fun H1 locs1 hP1 hD1 hS1 => ?_)
  rw [show (Sum.inl (g.2 0, z, Sum.inl (upd f j.toNatClampNeg x)) : va_E) = cE g ad (.inl (0, z, .inl (upd f j.toNatClampNeg x))) from rfl, cW_set] at hP1 hD1
  exact kk p e s m args below meth c g ad hz H1 locs1 ls hc hP1 hD1 hS1 hl
theorem EZ_dup {v : Value} (hv : v.category = 1) (hd : decode cc pc = .ok (.dup, 1))
    (kk : EZ Z l own cc nL ret ini hh R w0 Tg k n (pc + 1) lv (v :: v :: st) w) : EZ Z l own cc nL ret ini hh R w0 Tg k n pc lv (v :: st) w := by
  intro p e s m args below meth c g ad hz H locs ls hc hP hD hS hl
  exact lv_dup hc.1 hc.2.1 hd ((cV_cat ad v).trans hv) (kk p e s m args below meth c g ad hz H locs ls hc hP hD hS hl)
theorem EZ_sipush {i : Int} (v : Int32) (hv : (Int16.ofInt i).toInt32 = v) (hd : decode cc pc = .ok (.sipush i, 3))
    (kk : EZ Z l own cc nL ret ini hh R w0 Tg k n (pc + 3) lv (.int v :: st) w) : EZ Z l own cc nL ret ini hh R w0 Tg k n pc lv (st) w := by
  intro p e s m args below meth c g ad hz H locs ls hc hP hD hS hl
  exact lv_sipush hc.1 hc.2.1 hd hv (kk p e s m args below meth c g ad hz H locs ls hc hP hD hS hl)
theorem EZ_putF {i ci idx f N : Nat} {ref C : String} {T : u_T} {fs : List Value} {v : Value} {ty : FieldType} (ty0 : Nat → FieldType) (hty : ∀ k, k < N → parseFieldDescriptor (T k).2.2.1 = some (ty0 k)) (hnm : ∀ a, a < N → ∀ b, b < N → a ≠ b → (T a).2.1 ≠ (T b).2.1) (hci : vwCl[ci]? = some (C, T, N)) (hin : ∀ x ∈ u_ws C T N, Wd x) (hf : f < N) (hlk : Wd (.fieldLink own idx ref (T f).2.1 (T f).2.2.1)) (href : (T f).1 = ref)
    (hfin : (T f).2.2.2 = true) (hini : ini = true) (hdecl : (T f).1 = own) (hpd : parseFieldDescriptor (T f).2.2.1 = some ty) (hnw : ∀ ad, narrow ty (cV ad v) = cV ad v) (hfit : ∀ ad, fits ty (cV ad v) = true) (hw : w[i]? = some (.inr (ci, fs))) (hlen : f < fs.length) (hd : decode cc pc = .ok (.putfield idx, 3))
    (kk : EZ Z l own cc nL ret ini hh R w0 Tg k n (pc + 3) lv st (w.set i (.inr (ci, fs.set f v)))) : EZ Z l own cc nL ret ini hh R w0 Tg k n pc lv (v :: .ref i :: st) w := by
  intro p e s m args below meth c g ad hz H locs ls hc hP hD hS hl
  have hT := hc.2.2.2.2.2.2.2.2.2.1
  refine va_putF (v := cV ad v) (ref := ref) hc.1 hc.2.1 (Ts := u_ws C T N) (fun x hx => hT.1.use (hin x hx)) (fun _ h => h) ty0 hty hnm hc.2.2.2.2.1 hT.2.2.2 hP hD hS i (cW_at hw) hci f hf (hT.1.use hlk) (fun x h => by rw [← href]; exact h) hfin (hc.2.2.2.2.2.2.1 hini) hdecl hpd (hnw ad) (hfit ad) (by simpa using hlen) hd (fun H1 locs1 hP1 hD1 hS1 => ?_)
  rw [cE_set (g := g), cW_set] at hP1 hD1
  exact kk p e s m args below meth c g ad hz H1 locs1 ls hc hP1 hD1 hS1 hl
def up (ad : Nat → Nat) (N q : Nat) : Nat → Nat := fun i => if i = N then q else ad i
theorem up_s (ad : Nat → Nat) (N q : Nat) : up ad N q N = q := by simp [up]
theorem up_n {ad : Nat → Nat} {N q i : Nat} (h : i ≠ N) : up ad N q i = ad i := by simp [up, h]
/-- the place N is not named -/
def nm (N : Nat) : Value → Prop
  | .ref i => i ≠ N
  | _ => True
def nmE (N : Nat) : va_E → Prop
  | .inr (_, fs) => ∀ v ∈ fs, nm N v
  | .inl (_, _, .inr (.inr (.inr (.inr f)))) => ∀ j i, f j = some i → i ≠ N
  | _ => True
theorem cV_up {ad : Nat → Nat} {N q : Nat} {v : Value} (h : nm N v) : cV (up ad N q) v = cV ad v := by
  cases v <;> simp_all [cV, nm, up]
theorem cVs_up {ad : Nat → Nat} {N q : Nat} {st : List Value} (h : ∀ v ∈ st, nm N v) : st.map (cV (up ad N q)) = st.map (cV ad) := List.map_congr_left (fun v hv => cV_up (h v hv))
theorem cL_up {ad : Nat → Nat} {N q : Nat} {lv : List (Nat × Value)} (h : ∀ x ∈ lv, nm N x.2) : cL (up ad N q) lv = cL ad lv := by
  unfold cL
  exact List.map_congr_left (fun x hx => by rw [cV_up (h x hx)])
theorem cE_up {g : Gx} {ad : Nat → Nat} {N q : Nat} {e : va_E} (h : nmE N e) : cE g (up ad N q) e = cE g ad e := by
  rcases e with ⟨t, z, f | f | f | f | f⟩ | ⟨ci, fs⟩
  · rfl
  · rfl
  · rfl
  · rfl
  · have e1 : (fun j => (f j).map (up ad N q)) = (fun j => (f j).map ad) := by
      funext j
      cases hj : f j with
      | none => rfl
      | some i => simp only [Option.map_some]; rw [up_n (h j i hj)]
    simp only [cE]
    rw [e1]
  · simp only [cE]
    rw [cVs_up h]
theorem cW_up {g : Gx} {ad : Nat → Nat} {N q : Nat} {w : AW} (h : ∀ e ∈ w, nmE N e) (hN : w.length ≤ N) : cW g (up ad N q) w = cW g ad w := by
  apply List.ext_getElem?
  intro i
  simp only [cW, List.getElem?_mapIdx]
  cases hi : w[i]? with
  | none => rfl
  | some e =>
    have hlt := (List.getElem?_eq_some_iff.mp hi).1
    simp only [Option.map_some]
    rw [up_n (by omega), cE_up (h e (List.mem_of_getElem? hi))]
theorem cW_push {g : Gx} {ad : Nat → Nat} {N q : Nat} {w : AW} {e : va_E} (h : ∀ x ∈ w, nmE N x) (hN : w.length = N) (he : nmE N e) : cW g ad w ++ [(q, cE g ad e)] = cW g (up ad N q) (w ++ [e]) := by
  have h1 : cW g (up ad N q) (w ++ [e]) = cW g (up ad N q) w ++ [(up ad N q N, cE g (up ad N q) e)] := by
    unfold cW
    rw [List.mapIdx_append]
    simp [hN]
  rw [h1, cW_up h (by omega), up_s, cE_up he]
/-- what a new place N asks -/
def New (Z : State → (Nat → Nat) → Prop) (Tg : TgT) (w0 : AW) (N : Nat) (lv : List (Nat × Value)) (st : List Value) (w : AW) : Prop :=
  (w.length = N ∧ (∀ e ∈ w, nmE N e) ∧ (∀ v ∈ st, nm N v) ∧ (∀ x ∈ lv, nm N x.2)) ∧ (∀ below args s g ad q, Tg below args s g (up ad N q) = Tg below args s g ad) ∧ (∀ s ad q, Z s ad → Z s (up ad N q)) ∧ (∀ e ∈ w0, nmE N e) ∧ w0.length ≤ N
theorem EZ_grow {N q : Nat} {e1 : va_E} (K : New Z Tg w0 N lv st w) (he : nmE N e1) (kk : EZ Z l own cc nL ret ini hh R w0 Tg k n pc lv (.ref N :: st) (w ++ [e1]))
    (p : Program) (e : Env) (s : State) (m : MethodId) (args : Array Value) (below : List Frame) (meth : Method) (c : Code) (g : Gx) (ad : Nat → Nat) (hz : Z s ad) (H : Heap) (locs : List Loc) (ls : Array Slot)
    (hc : Cx p l s m meth c own cc nL ret ini hh g (va_A (cW g ad w0) s.heap.size)) (hP : va_P g.1 vwCl (cW g ad w ++ [(q, cE g ad e1)]) H) (hD : va_D (va_A (cW g ad w0) s.heap.size) (cW g ad w ++ [(q, cE g ad e1)])) (hS : va_S (va_A (cW g ad w0) s.heap.size) s.heap H locs) (hl : lv_has ls nL (cL ad lv)) :
    W p l e R s m args below meth c H locs k n (Tg below args s g ad) (F0 m pc ls (.ref q :: st.map (cV ad))) := by
  have h1 := kk p e s m args below meth c g (up ad N q) (K.2.2.1 s ad q hz) H locs ls
  rw [cW_up K.2.2.2.1 K.2.2.2.2, ← cW_push K.1.2.1 K.1.1 he, cL_up K.1.2.2.2, K.2.1, List.map_cons, cVs_up K.1.2.2.1] at h1
  have e9 : cV (up ad N q) (.ref N) = .ref q := by simp [cV, up_s]
  rw [e9] at h1
  exact h1 hc hP hD hS hl
theorem EZ_new {ci idx N M : Nat} {C : String} {T : u_T} {fs : List Value} (K : New Z Tg w0 N lv st w) (ty : Nat → FieldType) (hty : ∀ k, k < M → parseFieldDescriptor (T k).2.2.1 = some (ty k)) (hci : vwCl[ci]? = some (C, T, M)) (hin : ∀ x ∈ u_ws C T M, Wd x) (hcl : Wd (.classLink own idx C)) (hinst : Wd (.instantiable C M)) (hini : Wd (.initialized C))
    (hfs : ∀ j, j < M → defaultValue (ty j) = vp_V fs j) (hnr : ∀ v ∈ fs, ∀ i, v ≠ .ref i) (hk : k + 1 ≤ R.cells) (hn : n + M ≤ R.slots) (hd : decode cc pc = .ok (.new idx, 3))
    (kk : EZ Z l own cc nL ret ini hh R w0 Tg (k + 1) (n + M) (pc + 3) lv (.ref N :: st) (w ++ [.inr (ci, fs)])) : EZ Z l own cc nL ret ini hh R w0 Tg k n pc lv st w := by
  intro p e s m args below meth c g ad hz H locs ls hc hP hD hS hl
  have hT := hc.2.2.2.2.2.2.2.2.2.1
  refine va_new (ci := ci) (fs := fs) (C := C) (T := T) (N := M) hc.1 hc.2.1 (Ts := u_ws C T M) (fun x hx => hT.1.use (hin x hx)) (fun _ h => h) ty hty hc.2.2.2.2.1 (hT.1.use hcl) (hT.1.use hinst) (hT.1.use hini) hT.2.2.2 hP hD hS (fun q h => Or.inr h) hci hfs hk hn hd (fun q H1 hP1 hD1 hS1 => ?_)
  have e1 : (Sum.inr (ci, fs) : va_E) = cE g ad (.inr (ci, fs)) := by
    simp only [cE]
    congr 2
    conv => lhs; rw [← List.map_id fs]
    exact List.map_congr_left (fun v hv => by cases v <;> first | rfl | exact absurd rfl (hnr _ hv _))
  rw [e1] at hP1 hD1
  refine EZ_grow K ?_ kk p e s m args below meth c g ad hz H1 locs ls hc hP1 hD1 hS1 hl
  intro v hv
  cases v <;> first | trivial | exact absurd rfl (hnr _ hv _)
theorem tyG {g : Gx} {s : State} (h : CS g s) {t : Nat} {ty : FieldType} (ht : (tysG g)[t]? = some (g.2 t, ty)) {cA : ClassId} (h2 : s.vm.findClass ("[" ++ ty.toString) = some cA) : g.2 t = cA := by
  have q := (h.2.2.2.2 t _ ht).2
  have q2 : s.vm.findClass ("[" ++ ty.toString) = some (g.2 t) := by
    cases ty <;> first | exact q | (obtain ⟨_, _, _, _, _, q⟩ := q; exact q)
  exact Option.some.inj (q2.symm.trans h2)
theorem va_RA_f {s : State} {cA : ClassId} {ty : FieldType} (q : va_RA s cA ty) : s.vm.findClass ("[" ++ ty.toString) = some cA := by
  cases ty <;> first | exact q | (obtain ⟨_, _, _, _, _, q⟩ := q; exact q)
theorem nneg {x : Int32} {z : Nat} (hx : x.toInt = (z : Int)) : ¬ x < 0 := by
  intro q
  have h := Int32.lt_iff_toInt_lt.mp q
  rw [hx, show (0 : Int32).toInt = 0 from rfl] at h
  omega
theorem vcI (cA : ClassId) (z : Nat) : vp_cell cA (z, .inl (fun _ => 0)) = arrV cA z (fun _ => defaultValue FieldType.int) := rfl
theorem vcJ (cA : ClassId) (z : Nat) : vp_cell cA (z, .inr (.inl (fun _ => 0))) = arrV cA z (fun _ => defaultValue FieldType.long) := rfl

theorem EZ_newI {N z : Nat} {x : Int32} (K : New Z Tg w0 N lv st w) (hx : x.toInt = (z : Int)) (hz4 : z * 4 ≤ 536870912) (ha : Wd (.arrayClass .int)) (hk : k + 1 ≤ R.cells) (hn : n + z ≤ R.slots) (hd : decode cc pc = .ok (.newarray .int, 2))
    (kk : EZ Z l own cc nL ret ini hh R w0 Tg (k + 1) (n + z) (pc + 2) lv (.ref N :: st) (w ++ [.inl (0, z, .inl (fun _ => 0))])) : EZ Z l own cc nL ret ini hh R w0 Tg k n pc lv (.int x :: st) w := by
  intro p e s m args below meth c g ad hz H locs ls hc hP hD hS hl
  have hT := hc.2.2.2.2.2.2.2.2.2.1
  refine va_newa (atype := .int) (ty := .int) (a0 := (z, .inl (fun _ => 0))) hc.1 hc.2.1 (hT.1.use ha) rfl hT.2.2.2 hP hD hS (fun q h => Or.inr h) (fun cA => vcI cA z) (nneg hx) (tNC x hx) (by rw [show componentBytes FieldType.int = 4 from rfl]; exact hz4) hk hn hd (fun q cA H1 hK1 hP1 hD1 hS1 => ?_)
  have e1 : g.2 0 = cA := tyG hT rfl (va_RA_f (hK1.2 (tysG g).length (cA, .int) (by simp)).2)
  rw [← e1] at hP1 hD1
  exact EZ_grow (e1 := .inl (0, z, .inl (fun _ => 0))) K trivial kk p e s m args below meth c g ad hz H1 locs ls hc hP1 hD1 hS1 hl

theorem EZ_newJ {N z : Nat} {x : Int32} (K : New Z Tg w0 N lv st w) (hx : x.toInt = (z : Int)) (hz4 : z * 8 ≤ 536870912) (ha : Wd (.arrayClass .long)) (hk : k + 1 ≤ R.cells) (hn : n + z ≤ R.slots) (hd : decode cc pc = .ok (.newarray .long, 2))
    (kk : EZ Z l own cc nL ret ini hh R w0 Tg (k + 1) (n + z) (pc + 2) lv (.ref N :: st) (w ++ [.inl (1, z, .inr (.inl (fun _ => 0)))])) : EZ Z l own cc nL ret ini hh R w0 Tg k n pc lv (.int x :: st) w := by
  intro p e s m args below meth c g ad hz H locs ls hc hP hD hS hl
  have hT := hc.2.2.2.2.2.2.2.2.2.1
  refine va_newa (atype := .long) (ty := .long) (a0 := (z, .inr (.inl (fun _ => 0)))) hc.1 hc.2.1 (hT.1.use ha) rfl hT.2.2.2 hP hD hS (fun q h => Or.inr h) (fun cA => vcJ cA z) (nneg hx) (tNC x hx) (by rw [show componentBytes FieldType.long = 8 from rfl]; exact hz4) hk hn hd (fun q cA H1 hK1 hP1 hD1 hS1 => ?_)
  have e1 : g.2 1 = cA := tyG hT rfl (va_RA_f (hK1.2 (tysG g).length (cA, .long) (by simp)).2)
  rw [← e1] at hP1 hD1
  exact EZ_grow (e1 := .inl (1, z, .inr (.inl (fun _ => 0)))) K trivial kk p e s m args below meth c g ad hz H1 locs ls hc hP1 hD1 hS1 hl
theorem EZ_anew {N z idx : Nat} {x : Int32} (K : New Z Tg w0 N lv st w) (hx : x.toInt = (z : Int)) (hz4 : z * 4 ≤ 536870912) (hcl : Wd (.classLink own idx "ChannelSpacer$Desk")) (hk : k + 1 ≤ R.cells) (hn : n + z ≤ R.slots) (hd : decode cc pc = .ok (.anewarray idx, 3))
    (kk : EZ Z l own cc nL ret ini hh R w0 Tg (k + 1) (n + z) (pc + 3) lv (.ref N :: st) (w ++ [.inl (2, z, .inr (.inr (.inr (.inr (fun _ => none)))))])) : EZ Z l own cc nL ret ini hh R w0 Tg k n pc lv (.int x :: st) w := by
  intro p e s m args below meth c g ad hz H locs ls hc hP hD hS hl
  have hT := hc.2.2.2.2.2.2.2.2.2.1
  refine va_newq (C := "ChannelSpacer$Desk") hc.1 hc.2.1 hc.2.2.2.2.1 (hT.1.use hcl) hT.2.2.1 hT.2.2.2 hP hD hS (fun q h => Or.inr h) (nneg hx) (tNC x hx) hz4 hk hn hd (fun q cA H1 hK1 hP1 hD1 hS1 => ?_)
  have e1 : g.2 2 = cA := tyG hT rfl (va_RA_f (hK1.2 (tysG g).length (cA, .object "ChannelSpacer$Desk") (by simp)).2)
  rw [← e1] at hP1 hD1
  exact EZ_grow (e1 := .inl (2, z, .inr (.inr (.inr (.inr (fun _ => none)))))) K (fun _ _ h => nomatch h) kk p e s m args below meth c g ad hz H1 locs ls hc hP1 hD1 hS1 hl
theorem EZ_obj {idx i : Nat} (hlk : Wd (.methodLink own idx objectInit)) (hd : decode cc pc = .ok (.invokespecial idx, 3)) (hR : 1 ≤ R.frames ∧ 20 ≤ R.locals) (hst : (st.map fun v => v.category).sum ≤ 8) (kk : EZ Z l own cc nL ret ini hh R w0 Tg k n (pc + 3) lv st w) : EZ Z l own cc nL ret ini hh R w0 Tg k n pc lv (.ref i :: st) w := by
  intro p e s m args below meth c g ad hz H locs ls hc hP hD hS hl
  have hT := hc.2.2.2.2.2.2.2.2.2.1
  refine W.objInit hc.1 hc.2.1 hc.2.2.2.2.1 (hT.1.use hlk) (hT.1.use wi_obj) (hT.1.use wc_obj) rfl (by rw [hc.2.2.1]; exact hl.1) rfl hd hR.1 (Nat.le_trans (Nat.add_le_add_right (lv_room (by rw [cV_sum]; exact hst)) 12) hR.2) ?_
  exact kk p e s m args below meth c g ad hz H locs ls hc hP hD hS hl
end GROW
