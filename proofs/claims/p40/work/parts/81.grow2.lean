section GROW2
variable {Z : State → (Nat → Nat) → Prop} {l : Launch} {own : String} {cc : ByteArray} {nL : Nat} {ret : Option FieldType} {ini : Bool} {hh : List ExceptionTableEntry} {R : Room} {w0 : AW} {Tg : TgT} {k n pc : Nat} {lv : List (Nat × Value)} {st : List Value} {w : AW} {mi : MI} {ml : MJ}
/-- ad' is ad but for the places from a to b -/
def Ag (a b : Nat) (ad ad' : Nat → Nat) : Prop := ∀ i, i < a ∨ b ≤ i → ad' i = ad i
theorem Ag.up {a b N q : Nat} {ad : Nat → Nat} (h1 : a ≤ N) (h2 : N < b) : Ag a b ad (up ad N q) := fun i hi => up_n (by omega)
theorem Ag.tr {a b : Nat} {ad ad1 ad2 : Nat → Nat} (h : Ag a b ad ad1) (h2 : Ag a b ad1 ad2) : Ag a b ad ad2 := fun i hi => (h2 i hi).trans (h i hi)
theorem Ag.sy {a b : Nat} {ad ad1 : Nat → Nat} (h : Ag a b ad ad1) : Ag a b ad1 ad := fun i hi => (h i hi).symm
theorem Ag.wd {a b a2 b2 : Nat} {ad ad1 : Nat → Nat} (h : Ag a b ad ad1) (h1 : a2 ≤ a) (h2 : b ≤ b2) : Ag a2 b2 ad ad1 := fun i hi => h i (by omega)
/-- no place from a to b is named -/
def nmV (a b : Nat) (v : Value) : Prop := ∀ N, a ≤ N → N < b → nm N v
def nmC (a b : Nat) (e : va_E) : Prop := ∀ N, a ≤ N → N < b → nmE N e
theorem Ag.i {a b i : Nat} {ad ad' : Nat → Nat} (h : Ag a b ad ad') (hi : ∀ N, a ≤ N → N < b → i ≠ N) : ad' i = ad i := h i (by
  rcases Nat.lt_or_ge i a with q | q
  · exact Or.inl q
  · rcases Nat.lt_or_ge i b with r | r
    · exact absurd rfl (hi i q r)
    · exact Or.inr r)
theorem Ag.xV {a b : Nat} {ad ad' : Nat → Nat} {v : Value} (h : Ag a b ad ad') (hv : nmV a b v) : cV ad' v = cV ad v := by
  cases v with
  | ref i => exact congrArg Value.ref (h.i (fun N h1 h2 => hv N h1 h2))
  | _ => rfl
theorem Ag.xVs {a b : Nat} {ad ad' : Nat → Nat} {st : List Value} (h : Ag a b ad ad') (hv : ∀ v ∈ st, nmV a b v) : st.map (cV ad') = st.map (cV ad) := List.map_congr_left (fun v q => h.xV (hv v q))
theorem Ag.xL {a b : Nat} {ad ad' : Nat → Nat} {lv : List (Nat × Value)} (h : Ag a b ad ad') (hv : ∀ x ∈ lv, nmV a b x.2) : cL ad' lv = cL ad lv := by
  unfold cL
  exact List.map_congr_left (fun x q => by rw [h.xV (hv x q)])
theorem Ag.xE {g : Gx} {a b : Nat} {ad ad' : Nat → Nat} {e : va_E} (h : Ag a b ad ad') (he : nmC a b e) : cE g ad' e = cE g ad e := by
  rcases e with ⟨t, z, f | f | f | f | f⟩ | ⟨ci, fs⟩
  · rfl
  · rfl
  · rfl
  · rfl
  · have e1 : (fun j => (f j).map ad') = (fun j => (f j).map ad) := by
      funext j
      cases hj : f j with
      | none => rfl
      | some i => simp only [Option.map_some]; rw [h.i (fun N h1 h2 => he N h1 h2 j i hj)]
    simp only [cE]
    rw [e1]
  · simp only [cE]
    rw [h.xVs (fun v q N h1 h2 => he N h1 h2 v q)]
theorem Ag.xW {g : Gx} {a b : Nat} {ad ad' : Nat → Nat} {w : AW} (h : Ag a b ad ad') (he : ∀ e ∈ w, nmC a b e) (hN : w.length ≤ a) : cW g ad' w = cW g ad w := by
  apply List.ext_getElem?
  intro i
  simp only [cW, List.getElem?_mapIdx]
  cases hi : w[i]? with
  | none => rfl
  | some e =>
    have hlt := (List.getElem?_eq_some_iff.mp hi).1
    simp only [Option.map_some]
    rw [h i (by omega), h.xE (he e (List.mem_of_getElem? hi))]
/-- a constructor's end: w has grown to w1 -/
def QN (g : Gx) (ad : Nat → Nat) (sz : Nat) (w w1 : AW) : Array Value → State → Outcome → State → Prop := fun _ s o t =>
  (∃ ad' : Nat → Nat, o = .returned none ∧ Ag w.length w1.length ad ad' ∧ va_P g.1 vwCl (cW g ad' w1) t.heap ∧ va_D (va_A (cW g ad w) sz) (cW g ad' w1)) ∧ va_F (va_A (cW g ad w) sz) s t
def CtN (l : Launch) (y : MethodName) (cw : Cond) (d mc ms : Nat) (As : List Value) (w w1 : AW) : Prop := ∀ (g : Gx) (ad : Nat → Nat) (sz : Nat), Met l y [cw] (rmE d mc ms) (PcE g ad sz As w) (QN g ad sz w w1) mc ms (va_A (cW g ad w) sz)
def TgN (w0 w1 : AW) (mc ms : Nat) : TgT := fun below args s g ad => MQ below (QN g ad s.heap.size w0 w1) args s mc ms (va_A (cW g ad w0) s.heap.size)
/-- a world that names only its own places -/
def Cls (w : AW) : Prop := ∀ e ∈ w, ∀ N, w.length ≤ N → nmE N e
theorem TgN_ag {w0 w1 : AW} {mc ms : Nat} (hw : Cls w0) {a b : Nat} (h1 : w0.length ≤ a) (h2 : b ≤ w1.length) {ad ad' : Nat → Nat} (h : Ag a b ad ad') (below : List Frame) (args : Array Value) (s : State) (g : Gx) : TgN w0 w1 mc ms below args s g ad' = TgN w0 w1 mc ms below args s g ad := by
  have e1 : cW g ad' w0 = cW g ad w0 := h.xW (fun e he N q1 _ => hw e he N (by omega)) h1
  have e2 : QN g ad' s.heap.size w0 w1 = QN g ad s.heap.size w0 w1 := by
    funext x y z t
    unfold QN
    rw [e1]
    have h' : Ag w0.length w1.length ad ad' := h.wd h1 h2
    exact propext ⟨fun ⟨⟨ad1, a1, a2, a3, a4⟩, a5⟩ => ⟨⟨ad1, a1, h'.tr a2, a3, a4⟩, a5⟩, fun ⟨⟨ad1, a1, a2, a3, a4⟩, a5⟩ => ⟨⟨ad1, a1, h'.sy.tr a2, a3, a4⟩, a5⟩⟩
  unfold TgN
  rw [e1, e2]
def ZT : State → (Nat → Nat) → Prop := fun _ _ => True
theorem New_N {w0 w1 : AW} {mc ms N : Nat} {lv : List (Nat × Value)} {st : List Value} {w : AW} (h0 : Cls w0) (h1 : w0.length ≤ N) (h2 : N < w1.length) (hl : w.length = N) (ho : ∀ e ∈ w, nmE N e) (hs : ∀ v ∈ st, nm N v) (hv : ∀ x ∈ lv, nm N x.2) : New ZT (TgN w0 w1 mc ms) w0 N lv st w :=
  ⟨⟨hl, ho, hs, hv⟩, fun below args s g ad q => TgN_ag h0 h1 (Nat.succ_le_of_lt h2) (Ag.up (Nat.le_refl _) (Nat.lt_succ_self _)) below args s g, fun _ _ _ _ => trivial, fun e he => h0 e he N h1, h1⟩
theorem EZ_nret {w1 : AW} {mc ms : Nat} (hr : ret = none) (hk : k ≤ mc) (hn : n ≤ ms) (hd : decode cc pc = .ok (.return_, 1)) (hw : w = w1) : EZ Z l own cc nL ret ini hh R w0 (TgN w0 w1 mc ms) k n pc lv [] w := by
  subst hw
  intro p e s m args below meth c g ad hz H locs ls hc hP hD hS hl
  refine W.widen hk hn ?_
  exact W.vret hc.1 hc.2.1 (hc.2.2.2.1.trans hr) (fun t ht hW => ⟨⟨ad, rfl, fun _ _ => rfl, by rw [ht]; exact hP, hD⟩, hS.F ht⟩) hS.2.2 hd hc.2.2.2.2.2.1
theorem CtN_of {y : MethodName} {d mc ms : Nat} {As : List Value} {w1 : AW} (hy : plainName y.cls = true) (hfl : l.stackTraces = false) (hi : y.name = "<init>") (hlen : (lg_sl As).length ≤ nL)
    (h : ∀ hh, EZ ZT l y.cls cc nL none true hh (rmE d mc ms) w (TgN w w1 mc ms) 0 0 0 (lv_args 0 As) [] w) : CtN l y (.code y cc nL none) d mc ms As w w1 := by
  intro g ad sz
  refine Met.ofW (cc := cc) (maxL := nL) (ret := none) hy rfl ?_
  intro p e s m args below meth c s₁ B hml hv
  obtain ⟨rfl, hsz, hcs, hP, hD0, hZ⟩ := hv
  subst hsz
  have hown : s.vm.findClass y.cls = some m.cls := findClass_of_methodNamed B.named
  have hD := hD0.self (sz := s.heap.size)
  have hl := lv_entry (As.map (cV ad)) (n := nL) (by rw [lg_sl_len]; exact hlen)
  rw [lg_entry_eq]
  rw [lv_args_map] at hl
  exact h _ p e s m _ below meth c g ad trivial s.heap [] _ ⟨B.exec, B.bytes, hml, B.returns, hown, B.notSynchronized, fun _ => (name_of_methodNamed B.named B.method).1.trans hi, rfl, hfl, hcs, hZ⟩ hP hD va_S.rf hl
/-- what a call of a constructor asks of its caller: nothing between a and b is named -/
def Old (Z : State → (Nat → Nat) → Prop) (Tg : TgT) (w0 : AW) (a b : Nat) (lv : List (Nat × Value)) (st : List Value) : Prop :=
  ((∀ v ∈ st, nmV a b v) ∧ (∀ x ∈ lv, nmV a b x.2)) ∧ (∀ below args s g ad ad', Ag a b ad ad' → Tg below args s g ad' = Tg below args s g ad) ∧ (∀ s ad ad', Ag a b ad ad' → Z s ad → Z s ad') ∧ (∀ e ∈ w0, nmC a b e) ∧ w0.length ≤ a
theorem Old_N {w0 w1 : AW} {mc ms a b : Nat} {lv : List (Nat × Value)} {st : List Value} (h0 : Cls w0) (h1 : w0.length ≤ a) (h2 : b ≤ w1.length) (hs : ∀ v ∈ st, nmV a b v) (hv : ∀ x ∈ lv, nmV a b x.2) : Old ZT (TgN w0 w1 mc ms) w0 a b lv st :=
  ⟨⟨hs, hv⟩, fun below args s g ad ad' h => TgN_ag h0 h1 h2 h below args s g, fun _ _ _ _ _ => trivial, fun e he N q _ => h0 e he N (by omega), h1⟩
theorem EZ_callN {y : MethodName} {bytes : ByteArray} {maxL d mc ms idx h : Nat} {w1 : AW} (hC : CtN l y (.code y bytes maxL none) d mc ms [.ref h] w w1) (hcw : CwE own idx y bytes maxL none 0) (hin : Wd (.instanceMethod y)) (hnm : y.name = "<init>") (hR : RoomOk R d mc ms maxL k n) (hst : (st.map fun v => v.category).sum ≤ 8) (hd : decode cc pc = .ok (.invokespecial idx, 3))
    (K : Old Z Tg w0 w.length w1.length lv st) (kk : EZ Z l own cc nL ret ini hh R w0 Tg (k + mc) (n + ms) (pc + 3) lv st w1) : EZ Z l own cc nL ret ini hh R w0 Tg k n pc lv (.ref h :: st) w := by
  intro p e s m args below meth c g ad hz H locs ls hc hP hD hS hl
  have hcs := hc.2.2.2.2.2.2.2.2.2.1
  have hrun := va_runI (args := args) (Ts := []) (b := ad h) (As := []) (rest := st.map (cV ad)) (g := F0 m pc ls ((.ref h :: st).map (cV ad))) (e := e) (below := below) (meth := meth) (H := H) (locs := locs) (cells := k) (slots := n) (nL := nL) ⟨hc.1, hc.2.1, hc.2.2.1, hc.2.2.2.2.1, fun _ h => nomatch h⟩ (hC g ad H.size) ⟨hcw.callB hcs hR, hnm, hcs.1.use hin⟩
    ⟨PcE_blind, PcE_at (As := [.ref h]) hcs hc.2.2.2.2.2.2.2.2.2.2 hP hD hS (fun q h => Or.inr h)⟩ rfl rfl hl.1 rfl (lv_room (by rw [cV_sum]; exact hst)) hd ⟨hR.2.2.1, hR.2.2.2⟩
  have hsub := vaA_sub hD hS (fun q h => Or.inr h)
  intro T hT X9
  obtain ⟨v, st₀, t, T', L, h0, X', hL, e1, e2, ⟨⟨ad', ho, hag, hP', hD'⟩, hF⟩, stp⟩ := hrun T hT X9
  cases ho
  obtain ⟨-, -, hS'⟩ := vx_keep h0 e1 hS (fun q _ h => hsub q h) hsub hL hF
  have e0 : cW g ad' w0 = cW g ad w0 := hag.xW K.2.2.2.1 K.2.2.2.2
  have hk := kk p e s m args below meth c g ad' (K.2.2.1 s ad ad' hag hz) T'.heap (locs ++ L) ls
  rw [e0, hag.xL K.1.2, K.2.1 below args s g ad ad' hag, hag.xVs K.1.1] at hk
  obtain ⟨t2, a1, b1⟩ := hk hc (by rw [e1]; exact hP') (hD'.weaken (fun _ q _ h => hsub q.1 h)) hS' hl T' rfl X'
  exact ⟨t2, stp t2 a1, b1⟩
theorem EZ_aast {i z v : Nat} {f : Nat → Option Nat} {vs : List Value} {j : Int32} (jx : Nat) (hw : w[i]? = some (.inl (2, z, .inr (.inr (.inr (.inr f)))))) (hv : w[v]? = some (.inr (1, vs))) (hj : j.toInt = (jx : Int)) (hlt : jx < z) (hd : decode cc pc = .ok (.aastore, 1))
    (kk : EZ Z l own cc nL ret ini hh R w0 Tg k n (pc + 1) lv st (w.set i (.inl (2, z, .inr (.inr (.inr (.inr (fun q => if q = jx then some v else f q)))))))) : EZ Z l own cc nL ret ini hh R w0 Tg k n pc lv (.ref v :: .int j :: .ref i :: st) w := by
  intro p e s m args below meth c g ad hz H locs ls hc hP hD hS hl
  have hT := hc.2.2.2.2.2.2.2.2.2.1
  refine va_astq hc.1 hc.2.1 hT.2.2.2 hP hD hS i 2 v 1 (cW_at hw) rfl (cW_at hv) rfl (vpi hj hlt) hd (fun H1 locs1 hP1 hD1 hS1 => ?_)
  have e1 : (ad i, (Sum.inl (g.2 2, z, .inr (.inr (.inr (.inr (va_up (fun q => (f q).map ad) j.toNatClampNeg (some (ad v))))))) : va_E)) = (ad i, cE g ad (.inl (2, z, .inr (.inr (.inr (.inr (fun q => if q = jx then some v else f q))))))) := by
    rw [tNC j hj]
    simp only [cE]
    congr 8
    funext q
    unfold va_up
    split <;> rfl
  rw [e1, cW_set] at hP1 hD1
  exact kk p e s m args below meth c g ad hz H1 locs1 ls hc hP1 hD1 hS1 hl
end GROW2
