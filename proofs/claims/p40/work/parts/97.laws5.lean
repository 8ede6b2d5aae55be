section LWS5
/-- the law's end, whatever its arguments are called -/
theorem lw_retA {p : Program} {l : Launch} {e : Env} {s : State} {m : MethodId} {args : Array Value} {below : List Frame} {meth : Method} {c : Code} (hx : p.tables.exec = Jvm.exec) (hb : c.code = cL_law) (hr : meth.sig.returnType = some .boolean) (hlocks : meth.locks = false) {pc : Nat} {H : Heap} {ls : Array Slot} (hdg : decode cL_law pc = .ok (.ireturn, 1)) : W p l e room_1 s m args below meth c H [] 600130 7301080 (lw_Z below args s) (F0 m pc ls [.int 1]) := by
  intro T hT X
  obtain ⟨fs, hret, hrun, hended, hW, hframe⟩ := X.leave (v := some (.int 1)) (hlocks := hlocks) (fun h => by rw [hr] at h; cases h)
  have hmeth' : T.vm.method? m = some meth := X.method'
  refine ⟨T.setFrames fs, ?_, .returned (some (.int 1)), hrun, hended, rfl, ⟨_, rfl⟩, hW, hframe⟩
  jvm_step X.here [X.here.top, hx, hb, hdg, hmeth', hr, ret, narrow_b1]
  (try refine ⟨rfl, ?_⟩); (try refine ⟨rfl, ?_⟩)
  first | (intro acts; rw [hret _ acts rfl rfl rfl]) | rw [hret _ _ rfl rfl rfl]
  exact Steps.refl _
/-- what the law's entry knows: the script at b, the casts that fail -/
def LZ (b L : Nat) (xs : Nat → Int32) : State → (Nat → Nat) → Prop := fun s ad => ad 99 = b ∧ va_X b L xs s s.heap ∧ b < s.heap.size ∧ Nc2 s
theorem znL {b L : Nat} {xs : Nat → Int32} : ∀ (s : State) (ad : Nat → Nat), LZ b L xs s ad → Nc2 s := fun _ _ h => h.2.2.2
def TgL : TgT := fun below args s _ _ => lw_Z below args s
abbrev LW (hh : List ExceptionTableEntry) (l : Launch) (b L : Nat) (xs : Nat → Int32) (k n pc : Nat) (lv : List (Nat × Value)) (st : List Value) (w : AW) : Prop := EZ (LZ b L xs) l RL cL_law 15 (some .boolean) false hh room_1 [] TgL k n pc lv st w
theorem rokL {d' mc' ms' maxL k n : Nat} (h1 : d' + 7 ≤ 2048) (h2 : 8 + (maxL + 11) + (60 * d' + 100) ≤ 84000) (h3 : k + mc' ≤ 600130) (h4 : n + ms' ≤ 7301080) : RoomOk room_1 d' mc' ms' maxL k n := ⟨h1, h2, h3, h4⟩
theorem vaA_nil {sz b : Nat} (h : b < sz) : ¬ va_A [] sz b := by
  intro q
  rcases q with ⟨k, e, q⟩ | q
  · simp at q
  · omega
theorem wl_len (mi : MI) (ml : MJ) : (wl mi ml).length = 61 := by unfold wl; rw [List.length_mapIdx]; rfl
theorem vaA_no {g : Gx} {ad : Nat → Nat} {mi : MI} {ml : MJ} {sz b : Nat} (h : ∀ i, i < 61 → ad i ≠ b) (hb : b < sz) : ¬ va_A (cW g ad (wl mi ml)) sz b := by
  intro q
  rcases q with ⟨k, e, q⟩ | q
  · have hk : k < 61 := by
      have h9 := (List.getElem?_eq_some_iff.mp q).1
      simp only [cW, List.length_mapIdx, wl_len] at h9
      exact h9
    have e9 : (wl mi ml)[k]? = some ((wl mi ml)[k]'(by rw [wl_len]; exact hk)) := List.getElem?_eq_getElem _
    rw [cW_at e9] at q
    exact h k hk (congrArg Prod.fst (Option.some.inj q))
  · omega
/-- the script in a method that is given it -/
def CZ (b L : Nat) (xs : Nat → Int32) : State → (Nat → Nat) → Prop := fun s ad => ad 99 = b ∧ va_X b L xs s s.heap ∧ b < s.heap.size ∧ ∀ i, i < 61 → ad i ≠ b
def CtX (b L : Nat) (xs : Nat → Int32) (l : Launch) (y : MethodName) (cw : Cond) (d mc ms : Nat) (As : List Value) (w : AW) (Q : Option Value → AW → Prop) (X : String → AW → Prop) : Prop :=
  ∀ (g : Gx) (ad : Nat → Nat) (sz : Nat), vx_Met l y [cw] (rmE d mc ms) (fun a U => PcE g ad sz As w a U ∧ CZ b L xs U ad) (QcE g ad sz w Q) (XcE g ad sz w X) mc ms (va_A (cW g ad w) sz)
theorem CtX_of {b L : Nat} {xs : Nat → Int32} {l : Launch} {y : MethodName} {cc : ByteArray} {nL : Nat} {ret : Option FieldType} {d mc ms : Nat} {As : List Value} {w : AW} {Q : Option Value → AW → Prop} {X : String → AW → Prop} (hy : plainName y.cls = true) (hfl : l.stackTraces = false) (hlen : (lg_sl As).length ≤ nL)
    (h : EZ (CZ b L xs) l y.cls cc nL ret false [] (rmE d mc ms) w (TgM w mc ms Q X) 0 0 0 (lv_args 0 As) [] w) : CtX b L xs l y (.code y cc nL ret) d mc ms As w Q X := by
  intro g ad sz
  refine vx_ofW (cc := cc) (maxL := nL) (ret := ret) hy rfl ?_
  intro p e s m args below meth c s₁ B hml hex hv
  obtain ⟨⟨rfl, hsz, hcs, hP, hD0, hZ⟩, hnc⟩ := hv
  subst hsz
  have hown : s.vm.findClass y.cls = some m.cls := findClass_of_methodNamed B.named
  have hD := hD0.self (sz := s.heap.size)
  have hl := lv_entry (As.map (cV ad)) (n := nL) (by rw [lg_sl_len]; exact hlen)
  rw [lg_entry_eq]
  rw [lv_args_map] at hl
  exact h p e s m _ below meth c g ad hnc s.heap [] _ ⟨B.exec, B.bytes, hml, B.returns, hown, B.notSynchronized, fun q => (by cases q), List.eq_nil_iff_forall_not_mem.mpr hex, hfl, hcs, hZ⟩ hP hD va_S.rf hl
section crows
variable {b L : Nat} {xs : Nat → Int32} {l : Launch} {own : String} {cc : ByteArray} {nL : Nat} {ret : Option FieldType} {ini : Bool} {hh : List ExceptionTableEntry} {R : Room} {Tg : TgT} {k n pc : Nat} {lv : List (Nat × Value)} {st : List Value} {w : AW} {mi : MI} {ml : MJ}
theorem C_len (hd : decode cc pc = .ok (.arraylength, 1)) (kk : EZ (CZ b L xs) l own cc nL ret ini hh R (wl mi ml) Tg k n (pc + 1) lv (.int (Int32.ofNat L) :: st) w) : EZ (CZ b L xs) l own cc nL ret ini hh R (wl mi ml) Tg k n pc lv (.ref 99 :: st) w := by
  intro p e s m args below meth c g ad hz H locs ls hc hP hD hS hl
  show W p l e R s m args below meth c H locs k n (Tg below args s g ad) (F0 m pc ls (.ref (ad 99) :: st.map (cV ad)))
  rw [hz.1]
  exact va_slen hc.1 hc.2.1 hz.2.1 hz.2.2.1 (vaA_no hz.2.2.2 hz.2.2.1) hS hd (kk p e s m args below meth c g ad hz H locs ls hc hP hD hS hl)
theorem C_ld {j : Int32} (jx : Nat) (hj : j.toInt = (jx : Int)) (hlt : jx < L) (hd : decode cc pc = .ok (.iaload, 1)) (kk : EZ (CZ b L xs) l own cc nL ret ini hh R (wl mi ml) Tg k n (pc + 1) lv (.int (xs jx) :: st) w) : EZ (CZ b L xs) l own cc nL ret ini hh R (wl mi ml) Tg k n pc lv (.int j :: .ref 99 :: st) w := by
  intro p e s m args below meth c g ad hz H locs ls hc hP hD hS hl
  show W p l e R s m args below meth c H locs k n (Tg below args s g ad) (F0 m pc ls (.int j :: .ref (ad 99) :: st.map (cV ad)))
  rw [hz.1]
  refine va_sld hc.1 hc.2.1 hz.2.1 hz.2.2.1 (vaA_no hz.2.2.2 hz.2.2.1) hS (vpi hj hlt) hd ?_
  rw [tNC j hj]
  exact kk p e s m args below meth c g ad hz H locs ls hc hP hD hS hl
end crows
section lrows
variable {l : Launch} {hh : List ExceptionTableEntry} {b L : Nat} {xs : Nat → Int32} {k n pc : Nat} {lv : List (Nat × Value)} {st : List Value} {w : AW} {mi : MI} {ml : MJ}
theorem L_ret (hk : k ≤ 600130) (hn : n ≤ 7301080) (hd : decode cL_law pc = .ok (.ireturn, 1)) : LW hh l b L xs k n pc lv [.int 1] w := by
  intro p e s m args below meth c g ad hz H locs ls hc hP hD hS hl
  refine va_forget (fun q hq => ?_) ?_
  · rcases hS.2.2 q hq with ⟨k9, e9, q9⟩ | q9
    · simp [cW] at q9
    · exact q9
  refine W.widen hk hn ?_
  exact lw_retA hc.1 hc.2.1 hc.2.2.2.1 hc.2.2.2.2.2.1 hd
theorem L_callX {y : MethodName} {bytes : ByteArray} {maxL nA d mc ms idx : Nat} {rt : Option FieldType} {As : List Value} {Q : Option Value → AW → Prop} (hC : CtX b L xs l y (.code y bytes maxL rt) d mc ms As (wl mi ml) Q noX)
    (hcw : CwE RL idx y bytes maxL rt nA) (hin : Wd (.static y)) (hA : As.length = nA) (hR : RoomOk room_1 d mc ms maxL k n) (hst : (st.map fun v => v.category).sum ≤ 8)
    (hd : decode cL_law pc = .ok (.invokestatic idx, 3)) {st0 : List Value} (hst0 : As.reverse ++ st = st0)
    (kk : ∀ (rv : Option Value) (w' : AW), Q rv w' → LW hh l b L xs (k + mc) (n + ms) (pc + 3) lv (rv.toList ++ st) w') : LW hh l b L xs k n pc lv st0 (wl mi ml) := by
  subst hst0
  intro p e s m args below meth c g ad hz H locs ls hc hP hD hS hl
  have hcs := hc.2.2.2.2.2.2.2.2.2.1
  have hrun := vx_runS (args := args) (Ts := []) (As := As.map (cV ad)) (rest := st.map (cV ad)) (g := F0 m pc ls ((As.reverse ++ st).map (cV ad))) (e := e) (below := below) (meth := meth) (H := H) (locs := locs) (cells := k) (slots := n) (nL := 15) ⟨hc.1, hc.2.1, hc.2.2.1, hc.2.2.2.2.1, fun _ h => nomatch h⟩ (hC g ad H.size) ⟨hcw.callB hcs hR, hcs.1.use hin⟩
    ⟨fun a U gg mk q => ⟨PcE_blind a U gg mk q.1, ⟨q.2.1, va_X.moved (u := U) (U := U.calling gg mk a) (Vm.Alike.refl U.vm) q.2.2.1, q.2.2.2.1, q.2.2.2.2⟩⟩, fun U hU hW => ⟨PcE_at (As := As) hcs hc.2.2.2.2.2.2.2.2.2.2 hP hD hS (fun q h => Or.inr h) U hU hW, ⟨hz.1, by rw [hU]; exact (va_X.moved hW.alike hz.2.1).kept (hS.2.1 b hz.2.2.1 (vaA_nil hz.2.2.1)), by rw [hU]; exact Nat.lt_of_lt_of_le hz.2.2.1 hS.1, fun i hi e9 => by
      have e8 : (wl mi ml)[i]? = some ((wl mi ml)[i]'(by rw [wl_len]; exact hi)) := List.getElem?_eq_getElem _
      have h9 := hD.2 i _ (cW_at e8)
      rcases h9 with ⟨k9, e7, q9⟩ | q9
      · simp [cW] at q9
      · have h8 : s.heap.size ≤ ad i := q9
        have h7 := hz.2.2.1
        omega⟩⟩⟩ rfl (by simpa using hA) hl.1 (by simp [List.map_append, List.map_reverse]) (lv_room (by rw [cV_sum]; exact hst)) hd ⟨hR.2.2.1, hR.2.2.2⟩
  exact RunEZ_go (w0 := []) (st := st) (lv := lv) hz hrun hc hD hS hl (fun En w' _ _ _ _ h => h.elim) kk
end lrows
set_option maxRecDepth 100000 in
theorem z_cell (l : Launch) (hfl : l.stackTraces = false) {b L : Nat} {xs : Nat → Int32} (hL : L ≤ 260) (mi : MI) (ml : MJ) (xk : Int32) (K : Nat) (hk : xk.toInt = (K : Int)) : CtX b L xs l yL_cell (.code yL_cell cL_cell 2 (some .int)) 1 0 0 [.ref 99, .int xk] (wl mi ml) (QI (fun r mi9 ml9 => mi = mi9 ∧ ml = ml9 ∧ True)) noX := by
  refine CtX_of pn_L hfl (Nat.le_of_ble_eq_true rfl) ?_
  show EZ (CZ b L xs) l RL cL_cell 2 (some .int) false [] (rmE 1 0 0) (wl mi ml) (TgM (wl mi ml) 0 0 (QI (fun r mi9 ml9 => mi = mi9 ∧ ml = ml9 ∧ True)) noX) 0 0 0 [(0, .ref 99), (1, .int xk)] [] (wl mi ml)
  have hLi : (Int32.ofNat L).toInt = (L : Int) := tI_nI (n := L) (by omega)
  refine EZ_iload_n 1 dL_cell_0 rfl rfl ?_
  refine EZ_aload_n 0 dL_cell_1 rfl rfl ?_
  refine C_len dL_cell_2 ?_
  refine ZZ_ge (K : Int) (L : Int) hk hLi 12 dL_cell_3 (by decide) (fun c_3 => ?_) (fun c_3 => ?_)
  · refine EZ_ldc wk_L_7 dL_cell_12 ?_
    refine EZ_iload_n 1 dL_cell_14 rfl rfl ?_
    refine EZ_sipush 1297 (by decide) dL_cell_15 ?_
    refine EZ_iadd dL_cell_18 ?_
    refine EZ_imul dL_cell_19 ?_
    refine EZ_sipush 1103 (by decide) dL_cell_20 ?_
    refine EZ_iadd dL_cell_23 ?_
    exact EZ_iret rfl (Nat.le_refl _) (Nat.le_refl _) dL_cell_24 (okQI ⟨rfl, rfl, trivial⟩)
  · refine EZ_aload_n 0 dL_cell_6 rfl rfl ?_
    refine EZ_iload_n 1 dL_cell_7 rfl rfl ?_
    refine C_ld K hk (by omega) dL_cell_8 ?_
    refine EZ_goto 24 dL_cell_9 (by decide) ?_
    exact EZ_iret rfl (Nat.le_refl _) (Nat.le_refl _) dL_cell_24 (okQI ⟨rfl, rfl, trivial⟩)
end LWS5
