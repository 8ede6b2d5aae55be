section LW2
/-- the law's end, whatever its arguments are called -/
theorem lw_retA {p : Program} {l : Launch} {e : Env} {s : State} {m : MethodId} {args : Array Value} {below : List Frame} {meth : Method} {c : Code} (hx : p.tables.exec = Jvm.exec) (hb : c.code = cL_law) (hr : meth.sig.returnType = some .boolean) (hlocks : meth.locks = false) {pc : Nat} {H : Heap} {ls : Array Slot} (hdg : decode cL_law pc = .ok (.ireturn, 1)) : W p l e room_1 s m args below meth c H [] 601024 7293034 (lw_Z below args s) (F0 m pc ls [.int 1]) := by
  intro T hT X
  obtain ⟨fs, hret, hrun, hended, hW, hframe⟩ := X.leave (v := some (.int 1)) (hlocks := hlocks) (fun h => by rw [hr] at h; cases h)
  have hmeth' : T.vm.method? m = some meth := X.method'
  refine ⟨T.setFrames fs, ?_, .returned (some (.int 1)), hrun, hended, rfl, ⟨_, rfl⟩, hW, hframe⟩
  jvm_step X.here [X.here.top, hx, hb, hdg, hmeth', hr, ret, narrow_b1]
  (try refine ⟨rfl, ?_⟩); (try refine ⟨rfl, ?_⟩)
  first | (intro acts; rw [hret _ acts rfl rfl rfl]) | rw [hret _ _ rfl rfl rfl]
  exact Steps.refl _
/-- what the law's entry knows: the script at b, the casts that fail -/
def LZ (b L : Nat) (xs : Nat → Int32) : State → (Nat → Nat) → Prop := fun s ad => ad 99 = b ∧ va_X b L xs s s.heap ∧ b < s.heap.size ∧ Nc2 s
def TgL : TgT := fun below args s _ _ => lw_Z below args s
abbrev LW (hh : List ExceptionTableEntry) (l : Launch) (b L : Nat) (xs : Nat → Int32) (k n pc : Nat) (lv : List (Nat × Value)) (st : List Value) (w : AW) : Prop := EZ (LZ b L xs) l RL cL_law 8 (some .boolean) false hh room_1 [] TgL k n pc lv st w
theorem vaA_nil {sz b : Nat} (h : b < sz) : ¬ va_A [] sz b := by
  intro q
  rcases q with ⟨k, e, q⟩ | q
  · simp at q
  · omega
section rows
variable {l : Launch} {hh : List ExceptionTableEntry} {b L : Nat} {xs : Nat → Int32} {k n pc : Nat} {lv : List (Nat × Value)} {st : List Value} {w : AW}
theorem L_len (hd : decode cL_law pc = .ok (.arraylength, 1)) (kk : LW hh l b L xs k n (pc + 1) lv (.int (Int32.ofNat L) :: st) w) : LW hh l b L xs k n pc lv (.ref 99 :: st) w := by
  intro p e s m args below meth c g ad hz H locs ls hc hP hD hS hl
  show W p l e room_1 s m args below meth c H locs k n (TgL below args s g ad) (F0 m pc ls (.ref (ad 99) :: st.map (cV ad)))
  rw [hz.1]
  exact va_slen hc.1 hc.2.1 hz.2.1 hz.2.2.1 (vaA_nil hz.2.2.1) hS hd (kk p e s m args below meth c g ad hz H locs ls hc hP hD hS hl)
theorem L_ld {j : Int32} (jx : Nat) (hj : j.toInt = (jx : Int)) (hlt : jx < L) (hd : decode cL_law pc = .ok (.iaload, 1)) (kk : LW hh l b L xs k n (pc + 1) lv (.int (xs jx) :: st) w) : LW hh l b L xs k n pc lv (.int j :: .ref 99 :: st) w := by
  intro p e s m args below meth c g ad hz H locs ls hc hP hD hS hl
  show W p l e room_1 s m args below meth c H locs k n (TgL below args s g ad) (F0 m pc ls (.int j :: .ref (ad 99) :: st.map (cV ad)))
  rw [hz.1]
  refine va_sld hc.1 hc.2.1 hz.2.1 hz.2.2.1 (vaA_nil hz.2.2.1) hS (vpi hj hlt) hd ?_
  rw [tNC j hj]
  exact kk p e s m args below meth c g ad hz H locs ls hc hP hD hS hl
theorem L_ret (hk : k ≤ 601024) (hn : n ≤ 7293034) (hd : decode cL_law pc = .ok (.ireturn, 1)) : LW hh l b L xs k n pc lv [.int 1] w := by
  intro p e s m args below meth c g ad hz H locs ls hc hP hD hS hl
  refine va_forget (fun q hq => ?_) ?_
  · rcases hS.2.2 q hq with ⟨k9, e9, q9⟩ | q9
    · simp [cW] at q9
    · exact q9
  refine W.widen hk hn ?_
  exact lw_retA hc.1 hc.2.1 hc.2.2.2.1 hc.2.2.2.2.2.1 hd
/-- the words of a call of a method with handlers -/
def CwH (own : String) (idx : Nat) (y : MethodName) (bytes : ByteArray) (maxL : Nat) (rt : Option FieldType) (hh : List (Nat × Nat × Nat × Nat)) (nA : Nat) : Prop :=
  Wd (.methodLink own idx y) ∧ Wd (.codeWith y bytes maxL rt hh) ∧ Wd (.initialized y.cls) ∧ (y.cls ≠ "java/lang/invoke/MethodHandle" ∧ y.cls ≠ "java/lang/invoke/VarHandle") ∧ (parseMethodDescriptor y.desc).map (fun d => d.parameters.length) = some nA ∧ Wd (.static y)
theorem Nc2.mv {s U : State} (h : s.vm.Alike U.vm) (q : Nc2 s) : Nc2 U := ⟨q.1.moved h, q.2.moved h⟩
theorem L_callH {y : MethodName} {bytes : ByteArray} {maxL nA d mc ms idx : Nat} {rt : Option FieldType} {hhs : List (Nat × Nat × Nat × Nat)} {As : List Value} {Q : Option Value → AW → Prop} (hC : CtH l y (.codeWith y bytes maxL rt hhs) d mc ms As w Q noX)
    (hcw : CwH RL idx y bytes maxL rt hhs nA) (hA : As.length = nA) (hR : RoomOk room_1 d mc ms maxL k n) (hst : (st.map fun v => v.category).sum ≤ 8)
    (hd : decode cL_law pc = .ok (.invokestatic idx, 3)) {st0 : List Value} (hst0 : As.reverse ++ st = st0)
    (kk : ∀ (rv : Option Value) (w' : AW), Q rv w' → LW hh l b L xs (k + mc) (n + ms) (pc + 3) lv (rv.toList ++ st) w') : LW hh l b L xs k n pc lv st0 w := by
  subst hst0
  intro p e s m args below meth c g ad hz H locs ls hc hP hD hS hl
  have hcs := hc.2.2.2.2.2.2.2.2.2.1
  obtain ⟨h1, h2, h3, h4, h5, h6⟩ := hcw
  have hrun := vx_runSX (args := args) (Ts := []) (As := As.map (cV ad)) (rest := st.map (cV ad)) (g := F0 m pc ls ((As.reverse ++ st).map (cV ad))) (e := e) (below := below) (meth := meth) (H := H) (locs := locs) (cells := k) (slots := n) (nL := 8) ⟨hc.1, hc.2.1, hc.2.2.1, hc.2.2.2.2.1, fun _ h => nomatch h⟩ (hC g ad H.size)
    ⟨⟨rfl, rfl, hR.1, hR.2.1, fun w9 hw9 a' U hW => by rw [List.mem_singleton.mp hw9]; exact (hcs.1.move hW).use h2, List.mem_singleton.mpr rfl⟩, hcs.1.use h2, hcs.1.use h3, h4, fun sig hs => by rw [hs] at h5; exact (Option.some.inj h5).symm, hcs.1.use h1, hcs.1.use h6⟩
    ⟨fun a U gg mk q => ⟨PcE_blind a U gg mk q.1, Nc2.mv (Vm.Alike.refl U.vm) q.2⟩, fun U hU hW => ⟨PcE_at (As := As) hcs hc.2.2.2.2.2.2.2.2.2.2 hP hD hS (fun q h => Or.inr h) U hU hW, Nc2.mv hW.alike hz.2.2.2⟩⟩ rfl (by simpa using hA) hl.1 (by simp [List.map_append, List.map_reverse]) (lv_room (by rw [cV_sum]; exact hst)) hd ⟨hR.2.2.1, hR.2.2.2⟩
  exact RunEZ_go (w0 := []) (st := st) (lv := lv) hz hrun hc hD hS hl (fun En w' _ _ _ _ h => h.elim) kk
theorem L_kQ {PN : Int32 → MI → MJ → Prop} {PX : String → MI → MJ → Prop} {cd : String → Int32} (h : ∀ (r : Int32) (mi : MI) (ml : MJ), ((r = 0 ∧ ∃ (v : Int32) (mk : MJ), PN v mi mk ∧ u2 mk 73 0 v.toInt64 = ml) ∨ ∃ En, PX En mi ml ∧ r = cd En) → LW hh l b L xs k n pc lv (.int r :: st) (wl mi ml)) : ∀ (rv : Option Value) (w : AW), HQ PN PX cd rv w → LW hh l b L xs k n pc lv (rv.toList ++ st) w := by
  intro rv w hq
  obtain ⟨r, mi, ml, h1, h2, h3⟩ := hq
  rw [h1, h2]
  exact h r mi ml h3
theorem L_kJ {PN : Int64 → MI → MJ → Prop} {PX : String → MI → MJ → Prop} {cd : String → Int32} (h : ∀ (r : Int32) (mi : MI) (ml : MJ), ((r = 0 ∧ ∃ (v : Int64) (mk : MJ), PN v mi mk ∧ u2 mk 73 0 v = ml) ∨ ∃ En, PX En mi ml ∧ r = cd En) → LW hh l b L xs k n pc lv (.int r :: st) (wl mi ml)) : ∀ (rv : Option Value) (w : AW), HJ PN PX cd rv w → LW hh l b L xs k n pc lv (rv.toList ++ st) w := by
  intro rv w hq
  obtain ⟨r, mi, ml, h1, h2, h3⟩ := hq
  rw [h1, h2]
  exact h r mi ml h3
end rows
def lvL (i : Int32) : List (Nat × Value) := [(0, .ref 99), (1, .ref 0), (2, .ref 61), (3, .ref 73), (4, .int i)]
/-- go on at the loop's end -/
def LK (hh : List ExceptionTableEntry) (l : Launch) (b L : Nat) (xs : Nat → Int32) (j : Nat) (i : Int32) : Prop := ∀ (k n : Nat) (mi : MI) (ml : MJ), k ≤ 6000 + 1000 * j → n ≤ 20000 + 10000 * j → Rel mi ml → LW hh l b L xs k n 1999 [(0, .ref 99), (1, .ref 0), (2, .ref 61), (3, .ref 73), (4, .int i)] [] (wl mi ml)
theorem cwH_101 : CwH RL 101 yL_addCarrier cL_addCarrier 5 (some .int) [((0 : Nat), (10 : Nat), (13 : Nat), (13 : Nat)), ((0 : Nat), (10 : Nat), (17 : Nat), (15 : Nat))] 4 := ⟨⟨List.mem_of_getElem? (i := 546) (by decide +kernel), rfl⟩, ⟨List.mem_of_getElem? (i := 548) (by decide +kernel), rfl⟩, wz_L, ⟨by decide, by decide⟩, by decide +kernel, ⟨List.mem_of_getElem? (i := 547) (by decide +kernel), rfl⟩⟩
theorem cwH_110 : CwH RL 110 yL_moveCarrier cL_moveCarrier 6 (some .int) [((0 : Nat), (12 : Nat), (15 : Nat), (21 : Nat)), ((0 : Nat), (12 : Nat), (19 : Nat), (13 : Nat))] 5 := ⟨⟨List.mem_of_getElem? (i := 647) (by decide +kernel), rfl⟩, ⟨List.mem_of_getElem? (i := 649) (by decide +kernel), rfl⟩, wz_L, ⟨by decide, by decide⟩, by decide +kernel, ⟨List.mem_of_getElem? (i := 648) (by decide +kernel), rfl⟩⟩
theorem cwH_114 : CwH RL 114 yL_removeCarrier cL_removeCarrier 4 (some .int) [((0 : Nat), (9 : Nat), (12 : Nat), (21 : Nat))] 3 := ⟨⟨List.mem_of_getElem? (i := 679) (by decide +kernel), rfl⟩, ⟨List.mem_of_getElem? (i := 681) (by decide +kernel), rfl⟩, wz_L, ⟨by decide, by decide⟩, by decide +kernel, ⟨List.mem_of_getElem? (i := 680) (by decide +kernel), rfl⟩⟩
theorem cwH_118 : CwH RL 118 yL_shift cL_shift 4 (some .int) [((0 : Nat), (9 : Nat), (12 : Nat), (13 : Nat)), ((0 : Nat), (9 : Nat), (15 : Nat), (15 : Nat))] 3 := ⟨⟨List.mem_of_getElem? (i := 692) (by decide +kernel), rfl⟩, ⟨List.mem_of_getElem? (i := 694) (by decide +kernel), rfl⟩, wz_L, ⟨by decide, by decide⟩, by decide +kernel, ⟨List.mem_of_getElem? (i := 693) (by decide +kernel), rfl⟩⟩
theorem cwH_121 : CwH RL 121 yL_setProducts cL_setProducts 6 (some .int) [((0 : Nat), (12 : Nat), (15 : Nat), (13 : Nat))] 5 := ⟨⟨List.mem_of_getElem? (i := 705) (by decide +kernel), rfl⟩, ⟨List.mem_of_getElem? (i := 707) (by decide +kernel), rfl⟩, wz_L, ⟨by decide, by decide⟩, by decide +kernel, ⟨List.mem_of_getElem? (i := 706) (by decide +kernel), rfl⟩⟩
theorem cwH_124 : CwH RL 124 yL_setSpacing cL_setSpacing 5 (some .int) [((0 : Nat), (10 : Nat), (13 : Nat), (13 : Nat))] 4 := ⟨⟨List.mem_of_getElem? (i := 716) (by decide +kernel), rfl⟩, ⟨List.mem_of_getElem? (i := 718) (by decide +kernel), rfl⟩, wz_L, ⟨by decide, by decide⟩, by decide +kernel, ⟨List.mem_of_getElem? (i := 717) (by decide +kernel), rfl⟩⟩
theorem cwH_127 : CwH RL 127 yL_size cL_size 4 (some .int) [((0 : Nat), (9 : Nat), (12 : Nat), (13 : Nat))] 3 := ⟨⟨List.mem_of_getElem? (i := 724) (by decide +kernel), rfl⟩, ⟨List.mem_of_getElem? (i := 726) (by decide +kernel), rfl⟩, wz_L, ⟨by decide, by decide⟩, by decide +kernel, ⟨List.mem_of_getElem? (i := 725) (by decide +kernel), rfl⟩⟩
theorem cwH_130 : CwH RL 130 yL_carrier cL_carrier 5 (some .int) [((0 : Nat), (10 : Nat), (13 : Nat), (21 : Nat))] 4 := ⟨⟨List.mem_of_getElem? (i := 732) (by decide +kernel), rfl⟩, ⟨List.mem_of_getElem? (i := 734) (by decide +kernel), rfl⟩, wz_L, ⟨by decide, by decide⟩, by decide +kernel, ⟨List.mem_of_getElem? (i := 733) (by decide +kernel), rfl⟩⟩
theorem cwH_143 : CwH RL 143 yL_product cL_product 5 (some .int) [((0 : Nat), (10 : Nat), (13 : Nat), (21 : Nat)), ((0 : Nat), (10 : Nat), (17 : Nat), (13 : Nat))] 4 := ⟨⟨List.mem_of_getElem? (i := 739) (by decide +kernel), rfl⟩, ⟨List.mem_of_getElem? (i := 741) (by decide +kernel), rfl⟩, wz_L, ⟨by decide, by decide⟩, by decide +kernel, ⟨List.mem_of_getElem? (i := 740) (by decide +kernel), rfl⟩⟩
theorem cwH_146 : CwH RL 146 yL_fallout cL_fallout 4 (some .int) [((0 : Nat), (8 : Nat), (11 : Nat), (13 : Nat))] 3 := ⟨⟨List.mem_of_getElem? (i := 748) (by decide +kernel), rfl⟩, ⟨List.mem_of_getElem? (i := 750) (by decide +kernel), rfl⟩, wz_L, ⟨by decide, by decide⟩, by decide +kernel, ⟨List.mem_of_getElem? (i := 749) (by decide +kernel), rfl⟩⟩
theorem cwH_153 : CwH RL 153 yL_hitsOn cL_hitsOn 4 (some .int) [((0 : Nat), (9 : Nat), (12 : Nat), (21 : Nat))] 3 := ⟨⟨List.mem_of_getElem? (i := 768) (by decide +kernel), rfl⟩, ⟨List.mem_of_getElem? (i := 770) (by decide +kernel), rfl⟩, wz_L, ⟨by decide, by decide⟩, by decide +kernel, ⟨List.mem_of_getElem? (i := 769) (by decide +kernel), rfl⟩⟩
theorem cwH_169 : CwH RL 169 yL_leastSpan cL_leastSpan 4 (some .int) [((0 : Nat), (9 : Nat), (12 : Nat), (13 : Nat))] 3 := ⟨⟨List.mem_of_getElem? (i := 775) (by decide +kernel), rfl⟩, ⟨List.mem_of_getElem? (i := 777) (by decide +kernel), rfl⟩, wz_L, ⟨by decide, by decide⟩, by decide +kernel, ⟨List.mem_of_getElem? (i := 776) (by decide +kernel), rfl⟩⟩
theorem cwH_172 : CwH RL 172 yL_bestRuler cL_bestRuler 4 (some .int) [((0 : Nat), (8 : Nat), (11 : Nat), (13 : Nat))] 3 := ⟨⟨List.mem_of_getElem? (i := 804) (by decide +kernel), rfl⟩, ⟨List.mem_of_getElem? (i := 806) (by decide +kernel), rfl⟩, wz_L, ⟨by decide, by decide⟩, by decide +kernel, ⟨List.mem_of_getElem? (i := 805) (by decide +kernel), rfl⟩⟩
theorem cwH_175 : CwH RL 175 yL_rulers cL_rulers 5 (some .int) [((0 : Nat), (10 : Nat), (13 : Nat), (13 : Nat))] 4 := ⟨⟨List.mem_of_getElem? (i := 815) (by decide +kernel), rfl⟩, ⟨List.mem_of_getElem? (i := 817) (by decide +kernel), rfl⟩, wz_L, ⟨by decide, by decide⟩, by decide +kernel, ⟨List.mem_of_getElem? (i := 816) (by decide +kernel), rfl⟩⟩
theorem cwH_178 : CwH RL 178 yL_openings cL_openings 4 (some .int) [((0 : Nat), (8 : Nat), (11 : Nat), (13 : Nat))] 3 := ⟨⟨List.mem_of_getElem? (i := 823) (by decide +kernel), rfl⟩, ⟨List.mem_of_getElem? (i := 825) (by decide +kernel), rfl⟩, wz_L, ⟨by decide, by decide⟩, by decide +kernel, ⟨List.mem_of_getElem? (i := 824) (by decide +kernel), rfl⟩⟩
theorem cwH_181 : CwH RL 181 yL_putIn cL_putIn 4 (some .int) [((0 : Nat), (9 : Nat), (12 : Nat), (13 : Nat)), ((0 : Nat), (9 : Nat), (15 : Nat), (15 : Nat))] 3 := ⟨⟨List.mem_of_getElem? (i := 838) (by decide +kernel), rfl⟩, ⟨List.mem_of_getElem? (i := 840) (by decide +kernel), rfl⟩, wz_L, ⟨by decide, by decide⟩, by decide +kernel, ⟨List.mem_of_getElem? (i := 839) (by decide +kernel), rfl⟩⟩
theorem cwH_184 : CwH RL 184 yL_addMixer cL_addMixer 4 (some .int) [((0 : Nat), (9 : Nat), (12 : Nat), (13 : Nat)), ((0 : Nat), (9 : Nat), (15 : Nat), (15 : Nat))] 3 := ⟨⟨List.mem_of_getElem? (i := 848) (by decide +kernel), rfl⟩, ⟨List.mem_of_getElem? (i := 850) (by decide +kernel), rfl⟩, wz_L, ⟨by decide, by decide⟩, by decide +kernel, ⟨List.mem_of_getElem? (i := 849) (by decide +kernel), rfl⟩⟩
theorem cwH_187 : CwH RL 187 yL_setMember cL_setMember 6 (some .int) [((0 : Nat), (12 : Nat), (15 : Nat), (21 : Nat))] 5 := ⟨⟨List.mem_of_getElem? (i := 857) (by decide +kernel), rfl⟩, ⟨List.mem_of_getElem? (i := 859) (by decide +kernel), rfl⟩, wz_L, ⟨by decide, by decide⟩, by decide +kernel, ⟨List.mem_of_getElem? (i := 858) (by decide +kernel), rfl⟩⟩
theorem cwH_191 : CwH RL 191 yL_mixer cL_mixer 4 (some .int) [((0 : Nat), (9 : Nat), (12 : Nat), (21 : Nat))] 3 := ⟨⟨List.mem_of_getElem? (i := 871) (by decide +kernel), rfl⟩, ⟨List.mem_of_getElem? (i := 873) (by decide +kernel), rfl⟩, wz_L, ⟨by decide, by decide⟩, by decide +kernel, ⟨List.mem_of_getElem? (i := 872) (by decide +kernel), rfl⟩⟩
theorem cwH_194 : CwH RL 194 yL_addTest cL_addTest 6 (some .int) [((0 : Nat), (12 : Nat), (15 : Nat), (13 : Nat)), ((0 : Nat), (12 : Nat), (19 : Nat), (15 : Nat))] 5 := ⟨⟨List.mem_of_getElem? (i := 878) (by decide +kernel), rfl⟩, ⟨List.mem_of_getElem? (i := 880) (by decide +kernel), rfl⟩, wz_L, ⟨by decide, by decide⟩, by decide +kernel, ⟨List.mem_of_getElem? (i := 879) (by decide +kernel), rfl⟩⟩
theorem cwH_197 : CwH RL 197 yL_test cL_test 5 (some .int) [((0 : Nat), (10 : Nat), (13 : Nat), (21 : Nat)), ((0 : Nat), (10 : Nat), (17 : Nat), (13 : Nat))] 4 := ⟨⟨List.mem_of_getElem? (i := 902) (by decide +kernel), rfl⟩, ⟨List.mem_of_getElem? (i := 904) (by decide +kernel), rfl⟩, wz_L, ⟨by decide, by decide⟩, by decide +kernel, ⟨List.mem_of_getElem? (i := 903) (by decide +kernel), rfl⟩⟩
theorem cwH_200 : CwH RL 200 yL_heard cL_heard 5 (some .int) [((0 : Nat), (10 : Nat), (13 : Nat), (13 : Nat))] 4 := ⟨⟨List.mem_of_getElem? (i := 910) (by decide +kernel), rfl⟩, ⟨List.mem_of_getElem? (i := 912) (by decide +kernel), rfl⟩, wz_L, ⟨by decide, by decide⟩, by decide +kernel, ⟨List.mem_of_getElem? (i := 911) (by decide +kernel), rfl⟩⟩
theorem cwH_216 : CwH RL 216 yL_bestTest cL_bestTest 4 (some .int) [((0 : Nat), (9 : Nat), (12 : Nat), (13 : Nat))] 3 := ⟨⟨List.mem_of_getElem? (i := 917) (by decide +kernel), rfl⟩, ⟨List.mem_of_getElem? (i := 919) (by decide +kernel), rfl⟩, wz_L, ⟨by decide, by decide⟩, by decide +kernel, ⟨List.mem_of_getElem? (i := 918) (by decide +kernel), rfl⟩⟩
theorem cwH_219 : CwH RL 219 yL_append cL_append 4 (some .int) [((0 : Nat), (9 : Nat), (12 : Nat), (13 : Nat)), ((0 : Nat), (9 : Nat), (15 : Nat), (15 : Nat))] 3 := ⟨⟨List.mem_of_getElem? (i := 929) (by decide +kernel), rfl⟩, ⟨List.mem_of_getElem? (i := 931) (by decide +kernel), rfl⟩, wz_L, ⟨by decide, by decide⟩, by decide +kernel, ⟨List.mem_of_getElem? (i := 930) (by decide +kernel), rfl⟩⟩
theorem cwH_230 : CwH RL 230 yL_undo cL_undo 3 (some .int) [((0 : Nat), (8 : Nat), (11 : Nat), (15 : Nat))] 2 := ⟨⟨List.mem_of_getElem? (i := 942) (by decide +kernel), rfl⟩, ⟨List.mem_of_getElem? (i := 944) (by decide +kernel), rfl⟩, wz_L, ⟨by decide, by decide⟩, by decide +kernel, ⟨List.mem_of_getElem? (i := 943) (by decide +kernel), rfl⟩⟩
end LW2
