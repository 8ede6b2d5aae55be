section EZR
/-- E with a fact on the entry state -/
def EZ (Z : State → (Nat → Nat) → Prop) (l : Launch) (own : String) (cc : ByteArray) (nL : Nat) (ret : Option FieldType) (ini : Bool) (hh : List ExceptionTableEntry) (R : Room) (w0 : AW) (Tg : TgT) (k n pc : Nat) (lv : List (Nat × Value)) (st : List Value) (w : AW) : Prop :=
  ∀ (p : Program) (e : Env) (s : State) (m : MethodId) (args : Array Value) (below : List Frame) (meth : Method) (c : Code) (g : Gx) (ad : Nat → Nat) (_ : Z s ad) (H : Heap) (locs : List Loc) (ls : Array Slot),
    Cx p l s m meth c own cc nL ret ini hh g (va_A (cW g ad w0) s.heap.size) → va_P g.1 vwCl (cW g ad w) H → va_D (va_A (cW g ad w0) s.heap.size) (cW g ad w) → va_S (va_A (cW g ad w0) s.heap.size) s.heap H locs → lv_has ls nL (cL ad lv) →
    W p l e R s m args below meth c H locs k n (Tg below args s g ad) (F0 m pc ls (st.map (cV ad)))
section rows
variable {Z : State → (Nat → Nat) → Prop} {l : Launch} {own : String} {cc : ByteArray} {nL : Nat} {ret : Option FieldType} {ini : Bool} {hh : List ExceptionTableEntry} {R : Room} {w0 : AW} {Tg : TgT} {k n pc : Nat} {lv : List (Nat × Value)} {st : List Value} {w : AW} {mi : MI} {ml : MJ}
theorem EZ_iadd {x y : Int32} (hd : decode cc pc = .ok (.iadd, 1))
    (kk : EZ Z l own cc nL ret ini hh R w0 Tg k n (pc + 1) lv (.int (x + y) :: st) w) : EZ Z l own cc nL ret ini hh R w0 Tg k n pc lv (.int y :: .int x :: st) w := by
  intro p e s m args below meth c g ad hz H locs ls hc hP hD hS hl
  exact lv_iadd hc.1 hc.2.1 hd (kk p e s m args below meth c g ad hz H locs ls hc hP hD hS hl)
theorem EZ_isub {x y : Int32} (hd : decode cc pc = .ok (.isub, 1))
    (kk : EZ Z l own cc nL ret ini hh R w0 Tg k n (pc + 1) lv (.int (x - y) :: st) w) : EZ Z l own cc nL ret ini hh R w0 Tg k n pc lv (.int y :: .int x :: st) w := by
  intro p e s m args below meth c g ad hz H locs ls hc hP hD hS hl
  exact lv_isub hc.1 hc.2.1 hd (kk p e s m args below meth c g ad hz H locs ls hc hP hD hS hl)
theorem EZ_iand {x y : Int32} (hd : decode cc pc = .ok (.iand, 1))
    (kk : EZ Z l own cc nL ret ini hh R w0 Tg k n (pc + 1) lv (.int (x &&& y) :: st) w) : EZ Z l own cc nL ret ini hh R w0 Tg k n pc lv (.int y :: .int x :: st) w := by
  intro p e s m args below meth c g ad hz H locs ls hc hP hD hS hl
  exact lv_iand hc.1 hc.2.1 hd (kk p e s m args below meth c g ad hz H locs ls hc hP hD hS hl)
theorem EZ_i2l {x : Int32} (hd : decode cc pc = .ok (.i2l, 1))
    (kk : EZ Z l own cc nL ret ini hh R w0 Tg k n (pc + 1) lv (.long x.toInt64 :: st) w) : EZ Z l own cc nL ret ini hh R w0 Tg k n pc lv (.int x :: st) w := by
  intro p e s m args below meth c g ad hz H locs ls hc hP hD hS hl
  exact lv_i2l hc.1 hc.2.1 hd rfl (kk p e s m args below meth c g ad hz H locs ls hc hP hD hS hl)
theorem EZ_lcmp {x y : Int64} (hd : decode cc pc = .ok (.lcmp, 1))
    (kk : EZ Z l own cc nL ret ini hh R w0 Tg k n (pc + 1) lv (.int (lg_cmp x y) :: st) w) : EZ Z l own cc nL ret ini hh R w0 Tg k n pc lv (.long y :: .long x :: st) w := by
  intro p e s m args below meth c g ad hz H locs ls hc hP hD hS hl
  exact W.lcmp hc.1 hc.2.1 hd (kk p e s m args below meth c g ad hz H locs ls hc hP hD hS hl)
theorem EZ_iconst {i : Int} (v : Int32) (hv : Int32.ofInt i = v) (hd : decode cc pc = .ok (.iconst i, 1))
    (kk : EZ Z l own cc nL ret ini hh R w0 Tg k n (pc + 1) lv (.int v :: st) w) : EZ Z l own cc nL ret ini hh R w0 Tg k n pc lv (st) w := by
  intro p e s m args below meth c g ad hz H locs ls hc hP hD hS hl
  exact lv_iconst hc.1 hc.2.1 hd hv (kk p e s m args below meth c g ad hz H locs ls hc hP hD hS hl)
theorem EZ_bipush {i : Int} (v : Int32) (hv : (Int8.ofInt i).toInt32 = v) (hd : decode cc pc = .ok (.bipush i, 2))
    (kk : EZ Z l own cc nL ret ini hh R w0 Tg k n (pc + 2) lv (.int v :: st) w) : EZ Z l own cc nL ret ini hh R w0 Tg k n pc lv (st) w := by
  intro p e s m args below meth c g ad hz H locs ls hc hP hD hS hl
  exact lv_bipush hc.1 hc.2.1 hd hv (kk p e s m args below meth c g ad hz H locs ls hc hP hD hS hl)
theorem EZ_goto {off : Int} (tgt : Nat) (hd : decode cc pc = .ok (.goto off, 3)) (ht : (pc : Int) + off = (tgt : Int))
    (kk : EZ Z l own cc nL ret ini hh R w0 Tg k n tgt lv st w) : EZ Z l own cc nL ret ini hh R w0 Tg k n pc lv st w := by
  intro p e s m args below meth c g ad hz H locs ls hc hP hD hS hl
  exact lv_goto hc.1 hc.2.1 hd ht (kk p e s m args below meth c g ad hz H locs ls hc hP hD hS hl)
theorem EZ_iload_n {q : Fin 4} {i : Nat} {x : Int32} (j : Nat) (hd : decode cc pc = .ok (.iload_n q, 1)) (hi : (q : Nat) = i) (hj : lv[j]? = some (i, .int x))
    (kk : EZ Z l own cc nL ret ini hh R w0 Tg k n (pc + 1) lv (.int x :: st) w) : EZ Z l own cc nL ret ini hh R w0 Tg k n pc lv st w := by
  intro p e s m args below meth c g ad hz H locs ls hc hP hD hS hl
  exact lv_iload_n hc.1 hc.2.1 hd hi (lv_at hl j (cL_at hj)) (kk p e s m args below meth c g ad hz H locs ls hc hP hD hS hl)
theorem EZ_iload {i : Nat} {x : Int32} (j : Nat) (hd : decode cc pc = .ok (.iload i, 2)) (hj : lv[j]? = some (i, .int x))
    (kk : EZ Z l own cc nL ret ini hh R w0 Tg k n (pc + 2) lv (.int x :: st) w) : EZ Z l own cc nL ret ini hh R w0 Tg k n pc lv st w := by
  intro p e s m args below meth c g ad hz H locs ls hc hP hD hS hl
  exact lv_iload hc.1 hc.2.1 hd (lv_at hl j (cL_at hj)) (kk p e s m args below meth c g ad hz H locs ls hc hP hD hS hl)
theorem EZ_lload_n {q : Fin 4} {i : Nat} {x : Int64} (j : Nat) (hd : decode cc pc = .ok (.lload_n q, 1)) (hi : (q : Nat) = i) (hj : lv[j]? = some (i, .long x))
    (kk : EZ Z l own cc nL ret ini hh R w0 Tg k n (pc + 1) lv (.long x :: st) w) : EZ Z l own cc nL ret ini hh R w0 Tg k n pc lv st w := by
  intro p e s m args below meth c g ad hz H locs ls hc hP hD hS hl
  exact lv_lload_n hc.1 hc.2.1 hd hi (lv_at hl j (cL_at hj)) (kk p e s m args below meth c g ad hz H locs ls hc hP hD hS hl)
theorem EZ_lload {i : Nat} {x : Int64} (j : Nat) (hd : decode cc pc = .ok (.lload i, 2)) (hj : lv[j]? = some (i, .long x))
    (kk : EZ Z l own cc nL ret ini hh R w0 Tg k n (pc + 2) lv (.long x :: st) w) : EZ Z l own cc nL ret ini hh R w0 Tg k n pc lv st w := by
  intro p e s m args below meth c g ad hz H locs ls hc hP hD hS hl
  exact lv_lload hc.1 hc.2.1 hd (lv_at hl j (cL_at hj)) (kk p e s m args below meth c g ad hz H locs ls hc hP hD hS hl)
theorem EZ_aload_n {q : Fin 4} {i : Nat} {x : Nat} (j : Nat) (hd : decode cc pc = .ok (.aload_n q, 1)) (hi : (q : Nat) = i) (hj : lv[j]? = some (i, .ref x))
    (kk : EZ Z l own cc nL ret ini hh R w0 Tg k n (pc + 1) lv (.ref x :: st) w) : EZ Z l own cc nL ret ini hh R w0 Tg k n pc lv st w := by
  intro p e s m args below meth c g ad hz H locs ls hc hP hD hS hl
  exact lv_aload_n hc.1 hc.2.1 hd hi (lv_at hl j (cL_at hj)) (kk p e s m args below meth c g ad hz H locs ls hc hP hD hS hl)
theorem EZ_aload {i : Nat} {x : Nat} (j : Nat) (hd : decode cc pc = .ok (.aload i, 2)) (hj : lv[j]? = some (i, .ref x))
    (kk : EZ Z l own cc nL ret ini hh R w0 Tg k n (pc + 2) lv (.ref x :: st) w) : EZ Z l own cc nL ret ini hh R w0 Tg k n pc lv st w := by
  intro p e s m args below meth c g ad hz H locs ls hc hP hD hS hl
  exact lv_aload hc.1 hc.2.1 hd (lv_at hl j (cL_at hj)) (kk p e s m args below meth c g ad hz H locs ls hc hP hD hS hl)
theorem EZ_istore_n {q : Fin 4} {i : Nat} {x : Int32} (lv' : List (Nat × Value)) (hd : decode cc pc = .ok (.istore_n q, 1)) (hi : (q : Nat) = i) (hn : i < nL) (hl' : lst1 i (.int x) lv = lv')
    (kk : EZ Z l own cc nL ret ini hh R w0 Tg k n (pc + 1) lv' st w) : EZ Z l own cc nL ret ini hh R w0 Tg k n pc lv (.int x :: st) w := by
  intro p e s m args below meth c g ad hz H locs ls hc hP hD hS hl
  exact lv_istore_n hc.1 hc.2.1 hd hi hl hn ((cL_lst1 ad i (.int x) lv).trans (congrArg (cL ad) hl')) (fun ls' hl'' => kk p e s m args below meth c g ad hz H locs ls' hc hP hD hS hl'')
theorem EZ_istore {i : Nat} {x : Int32} (lv' : List (Nat × Value)) (hd : decode cc pc = .ok (.istore i, 2)) (hn : i < nL) (hl' : lst1 i (.int x) lv = lv')
    (kk : EZ Z l own cc nL ret ini hh R w0 Tg k n (pc + 2) lv' st w) : EZ Z l own cc nL ret ini hh R w0 Tg k n pc lv (.int x :: st) w := by
  intro p e s m args below meth c g ad hz H locs ls hc hP hD hS hl
  exact lv_istore hc.1 hc.2.1 hd hl hn ((cL_lst1 ad i (.int x) lv).trans (congrArg (cL ad) hl')) (fun ls' hl'' => kk p e s m args below meth c g ad hz H locs ls' hc hP hD hS hl'')
theorem EZ_lstore_n {q : Fin 4} {i : Nat} {x : Int64} (lv' : List (Nat × Value)) (hd : decode cc pc = .ok (.lstore_n q, 1)) (hi : (q : Nat) = i) (hn : i + 1 < nL) (hl' : lst2 i (.long x) lv = lv')
    (kk : EZ Z l own cc nL ret ini hh R w0 Tg k n (pc + 1) lv' st w) : EZ Z l own cc nL ret ini hh R w0 Tg k n pc lv (.long x :: st) w := by
  intro p e s m args below meth c g ad hz H locs ls hc hP hD hS hl
  exact lv_lstore_n hc.1 hc.2.1 hd hi hl hn ((cL_lst2 ad i (.long x) lv).trans (congrArg (cL ad) hl')) (fun ls' hl'' => kk p e s m args below meth c g ad hz H locs ls' hc hP hD hS hl'')
theorem EZ_lstore {i : Nat} {x : Int64} (lv' : List (Nat × Value)) (hd : decode cc pc = .ok (.lstore i, 2)) (hn : i + 1 < nL) (hl' : lst2 i (.long x) lv = lv')
    (kk : EZ Z l own cc nL ret ini hh R w0 Tg k n (pc + 2) lv' st w) : EZ Z l own cc nL ret ini hh R w0 Tg k n pc lv (.long x :: st) w := by
  intro p e s m args below meth c g ad hz H locs ls hc hP hD hS hl
  exact lv_lstore hc.1 hc.2.1 hd hl hn ((cL_lst2 ad i (.long x) lv).trans (congrArg (cL ad) hl')) (fun ls' hl'' => kk p e s m args below meth c g ad hz H locs ls' hc hP hD hS hl'')
theorem EZ_astore_n {q : Fin 4} {i : Nat} {x : Nat} (lv' : List (Nat × Value)) (hd : decode cc pc = .ok (.astore_n q, 1)) (hi : (q : Nat) = i) (hn : i < nL) (hl' : lst1 i (.ref x) lv = lv')
    (kk : EZ Z l own cc nL ret ini hh R w0 Tg k n (pc + 1) lv' st w) : EZ Z l own cc nL ret ini hh R w0 Tg k n pc lv (.ref x :: st) w := by
  intro p e s m args below meth c g ad hz H locs ls hc hP hD hS hl
  exact lv_astore_n hc.1 hc.2.1 hd hi hl hn ((cL_lst1 ad i (.ref x) lv).trans (congrArg (cL ad) hl')) (fun ls' hl'' => kk p e s m args below meth c g ad hz H locs ls' hc hP hD hS hl'')
theorem EZ_astore {i : Nat} {x : Nat} (lv' : List (Nat × Value)) (hd : decode cc pc = .ok (.astore i, 2)) (hn : i < nL) (hl' : lst1 i (.ref x) lv = lv')
    (kk : EZ Z l own cc nL ret ini hh R w0 Tg k n (pc + 2) lv' st w) : EZ Z l own cc nL ret ini hh R w0 Tg k n pc lv (.ref x :: st) w := by
  intro p e s m args below meth c g ad hz H locs ls hc hP hD hS hl
  exact lv_astore hc.1 hc.2.1 hd hl hn ((cL_lst1 ad i (.ref x) lv).trans (congrArg (cL ad) hl')) (fun ls' hl'' => kk p e s m args below meth c g ad hz H locs ls' hc hP hD hS hl'')
theorem EZ_iinc {i : Nat} {q : Int} {x : Int32} (j : Nat) (v : Int32) (lv' : List (Nat × Value)) (hd : decode cc pc = .ok (.iinc i q, 3)) (hj : lv[j]? = some (i, .int x)) (hv : x + Int32.ofInt q = v) (hn : i < nL) (hl' : lst1 i (.int v) lv = lv')
    (kk : EZ Z l own cc nL ret ini hh R w0 Tg k n (pc + 3) lv' st w) : EZ Z l own cc nL ret ini hh R w0 Tg k n pc lv st w := by
  intro p e s m args below meth c g ad hz H locs ls hc hP hD hS hl
  exact lv_iinc hc.1 hc.2.1 hd hl (cL_at hj) hv hn ((cL_lst1 ad i (.int v) lv).trans (congrArg (cL ad) hl')) (fun ls' hl'' => kk p e s m args below meth c g ad hz H locs ls' hc hP hD hS hl'')
theorem EZ_sub (ks : List Nat) {lv' : List (Nat × Value)} (h : lv_pick lv ks = lv') (kk : EZ Z l own cc nL ret ini hh R w0 Tg k n pc lv' st w) : EZ Z l own cc nL ret ini hh R w0 Tg k n pc lv st w := by
  intro p e s m args below meth c g ad hz H locs ls hc hP hD hS hl
  exact kk p e s m args below meth c g ad hz H locs ls hc hP hD hS (lv_sub hl ks ((cL_pick ad lv ks).trans (congrArg (cL ad) h)))
theorem EZ_widen {k' n' : Nat} (h1 : k ≤ k') (h2 : n ≤ n') (kk : EZ Z l own cc nL ret ini hh R w0 Tg k' n' pc lv st w) : EZ Z l own cc nL ret ini hh R w0 Tg k n pc lv st w := by
  intro p e s m args below meth c g ad hz H locs ls hc hP hD hS hl
  exact W.widen h1 h2 (kk p e s m args below meth c g ad hz H locs ls hc hP hD hS hl)
theorem EZ_icmp_eq {x y : Int32} {off : Int} (tgt : Nat) (hd : decode cc pc = .ok (.if_icmp .eq off, 3)) (ht : (pc : Int) + off = (tgt : Int))
    (kt : x = y → EZ Z l own cc nL ret ini hh R w0 Tg k n tgt lv st w) (kf : ¬ x = y → EZ Z l own cc nL ret ini hh R w0 Tg k n (pc + 3) lv st w) : EZ Z l own cc nL ret ini hh R w0 Tg k n pc lv (.int y :: .int x :: st) w := by
  intro p e s m args below meth c g ad hz H locs ls hc hP hD hS hl
  exact lv_icmp_eq hc.1 hc.2.1 hd ht (fun h => kt h p e s m args below meth c g ad hz H locs ls hc hP hD hS hl) (fun h => kf h p e s m args below meth c g ad hz H locs ls hc hP hD hS hl)
theorem EZ_icmp_ne {x y : Int32} {off : Int} (tgt : Nat) (hd : decode cc pc = .ok (.if_icmp .ne off, 3)) (ht : (pc : Int) + off = (tgt : Int))
    (kt : ¬ x = y → EZ Z l own cc nL ret ini hh R w0 Tg k n tgt lv st w) (kf : x = y → EZ Z l own cc nL ret ini hh R w0 Tg k n (pc + 3) lv st w) : EZ Z l own cc nL ret ini hh R w0 Tg k n pc lv (.int y :: .int x :: st) w := by
  intro p e s m args below meth c g ad hz H locs ls hc hP hD hS hl
  exact lv_icmp_ne hc.1 hc.2.1 hd ht (fun h => kt h p e s m args below meth c g ad hz H locs ls hc hP hD hS hl) (fun h => kf h p e s m args below meth c g ad hz H locs ls hc hP hD hS hl)
theorem EZ_icmp_lt {x y : Int32} {off : Int} (tgt : Nat) (hd : decode cc pc = .ok (.if_icmp .lt off, 3)) (ht : (pc : Int) + off = (tgt : Int))
    (kt : x < y → EZ Z l own cc nL ret ini hh R w0 Tg k n tgt lv st w) (kf : ¬ x < y → EZ Z l own cc nL ret ini hh R w0 Tg k n (pc + 3) lv st w) : EZ Z l own cc nL ret ini hh R w0 Tg k n pc lv (.int y :: .int x :: st) w := by
  intro p e s m args below meth c g ad hz H locs ls hc hP hD hS hl
  exact lv_icmp_lt hc.1 hc.2.1 hd ht (fun h => kt h p e s m args below meth c g ad hz H locs ls hc hP hD hS hl) (fun h => kf h p e s m args below meth c g ad hz H locs ls hc hP hD hS hl)
theorem EZ_icmp_ge {x y : Int32} {off : Int} (tgt : Nat) (hd : decode cc pc = .ok (.if_icmp .ge off, 3)) (ht : (pc : Int) + off = (tgt : Int))
    (kt : y ≤ x → EZ Z l own cc nL ret ini hh R w0 Tg k n tgt lv st w) (kf : ¬ y ≤ x → EZ Z l own cc nL ret ini hh R w0 Tg k n (pc + 3) lv st w) : EZ Z l own cc nL ret ini hh R w0 Tg k n pc lv (.int y :: .int x :: st) w := by
  intro p e s m args below meth c g ad hz H locs ls hc hP hD hS hl
  exact lv_icmp_ge hc.1 hc.2.1 hd ht (fun h => kt h p e s m args below meth c g ad hz H locs ls hc hP hD hS hl) (fun h => kf h p e s m args below meth c g ad hz H locs ls hc hP hD hS hl)
theorem EZ_icmp_gt {x y : Int32} {off : Int} (tgt : Nat) (hd : decode cc pc = .ok (.if_icmp .gt off, 3)) (ht : (pc : Int) + off = (tgt : Int))
    (kt : y < x → EZ Z l own cc nL ret ini hh R w0 Tg k n tgt lv st w) (kf : ¬ y < x → EZ Z l own cc nL ret ini hh R w0 Tg k n (pc + 3) lv st w) : EZ Z l own cc nL ret ini hh R w0 Tg k n pc lv (.int y :: .int x :: st) w := by
  intro p e s m args below meth c g ad hz H locs ls hc hP hD hS hl
  exact lv_icmp_gt hc.1 hc.2.1 hd ht (fun h => kt h p e s m args below meth c g ad hz H locs ls hc hP hD hS hl) (fun h => kf h p e s m args below meth c g ad hz H locs ls hc hP hD hS hl)
theorem EZ_icmp_le {x y : Int32} {off : Int} (tgt : Nat) (hd : decode cc pc = .ok (.if_icmp .le off, 3)) (ht : (pc : Int) + off = (tgt : Int))
    (kt : x ≤ y → EZ Z l own cc nL ret ini hh R w0 Tg k n tgt lv st w) (kf : ¬ x ≤ y → EZ Z l own cc nL ret ini hh R w0 Tg k n (pc + 3) lv st w) : EZ Z l own cc nL ret ini hh R w0 Tg k n pc lv (.int y :: .int x :: st) w := by
  intro p e s m args below meth c g ad hz H locs ls hc hP hD hS hl
  exact lv_icmp_le hc.1 hc.2.1 hd ht (fun h => kt h p e s m args below meth c g ad hz H locs ls hc hP hD hS hl) (fun h => kf h p e s m args below meth c g ad hz H locs ls hc hP hD hS hl)
theorem EZ_if_eq {x : Int32} {off : Int} (tgt : Nat) (hd : decode cc pc = .ok (.ifCond .eq off, 3)) (ht : (pc : Int) + off = (tgt : Int))
    (kt : x = 0 → EZ Z l own cc nL ret ini hh R w0 Tg k n tgt lv st w) (kf : ¬ x = 0 → EZ Z l own cc nL ret ini hh R w0 Tg k n (pc + 3) lv st w) : EZ Z l own cc nL ret ini hh R w0 Tg k n pc lv (.int x :: st) w := by
  intro p e s m args below meth c g ad hz H locs ls hc hP hD hS hl
  exact lv_if_eq hc.1 hc.2.1 hd ht (fun h => kt h p e s m args below meth c g ad hz H locs ls hc hP hD hS hl) (fun h => kf h p e s m args below meth c g ad hz H locs ls hc hP hD hS hl)
theorem EZ_if_ne {x : Int32} {off : Int} (tgt : Nat) (hd : decode cc pc = .ok (.ifCond .ne off, 3)) (ht : (pc : Int) + off = (tgt : Int))
    (kt : ¬ x = 0 → EZ Z l own cc nL ret ini hh R w0 Tg k n tgt lv st w) (kf : x = 0 → EZ Z l own cc nL ret ini hh R w0 Tg k n (pc + 3) lv st w) : EZ Z l own cc nL ret ini hh R w0 Tg k n pc lv (.int x :: st) w := by
  intro p e s m args below meth c g ad hz H locs ls hc hP hD hS hl
  exact lv_if_ne hc.1 hc.2.1 hd ht (fun h => kt h p e s m args below meth c g ad hz H locs ls hc hP hD hS hl) (fun h => kf h p e s m args below meth c g ad hz H locs ls hc hP hD hS hl)
theorem EZ_if_lt {x : Int32} {off : Int} (tgt : Nat) (hd : decode cc pc = .ok (.ifCond .lt off, 3)) (ht : (pc : Int) + off = (tgt : Int))
    (kt : x < 0 → EZ Z l own cc nL ret ini hh R w0 Tg k n tgt lv st w) (kf : ¬ x < 0 → EZ Z l own cc nL ret ini hh R w0 Tg k n (pc + 3) lv st w) : EZ Z l own cc nL ret ini hh R w0 Tg k n pc lv (.int x :: st) w := by
  intro p e s m args below meth c g ad hz H locs ls hc hP hD hS hl
  exact lv_if_lt hc.1 hc.2.1 hd ht (fun h => kt h p e s m args below meth c g ad hz H locs ls hc hP hD hS hl) (fun h => kf h p e s m args below meth c g ad hz H locs ls hc hP hD hS hl)
theorem EZ_if_ge {x : Int32} {off : Int} (tgt : Nat) (hd : decode cc pc = .ok (.ifCond .ge off, 3)) (ht : (pc : Int) + off = (tgt : Int))
    (kt : 0 ≤ x → EZ Z l own cc nL ret ini hh R w0 Tg k n tgt lv st w) (kf : ¬ 0 ≤ x → EZ Z l own cc nL ret ini hh R w0 Tg k n (pc + 3) lv st w) : EZ Z l own cc nL ret ini hh R w0 Tg k n pc lv (.int x :: st) w := by
  intro p e s m args below meth c g ad hz H locs ls hc hP hD hS hl
  exact lv_if_ge hc.1 hc.2.1 hd ht (fun h => kt h p e s m args below meth c g ad hz H locs ls hc hP hD hS hl) (fun h => kf h p e s m args below meth c g ad hz H locs ls hc hP hD hS hl)
theorem EZ_if_gt {x : Int32} {off : Int} (tgt : Nat) (hd : decode cc pc = .ok (.ifCond .gt off, 3)) (ht : (pc : Int) + off = (tgt : Int))
    (kt : 0 < x → EZ Z l own cc nL ret ini hh R w0 Tg k n tgt lv st w) (kf : ¬ 0 < x → EZ Z l own cc nL ret ini hh R w0 Tg k n (pc + 3) lv st w) : EZ Z l own cc nL ret ini hh R w0 Tg k n pc lv (.int x :: st) w := by
  intro p e s m args below meth c g ad hz H locs ls hc hP hD hS hl
  exact lv_if_gt hc.1 hc.2.1 hd ht (fun h => kt h p e s m args below meth c g ad hz H locs ls hc hP hD hS hl) (fun h => kf h p e s m args below meth c g ad hz H locs ls hc hP hD hS hl)
theorem EZ_if_le {x : Int32} {off : Int} (tgt : Nat) (hd : decode cc pc = .ok (.ifCond .le off, 3)) (ht : (pc : Int) + off = (tgt : Int))
    (kt : x ≤ 0 → EZ Z l own cc nL ret ini hh R w0 Tg k n tgt lv st w) (kf : ¬ x ≤ 0 → EZ Z l own cc nL ret ini hh R w0 Tg k n (pc + 3) lv st w) : EZ Z l own cc nL ret ini hh R w0 Tg k n pc lv (.int x :: st) w := by
  intro p e s m args below meth c g ad hz H locs ls hc hP hD hS hl
  exact lv_if_le hc.1 hc.2.1 hd ht (fun h => kt h p e s m args below meth c g ad hz H locs ls hc hP hD hS hl) (fun h => kf h p e s m args below meth c g ad hz H locs ls hc hP hD hS hl)
theorem EZ_lald {i z : Nat} {f : Nat → Int64} {j : Int32} (hw : w[i]? = some (.inl (1, z, .inr (.inl f)))) (hj : vp_in j z) (hd : decode cc pc = .ok (.laload, 1))
    (kk : EZ Z l own cc nL ret ini hh R w0 Tg k n (pc + 1) lv (.long (f j.toNatClampNeg) :: st) w) : EZ Z l own cc nL ret ini hh R w0 Tg k n pc lv (.int j :: .ref i :: st) w := by
  intro p e s m args below meth c g ad hz H locs ls hc hP hD hS hl
  exact va_lald hc.1 hc.2.1 hc.2.2.2.2.2.2.2.2.2.1.2.2.2 hP i 1 (cW_at hw) rfl hj hd (kk p e s m args below meth c g ad hz H locs ls hc hP hD hS hl)
theorem EZ_last {i z : Nat} {f : Nat → Int64} {j : Int32} {x : Int64} (hw : w[i]? = some (.inl (1, z, .inr (.inl f)))) (hj : vp_in j z) (hd : decode cc pc = .ok (.lastore, 1))
    (kk : EZ Z l own cc nL ret ini hh R w0 Tg k n (pc + 1) lv st (w.set i (.inl (1, z, .inr (.inl (vp_updL f j.toNatClampNeg x)))))) : EZ Z l own cc nL ret ini hh R w0 Tg k n pc lv (.long x :: .int j :: .ref i :: st) w := by
  intro p e s m args below meth c g ad hz H locs ls hc hP hD hS hl
  refine va_last hc.1 hc.2.1 hc.2.2.2.2.2.2.2.2.2.1.2.2.2 hP hD hS i 1 (cW_at hw) rfl hj hd (fun H1 locs1 hP1 hD1 hS1 => ?_)
  rw [show (Sum.inl (g.2 1, z, Sum.inr (Sum.inl (vp_updL f j.toNatClampNeg x))) : va_E) = cE g ad (.inl (1, z, .inr (.inl (vp_updL f j.toNatClampNeg x)))) from rfl, cW_set] at hP1 hD1
  exact kk p e s m args below meth c g ad hz H1 locs1 ls hc hP1 hD1 hS1 hl
theorem SZ_lald {p z : Nat} {f0 : Nat → Int64} {j : Int32} (jx : Nat) (v : Int64) (ht : twl[p]? = some (.inl (1, z, .inr (.inl f0)))) (hj : j.toInt = (jx : Int)) (hl : jx < z) (hv : ml p jx = v) (hd : decode cc pc = .ok (.laload, 1))
    (kk : EZ Z l own cc nL ret ini hh R w0 Tg k n (pc + 1) lv (.long v :: st) (wl mi ml)) : EZ Z l own cc nL ret ini hh R w0 Tg k n pc lv (.int j :: .ref p :: st) (wl mi ml) :=
  EZ_lald (f := ml p) (wl_at ht) (vpi hj hl) hd (by rw [tNC j hj, hv]; exact kk)
theorem SZ_last {p z : Nat} {f0 : Nat → Int64} {j : Int32} {x : Int64} (jx : Nat) (ht : twl[p]? = some (.inl (1, z, .inr (.inl f0)))) (hj : j.toInt = (jx : Int)) (hl : jx < z) (hd : decode cc pc = .ok (.lastore, 1))
    (kk : EZ Z l own cc nL ret ini hh R w0 Tg k n (pc + 1) lv st (wl mi (u2 ml p jx x))) : EZ Z l own cc nL ret ini hh R w0 Tg k n pc lv (.long x :: .int j :: .ref p :: st) (wl mi ml) := by
  refine EZ_last (f := ml p) (wl_at ht) (vpi hj hl) hd ?_
  rw [tNC j hj, wl_setj (k := jx) (v := x) ht (by simp only [cellM, u2_row]; rfl)]
  exact kk
theorem ZZ_eq {x y : Int32} {off : Int} (X Y : Int) (hx : x.toInt = X) (hy : y.toInt = Y) (tgt : Nat) (hd : decode cc pc = .ok (.if_icmp .eq off, 3)) (ht : (pc : Int) + off = (tgt : Int))
    (kt : X = Y → EZ Z l own cc nL ret ini hh R w0 Tg k n tgt lv st w) (kf : X ≠ Y → EZ Z l own cc nL ret ini hh R w0 Tg k n (pc + 3) lv st w) : EZ Z l own cc nL ret ini hh R w0 Tg k n pc lv (.int y :: .int x :: st) w := by
  subst hx; subst hy
  exact EZ_icmp_eq tgt hd ht (fun h => kt (congrArg Int32.toInt h)) (fun h => kf (fun q => h (Int32.toInt_inj.mp q)))
theorem ZZ_ne {x y : Int32} {off : Int} (X Y : Int) (hx : x.toInt = X) (hy : y.toInt = Y) (tgt : Nat) (hd : decode cc pc = .ok (.if_icmp .ne off, 3)) (ht : (pc : Int) + off = (tgt : Int))
    (kt : X ≠ Y → EZ Z l own cc nL ret ini hh R w0 Tg k n tgt lv st w) (kf : X = Y → EZ Z l own cc nL ret ini hh R w0 Tg k n (pc + 3) lv st w) : EZ Z l own cc nL ret ini hh R w0 Tg k n pc lv (.int y :: .int x :: st) w := by
  subst hx; subst hy
  exact EZ_icmp_ne tgt hd ht (fun h => kt (fun q => h (Int32.toInt_inj.mp q))) (fun h => kf (congrArg Int32.toInt h))
theorem ZZ_lt {x y : Int32} {off : Int} (X Y : Int) (hx : x.toInt = X) (hy : y.toInt = Y) (tgt : Nat) (hd : decode cc pc = .ok (.if_icmp .lt off, 3)) (ht : (pc : Int) + off = (tgt : Int))
    (kt : X < Y → EZ Z l own cc nL ret ini hh R w0 Tg k n tgt lv st w) (kf : Y ≤ X → EZ Z l own cc nL ret ini hh R w0 Tg k n (pc + 3) lv st w) : EZ Z l own cc nL ret ini hh R w0 Tg k n pc lv (.int y :: .int x :: st) w := by
  subst hx; subst hy
  exact EZ_icmp_lt tgt hd ht (fun h => kt (Int32.lt_iff_toInt_lt.mp h)) (fun h => kf (Int32.le_iff_toInt_le.mp (Int32.not_lt.mp h)))
theorem ZZ_ge {x y : Int32} {off : Int} (X Y : Int) (hx : x.toInt = X) (hy : y.toInt = Y) (tgt : Nat) (hd : decode cc pc = .ok (.if_icmp .ge off, 3)) (ht : (pc : Int) + off = (tgt : Int))
    (kt : Y ≤ X → EZ Z l own cc nL ret ini hh R w0 Tg k n tgt lv st w) (kf : X < Y → EZ Z l own cc nL ret ini hh R w0 Tg k n (pc + 3) lv st w) : EZ Z l own cc nL ret ini hh R w0 Tg k n pc lv (.int y :: .int x :: st) w := by
  subst hx; subst hy
  exact EZ_icmp_ge tgt hd ht (fun h => kt (Int32.le_iff_toInt_le.mp h)) (fun h => kf (Int32.lt_iff_toInt_lt.mp (Int32.not_le.mp h)))
theorem ZZ_gt {x y : Int32} {off : Int} (X Y : Int) (hx : x.toInt = X) (hy : y.toInt = Y) (tgt : Nat) (hd : decode cc pc = .ok (.if_icmp .gt off, 3)) (ht : (pc : Int) + off = (tgt : Int))
    (kt : Y < X → EZ Z l own cc nL ret ini hh R w0 Tg k n tgt lv st w) (kf : X ≤ Y → EZ Z l own cc nL ret ini hh R w0 Tg k n (pc + 3) lv st w) : EZ Z l own cc nL ret ini hh R w0 Tg k n pc lv (.int y :: .int x :: st) w := by
  subst hx; subst hy
  exact EZ_icmp_gt tgt hd ht (fun h => kt (Int32.lt_iff_toInt_lt.mp h)) (fun h => kf (Int32.le_iff_toInt_le.mp (Int32.not_lt.mp h)))
theorem ZZ_le {x y : Int32} {off : Int} (X Y : Int) (hx : x.toInt = X) (hy : y.toInt = Y) (tgt : Nat) (hd : decode cc pc = .ok (.if_icmp .le off, 3)) (ht : (pc : Int) + off = (tgt : Int))
    (kt : X ≤ Y → EZ Z l own cc nL ret ini hh R w0 Tg k n tgt lv st w) (kf : Y < X → EZ Z l own cc nL ret ini hh R w0 Tg k n (pc + 3) lv st w) : EZ Z l own cc nL ret ini hh R w0 Tg k n pc lv (.int y :: .int x :: st) w := by
  subst hx; subst hy
  exact EZ_icmp_le tgt hd ht (fun h => kt (Int32.le_iff_toInt_le.mp h)) (fun h => kf (Int32.lt_iff_toInt_lt.mp (Int32.not_le.mp h)))
theorem YZ_eq {x : Int32} {off : Int} (X : Int) (hx : x.toInt = X) (tgt : Nat) (hd : decode cc pc = .ok (.ifCond .eq off, 3)) (ht : (pc : Int) + off = (tgt : Int))
    (kt : X = 0 → EZ Z l own cc nL ret ini hh R w0 Tg k n tgt lv st w) (kf : X ≠ 0 → EZ Z l own cc nL ret ini hh R w0 Tg k n (pc + 3) lv st w) : EZ Z l own cc nL ret ini hh R w0 Tg k n pc lv (.int x :: st) w := by
  subst hx
  exact EZ_if_eq tgt hd ht (fun h => kt (congrArg Int32.toInt h)) (fun h => kf (fun q => h (Int32.toInt_inj.mp q)))
theorem YZ_ne {x : Int32} {off : Int} (X : Int) (hx : x.toInt = X) (tgt : Nat) (hd : decode cc pc = .ok (.ifCond .ne off, 3)) (ht : (pc : Int) + off = (tgt : Int))
    (kt : X ≠ 0 → EZ Z l own cc nL ret ini hh R w0 Tg k n tgt lv st w) (kf : X = 0 → EZ Z l own cc nL ret ini hh R w0 Tg k n (pc + 3) lv st w) : EZ Z l own cc nL ret ini hh R w0 Tg k n pc lv (.int x :: st) w := by
  subst hx
  exact EZ_if_ne tgt hd ht (fun h => kt (fun q => h (Int32.toInt_inj.mp q))) (fun h => kf (congrArg Int32.toInt h))
theorem YZ_lt {x : Int32} {off : Int} (X : Int) (hx : x.toInt = X) (tgt : Nat) (hd : decode cc pc = .ok (.ifCond .lt off, 3)) (ht : (pc : Int) + off = (tgt : Int))
    (kt : X < 0 → EZ Z l own cc nL ret ini hh R w0 Tg k n tgt lv st w) (kf : 0 ≤ X → EZ Z l own cc nL ret ini hh R w0 Tg k n (pc + 3) lv st w) : EZ Z l own cc nL ret ini hh R w0 Tg k n pc lv (.int x :: st) w := by
  subst hx
  exact EZ_if_lt tgt hd ht (fun h => kt (Int32.lt_iff_toInt_lt.mp h)) (fun h => kf (Int32.le_iff_toInt_le.mp (Int32.not_lt.mp h)))
theorem YZ_ge {x : Int32} {off : Int} (X : Int) (hx : x.toInt = X) (tgt : Nat) (hd : decode cc pc = .ok (.ifCond .ge off, 3)) (ht : (pc : Int) + off = (tgt : Int))
    (kt : 0 ≤ X → EZ Z l own cc nL ret ini hh R w0 Tg k n tgt lv st w) (kf : X < 0 → EZ Z l own cc nL ret ini hh R w0 Tg k n (pc + 3) lv st w) : EZ Z l own cc nL ret ini hh R w0 Tg k n pc lv (.int x :: st) w := by
  subst hx
  exact EZ_if_ge tgt hd ht (fun h => kt (Int32.le_iff_toInt_le.mp h)) (fun h => kf (Int32.lt_iff_toInt_lt.mp (Int32.not_le.mp h)))
theorem YZ_gt {x : Int32} {off : Int} (X : Int) (hx : x.toInt = X) (tgt : Nat) (hd : decode cc pc = .ok (.ifCond .gt off, 3)) (ht : (pc : Int) + off = (tgt : Int))
    (kt : 0 < X → EZ Z l own cc nL ret ini hh R w0 Tg k n tgt lv st w) (kf : X ≤ 0 → EZ Z l own cc nL ret ini hh R w0 Tg k n (pc + 3) lv st w) : EZ Z l own cc nL ret ini hh R w0 Tg k n pc lv (.int x :: st) w := by
  subst hx
  exact EZ_if_gt tgt hd ht (fun h => kt (Int32.lt_iff_toInt_lt.mp h)) (fun h => kf (Int32.le_iff_toInt_le.mp (Int32.not_lt.mp h)))
theorem YZ_le {x : Int32} {off : Int} (X : Int) (hx : x.toInt = X) (tgt : Nat) (hd : decode cc pc = .ok (.ifCond .le off, 3)) (ht : (pc : Int) + off = (tgt : Int))
    (kt : X ≤ 0 → EZ Z l own cc nL ret ini hh R w0 Tg k n tgt lv st w) (kf : 0 < X → EZ Z l own cc nL ret ini hh R w0 Tg k n (pc + 3) lv st w) : EZ Z l own cc nL ret ini hh R w0 Tg k n pc lv (.int x :: st) w := by
  subst hx
  exact EZ_if_le tgt hd ht (fun h => kt (Int32.le_iff_toInt_le.mp h)) (fun h => kf (Int32.lt_iff_toInt_lt.mp (Int32.not_le.mp h)))
theorem BZ_eq {P : Prop} {off : Int} (tgt : Nat) (hd : decode cc pc = .ok (.ifCond .eq off, 3)) (ht : (pc : Int) + off = (tgt : Int))
    (kt : ¬ P → EZ Z l own cc nL ret ini hh R w0 Tg k n tgt lv st w) (kf : P → EZ Z l own cc nL ret ini hh R w0 Tg k n (pc + 3) lv st w) : EZ Z l own cc nL ret ini hh R w0 Tg k n pc lv (.int (bI P) :: st) w :=
  EZ_if_eq tgt hd ht (fun h => kt (fun q => by rw [bI_t q] at h; exact absurd h (by decide))) (fun h => kf (Classical.byContradiction fun q => h (bI_f q)))
theorem BZ_ne {P : Prop} {off : Int} (tgt : Nat) (hd : decode cc pc = .ok (.ifCond .ne off, 3)) (ht : (pc : Int) + off = (tgt : Int))
    (kt : P → EZ Z l own cc nL ret ini hh R w0 Tg k n tgt lv st w) (kf : ¬ P → EZ Z l own cc nL ret ini hh R w0 Tg k n (pc + 3) lv st w) : EZ Z l own cc nL ret ini hh R w0 Tg k n pc lv (.int (bI P) :: st) w :=
  EZ_if_ne tgt hd ht (fun h => kt (Classical.byContradiction fun q => h (bI_f q))) (fun h => kf (fun q => by rw [bI_t q] at h; exact absurd h (by decide)))
theorem EZ_tabOut {dflt lo hi : Int} {offs : Array Int} {len : Nat} {x : Int32} (tgt : Nat) (hd : decode cc pc = .ok (.tableswitch dflt lo hi offs, len)) (h : x.toInt < lo ∨ hi < x.toInt) (ht : (pc : Int) + dflt = (tgt : Int))
    (kk : EZ Z l own cc nL ret ini hh R w0 Tg k n tgt lv st w) : EZ Z l own cc nL ret ini hh R w0 Tg k n pc lv (.int x :: st) w := by
  intro p e s m args below meth c g ad hz H locs ls hc hP hD hS hl
  exact lv_tableOut hc.1 hc.2.1 hd h ht (kk p e s m args below meth c g ad hz H locs ls hc hP hD hS hl)
theorem EZ_tabIn {dflt lo hi : Int} {offs : Array Int} {len : Nat} {x : Int32} {off : Int} (tgt : Nat) (hd : decode cc pc = .ok (.tableswitch dflt lo hi offs, len)) (h1 : ¬ x.toInt < lo) (h2 : ¬ hi < x.toInt) (ho : offs[(x.toInt - lo).toNat]? = some off) (ht : (pc : Int) + off = (tgt : Int))
    (kk : EZ Z l own cc nL ret ini hh R w0 Tg k n tgt lv st w) : EZ Z l own cc nL ret ini hh R w0 Tg k n pc lv (.int x :: st) w := by
  intro p e s m args below meth c g ad hz H locs ls hc hP hD hS hl
  exact lv_tableIn hc.1 hc.2.1 hd h1 h2 ho ht (kk p e s m args below meth c g ad hz H locs ls hc hP hD hS hl)
end rows
section ends
variable {Z : State → (Nat → Nat) → Prop} {l : Launch} {own : String} {cc : ByteArray} {nL : Nat} {ret : Option FieldType} {ini : Bool} {hh : List ExceptionTableEntry} {R : Room} {w0 : AW} {k n pc : Nat} {lv : List (Nat × Value)} {st : List Value} {w : AW} {mc ms : Nat} {Q : Option Value → AW → Prop} {X : String → AW → Prop}
theorem EZ_iret {v : Int32} (hr : ret = some .int) (hk : k ≤ mc) (hn : n ≤ ms) (hd : decode cc pc = .ok (.ireturn, 1)) (hq : Q (some (.int v)) w) : EZ Z l own cc nL ret ini hh R w0 (TgM w0 mc ms Q X) k n pc lv [.int v] w := by
  intro p e s m args below meth c g ad hz H locs ls hc hP hD hS hl
  refine W.widen hk hn (vx_ret ?_)
  exact W.iret (v := v) hc.1 hc.2.1 (hc.2.2.2.1.trans hr) (fun t ht hW => ⟨⟨some (.int v), w, rfl, hq, by rw [ht]; exact hP, hD⟩, hS.F ht⟩) hS.2.2 hd hc.2.2.2.2.2.1
theorem EZ_zret {v : Int32} {ty : FieldType} (hr : ret = some ty) (hnv : narrow ty (.int v) = .int v) (hk : k ≤ mc) (hn : n ≤ ms) (hd : decode cc pc = .ok (.ireturn, 1)) (hq : Q (some (.int v)) w) : EZ Z l own cc nL ret ini hh R w0 (TgM w0 mc ms Q X) k n pc lv [.int v] w := by
  intro p e s m args below meth c g ad hz H locs ls hc hP hD hS hl
  refine W.widen hk hn (vx_ret ?_)
  exact W.zret (v := v) hc.1 hc.2.1 (hc.2.2.2.1.trans hr) hnv (fun t ht hW => ⟨⟨some (.int v), w, rfl, hq, by rw [ht]; exact hP, hD⟩, hS.F ht⟩) hS.2.2 hd hc.2.2.2.2.2.1
end ends
theorem RunEZ_go {Z : State → (Nat → Nat) → Prop} {p : Program} {l : Launch} {e : Env} {R : Room} {s : State} {m : MethodId} {args : Array Value} {below : List Frame} {meth : Method} {c : Code} {g : Gx} {ad : Nat → Nat} {w w0 : AW} {H : Heap} {locs : List Loc} {k n mc ms : Nat} {st st0 : List Value} {Q : Option Value → AW → Prop} {X : String → AW → Prop} {own : String} {cc : ByteArray} {nL : Nat} {ret : Option FieldType} {ini : Bool} {hh : List ExceptionTableEntry} {Tg : TgT} {pc : Nat} {lv : List (Nat × Value)} {ls : Array Slot}
    (hz : Z s ad) (hr : RunE p l e R s m args below meth c g ad w H locs k n mc ms (F0 m pc ls st0) (st.map (cV ad)) Q X)
    (hc : Cx p l s m meth c own cc nL ret ini hh g (va_A (cW g ad w0) s.heap.size)) (hD : va_D (va_A (cW g ad w0) s.heap.size) (cW g ad w)) (hS : va_S (va_A (cW g ad w0) s.heap.size) s.heap H locs) (hl : lv_has ls nL (cL ad lv))
    (kx : ∀ (En : String) (w' : AW) (ce : Cell) (q9 : Addr) (H1 : Heap) (locs1 : List Loc), X En w' → va_P g.1 vwCl (cW g ad w') H1 → va_D (va_A (cW g ad w0) s.heap.size) (cW g ad w') → va_S (va_A (cW g ad w0) s.heap.size) s.heap H1 locs1 → H1[q9]? = some ce → ce.vm = .none → s.vm.findClass En = some ce.cls → vx_W p l e R s m args below meth c H1 locs1 (k + mc) (n + ms) (Tg below args s g ad) (F0 m pc ls (st.map (cV ad))) q9)
    (kk : ∀ (rv : Option Value) (w' : AW), Q rv w' → EZ Z l own cc nL ret ini hh R w0 Tg (k + mc) (n + ms) (pc + 3) lv (rv.toList ++ st) w') :
    W p l e R s m args below meth c H locs k n (Tg below args s g ad) (F0 m pc ls st0) := by
  have hA : ∀ q, s.heap.size ≤ q → va_A (cW g ad w0) s.heap.size q := fun q h => Or.inr h
  have hsub := vaA_sub hD hS hA
  intro T hT X9
  rcases hr T hT X9 with ⟨v, st₀, t, T', L, h0, X', hL, e1, e2, hq, stp⟩ | ⟨q, st₀, t, T', L, En, ce, h0, X', hL, e1, e2, hq, hce, hcv, hcl, stp⟩
  · obtain ⟨⟨rv, w', ho, hQ, hP', hD'⟩, hF⟩ := hq
    cases ho
    obtain ⟨-, -, hS'⟩ := vx_keep h0 e1 hS (fun q _ h => hsub q h) hsub hL hF
    obtain ⟨t2, a1, b1⟩ := kk rv w' hQ p e s m args below meth c g ad hz T'.heap _ ls hc (by rw [e1]; exact hP') (hD'.weaken (fun _ q _ h => hsub q.1 h)) hS' hl T' rfl X'
    refine ⟨t2, stp t2 ?_, b1⟩
    have e9 : (rv.map (cV ad)).toList ++ st.map (cV ad) = (rv.toList ++ st).map (cV ad) := by cases rv <;> simp
    rw [e9]
    exact a1
  · obtain ⟨⟨w', hX, hP', hD'⟩, hF⟩ := hq
    obtain ⟨-, -, hS'⟩ := vx_keep h0 e1 hS (fun q _ h => hsub q h) hsub hL hF
    obtain ⟨t2, a1, b1⟩ := kx En w' ce q T'.heap _ hX (by rw [e1]; exact hP') (hD'.weaken (fun _ q _ h => hsub q.1 h)) hS' (by rw [e1]; exact hce) hcv hcl T' rfl X'
    exact ⟨t2, stp.trans a1, b1⟩
section calls
variable {Z : State → (Nat → Nat) → Prop} {l : Launch} {own : String} {cc : ByteArray} {nL : Nat} {ret : Option FieldType} {ini : Bool} {hh : List ExceptionTableEntry} {R : Room} {w0 : AW} {Tg : TgT} {k n pc : Nat} {lv : List (Nat × Value)} {st : List Value} {w : AW} {Q : Option Value → AW → Prop} {X : String → AW → Prop}
theorem EZ_callV {y : MethodName} {bytes : ByteArray} {maxL nA d mc ms i ci idx : Nat} {rt : Option FieldType} {As : List Value} {fs : List Value} {q : vw_C} (hC : Ct l y (.code y bytes maxL rt) d mc ms (.ref i :: As) w Q X)
    (hcw : CwE own idx y bytes maxL rt nA) (hin : Wd (.instanceMethod y)) (hse : Wd (.selects y.cls y y)) (hci : vwCl[ci]? = some q) (hq : q.1 = y.cls) (hw : w[i]? = some (.inr (ci, fs))) (hA : As.length = nA) (hR : RoomOk R d mc ms maxL k n) (hst : (st.map fun v => v.category).sum ≤ 8)
    (hd : decode cc pc = .ok (.invokevirtual idx, 3)) (hX : ∀ En w', X En w' → False) {st0 : List Value} (hst0 : As.reverse ++ .ref i :: st = st0)
    (kk : ∀ (rv : Option Value) (w' : AW), Q rv w' → EZ Z l own cc nL ret ini hh R w0 Tg (k + mc) (n + ms) (pc + 3) lv (rv.toList ++ st) w') : EZ Z l own cc nL ret ini hh R w0 Tg k n pc lv st0 w := by
  subst hst0
  intro p e s m args below meth c g ad hz H locs ls hc hP hD hS hl
  have hcs := hc.2.2.2.2.2.2.2.2.2.1
  have hrun := vx_runV (args := args) (Ts := []) (As := As.map (cV ad)) (rest := st.map (cV ad)) (g := F0 m pc ls ((As.reverse ++ .ref i :: st).map (cV ad))) (e := e) (below := below) (meth := meth) (H := H) (locs := locs) (cells := k) (slots := n) (nL := nL) ⟨hc.1, hc.2.1, hc.2.2.1, hc.2.2.2.2.1, fun _ h => nomatch h⟩ (hC g ad H.size) ⟨hcw.callB hcs hR, hcs.1.use hin, hcs.1.use hse⟩
    ⟨PcE_blind, by rw [← hq]; exact va_recv hcs.2.2.2 hP hci (cW_at hw), PcE_at (As := .ref i :: As) hcs hc.2.2.2.2.2.2.2.2.2.2 hP hD hS (fun q h => Or.inr h)⟩ rfl (by simpa using hA) hl.1 (by simp [cV, List.map_append, List.map_reverse]) (lv_room (by rw [cV_sum]; exact hst)) hd ⟨hR.2.2.1, hR.2.2.2⟩
  exact RunEZ_go (w0 := w0) (st := st) (lv := lv) hz hrun hc hD hS hl (fun En w' _ _ _ _ h => (hX En w' h).elim) kk
theorem EZ_callS {y : MethodName} {bytes : ByteArray} {maxL nA d mc ms idx : Nat} {rt : Option FieldType} {As : List Value} (hC : Ct l y (.code y bytes maxL rt) d mc ms As w Q X)
    (hcw : CwE own idx y bytes maxL rt nA) (hin : Wd (.static y)) (hA : As.length = nA) (hR : RoomOk R d mc ms maxL k n) (hst : (st.map fun v => v.category).sum ≤ 8)
    (hd : decode cc pc = .ok (.invokestatic idx, 3)) (hX : ∀ En w', X En w' → False) {st0 : List Value} (hst0 : As.reverse ++ st = st0)
    (kk : ∀ (rv : Option Value) (w' : AW), Q rv w' → EZ Z l own cc nL ret ini hh R w0 Tg (k + mc) (n + ms) (pc + 3) lv (rv.toList ++ st) w') : EZ Z l own cc nL ret ini hh R w0 Tg k n pc lv st0 w := by
  subst hst0
  intro p e s m args below meth c g ad hz H locs ls hc hP hD hS hl
  have hcs := hc.2.2.2.2.2.2.2.2.2.1
  have hrun := vx_runS (args := args) (Ts := []) (As := As.map (cV ad)) (rest := st.map (cV ad)) (g := F0 m pc ls ((As.reverse ++ st).map (cV ad))) (e := e) (below := below) (meth := meth) (H := H) (locs := locs) (cells := k) (slots := n) (nL := nL) ⟨hc.1, hc.2.1, hc.2.2.1, hc.2.2.2.2.1, fun _ h => nomatch h⟩ (hC g ad H.size) ⟨hcw.callB hcs hR, hcs.1.use hin⟩
    ⟨PcE_blind, PcE_at (As := As) hcs hc.2.2.2.2.2.2.2.2.2.2 hP hD hS (fun q h => Or.inr h)⟩ rfl (by simpa using hA) hl.1 (by simp [List.map_append, List.map_reverse]) (lv_room (by rw [cV_sum]; exact hst)) hd ⟨hR.2.2.1, hR.2.2.2⟩
  exact RunEZ_go (w0 := w0) (st := st) (lv := lv) hz hrun hc hD hS hl (fun En w' _ _ _ _ h => (hX En w' h).elim) kk
end calls
section forms
variable {Z : State → (Nat → Nat) → Prop} {l : Launch} {own : String} {cc : ByteArray} {nL : Nat} {ret : Option FieldType} {ini : Bool} {hh : List ExceptionTableEntry} {R : Room} {w0 : AW} {Tg : TgT} {k n pc : Nat} {lv : List (Nat × Value)} {st : List Value} {w1 : AW}
theorem zkE {v : Value} (h : EZ Z l own cc nL ret ini hh R w0 Tg k n pc lv (v :: st) w1) : ∀ (rv : Option Value) (w : AW), QP (some v) w1 rv w → EZ Z l own cc nL ret ini hh R w0 Tg k n pc lv (rv.toList ++ st) w := by
  rintro _ _ ⟨rfl, rfl⟩
  exact h
theorem zkE0 (h : EZ Z l own cc nL ret ini hh R w0 Tg k n pc lv st w1) : ∀ (rv : Option Value) (w : AW), QP none w1 rv w → EZ Z l own cc nL ret ini hh R w0 Tg k n pc lv (rv.toList ++ st) w := by
  rintro _ _ ⟨rfl, rfl⟩
  exact h
theorem zkI {P : Int32 → MI → MJ → Prop} (h : ∀ (r : Int32) (mi : MI) (ml : MJ), P r mi ml → EZ Z l own cc nL ret ini hh R w0 Tg k n pc lv (.int r :: st) (wl mi ml)) : ∀ (rv : Option Value) (w : AW), QI P rv w → EZ Z l own cc nL ret ini hh R w0 Tg k n pc lv (rv.toList ++ st) w := by
  intro rv w hq
  obtain ⟨r, mi, ml, h1, h2, h3⟩ := hq
  rw [h1, h2]
  exact h r mi ml h3
theorem zkJ {P : Int64 → MI → MJ → Prop} (h : ∀ (r : Int64) (mi : MI) (ml : MJ), P r mi ml → EZ Z l own cc nL ret ini hh R w0 Tg k n pc lv (.long r :: st) (wl mi ml)) : ∀ (rv : Option Value) (w : AW), QJ P rv w → EZ Z l own cc nL ret ini hh R w0 Tg k n pc lv (rv.toList ++ st) w := by
  intro rv w hq
  obtain ⟨r, mi, ml, h1, h2, h3⟩ := hq
  rw [h1, h2]
  exact h r mi ml h3
theorem zkV {P : MI → MJ → Prop} (h : ∀ (mi : MI) (ml : MJ), P mi ml → EZ Z l own cc nL ret ini hh R w0 Tg k n pc lv st (wl mi ml)) : ∀ (rv : Option Value) (w : AW), QV P rv w → EZ Z l own cc nL ret ini hh R w0 Tg k n pc lv (rv.toList ++ st) w := by
  intro rv w hq
  obtain ⟨mi, ml, h1, h2, h3⟩ := hq
  rw [h1, h2]
  exact h mi ml h3
end forms
/-- the casts that fail -/
def Nc2 (s : State) : Prop := va_Nc xIS xIA s ∧ va_Nc xIA xIO s
/-- a method with handlers: its contract, where the failing casts are known -/
def CtH (l : Launch) (y : MethodName) (cw : Cond) (d mc ms : Nat) (As : List Value) (w : AW) (Q : Option Value → AW → Prop) (X : String → AW → Prop) : Prop :=
  ∀ (g : Gx) (ad : Nat → Nat) (sz : Nat), vx_Met l y [cw] (rmE d mc ms) (fun a U => PcE g ad sz As w a U ∧ Nc2 U) (QcE g ad sz w Q) (XcE g ad sz w X) mc ms (va_A (cW g ad w) sz)
theorem CtH_of {l : Launch} {y : MethodName} {cc : ByteArray} {nL : Nat} {ret : Option FieldType} {hh : List (Nat × Nat × Nat × Nat)} {d mc ms : Nat} {As : List Value} {w : AW} {Q : Option Value → AW → Prop} {X : String → AW → Prop} (hy : plainName y.cls = true) (hfl : l.stackTraces = false) (hlen : (lg_sl As).length ≤ nL)
    (h : EZ (fun s _ => Nc2 s) l y.cls cc nL ret false (tableOf hh) (rmE d mc ms) w (TgM w mc ms Q X) 0 0 0 (lv_args 0 As) [] w) : CtH l y (.codeWith y cc nL ret hh) d mc ms As w Q X := by
  intro g ad sz
  refine vx_ofWH (cc := cc) (maxL := nL) (ret := ret) (hh := hh) hy rfl ?_
  intro p e s m args below meth c s₁ B hml hv
  obtain ⟨⟨rfl, hsz, hcs, hP, hD0, hZ⟩, hnc⟩ := hv
  subst hsz
  have hown : s.vm.findClass y.cls = some m.cls := findClass_of_methodNamed B.named
  have hD := hD0.self (sz := s.heap.size)
  have hl := lv_entry (As.map (cV ad)) (n := nL) (by rw [lg_sl_len]; exact hlen)
  have htab := vx_table (x := y) B (atoms_spec (ws := [Cond.codeWith y cc nL ret hh]) B.pre _ List.mem_cons_self)
  rw [lg_entry_eq]
  rw [lv_args_map] at hl
  exact h p e s m _ below meth c g ad hnc s.heap [] _ ⟨B.exec, B.bytes, hml, B.returns, hown, B.notSynchronized, fun q => (by cases q), htab, hfl, hcs, hZ⟩ hP hD va_S.rf hl
/-- where the throw of En at pc goes, and what is answered there -/
def HOK (own : String) (hh : List ExceptionTableEntry) (cc : ByteArray) (nL pc : Nat) (En : String) (v : Int32) : Prop :=
  ∃ (pre : List ExceptionTableEntry) (x : ExceptionTableEntry) (suf : List ExceptionTableEntry), hh = pre ++ x :: suf ∧ (∀ z ∈ pre, covers z pc = false ∨ (z.catchType ≠ 0 ∧ ∃ nm : String, Wd (.classLink own z.catchType nm) ∧ ∀ s, Nc2 s → va_Nc En nm s)) ∧ covers x pc = true ∧ x.catchType ≠ 0 ∧ Wd (.classLink own x.catchType En) ∧ Wd (.castable En En) ∧
    ∃ (i ln : Nat) (iv : Int), i < nL ∧ ((decode cc x.handlerPc = .ok (.astore i, 2) ∧ ln = 2) ∨ (∃ q : Fin 4, (q : Nat) = i ∧ decode cc x.handlerPc = .ok (.astore_n q, 1) ∧ ln = 1)) ∧ decode cc (x.handlerPc + ln) = .ok (.iconst iv, 1) ∧ Int32.ofInt iv = v ∧ decode cc (x.handlerPc + ln + 1) = .ok (.ireturn, 1)
theorem EZ_callVH {mc0 ms0 : Nat} {l : Launch} {own : String} {cc : ByteArray} {nL : Nat} {ret : Option FieldType} {ini : Bool} {hh : List ExceptionTableEntry} {R : Room} {w0 : AW} {k n pc : Nat} {lv : List (Nat × Value)} {st : List Value} {w : AW} {Q : Option Value → AW → Prop} {X : String → AW → Prop} {Q0 : Option Value → AW → Prop} {X0 : String → AW → Prop} {y : MethodName} {bytes : ByteArray} {maxL nA d mc ms i ci idx : Nat} {rt : Option FieldType} {As : List Value} {fs : List Value} {q : vw_C} (hC : Ct l y (.code y bytes maxL rt) d mc ms (.ref i :: As) w Q X)
    (hcw : CwE own idx y bytes maxL rt nA) (hin : Wd (.instanceMethod y)) (hse : Wd (.selects y.cls y y)) (hci : vwCl[ci]? = some q) (hq : q.1 = y.cls) (hw : w[i]? = some (.inr (ci, fs))) (hA : As.length = nA) (hR : RoomOk R d mc ms maxL k n) (hst : (st.map fun v => v.category).sum ≤ 8)
    (hd : decode cc pc = .ok (.invokevirtual idx, 3)) (hret : ret = some .int) (hk0 : k + mc ≤ mc0) (hn0 : n + ms ≤ ms0) (hX : ∀ En w', X En w' → ∃ v : Int32, HOK own hh cc nL pc En v ∧ Q0 (some (.int v)) w') {st0 : List Value} (hst0 : As.reverse ++ .ref i :: st = st0)
    (kk : ∀ (rv : Option Value) (w' : AW), Q rv w' → EZ (fun s _ => Nc2 s) l own cc nL ret ini hh R w0 (TgM w0 mc0 ms0 Q0 X0) (k + mc) (n + ms) (pc + 3) lv (rv.toList ++ st) w') : EZ (fun s _ => Nc2 s) l own cc nL ret ini hh R w0 (TgM w0 mc0 ms0 Q0 X0) k n pc lv st0 w := by
  subst hst0
  intro p e s m args below meth c g ad hz H locs ls hc hP hD hS hl
  have hcs := hc.2.2.2.2.2.2.2.2.2.1
  have hrun := vx_runV (args := args) (Ts := []) (As := As.map (cV ad)) (rest := st.map (cV ad)) (g := F0 m pc ls ((As.reverse ++ .ref i :: st).map (cV ad))) (e := e) (below := below) (meth := meth) (H := H) (locs := locs) (cells := k) (slots := n) (nL := nL) ⟨hc.1, hc.2.1, hc.2.2.1, hc.2.2.2.2.1, fun _ h => nomatch h⟩ (hC g ad H.size) ⟨hcw.callB hcs hR, hcs.1.use hin, hcs.1.use hse⟩
    ⟨PcE_blind, by rw [← hq]; exact va_recv hcs.2.2.2 hP hci (cW_at hw), PcE_at (As := .ref i :: As) hcs hc.2.2.2.2.2.2.2.2.2.2 hP hD hS (fun q h => Or.inr h)⟩ rfl (by simpa using hA) hl.1 (by simp [cV, List.map_append, List.map_reverse]) (lv_room (by rw [cV_sum]; exact hst)) hd ⟨hR.2.2.1, hR.2.2.2⟩
  refine RunEZ_go (w0 := w0) (st := st) (lv := lv) hz hrun hc hD hS hl (fun En w' ce q9 H1 locs1 h hP1 hD1 hS1 hce hcv hcl => ?_) kk
  obtain ⟨v, ⟨pre, x, suf, e1, e2, e3, e4, e5, e6, i9, ln, iv, f1, f2, f3, f4, f5⟩, hQ⟩ := hX En w' h
  refine vx_catch (own := own) (name := En) (E := En) hc.2.2.2.2.1 pre x suf (hc.2.2.2.2.2.2.2.1.trans e1) (fun z hzz => ?_) e3 e4 (hcs.1.use e5) (hcs.1.use e6) hce hcv hcl ?_
  · rcases e2 z hzz with r | ⟨r1, nm, r2, r3⟩
    · exact Or.inl r
    · exact Or.inr ⟨r1, nm, hcs.1.use r2, r3 s hz⟩
  · have fin : ∀ ls' : Array Slot, W p l e R s m args below meth c H1 locs1 (k + mc) (n + ms) (TgM w0 mc0 ms0 Q0 X0 below args s g ad) (F0 m (x.handlerPc + ln) ls' []) := fun ls' => by
      refine lv_iconst hc.1 hc.2.1 f3 f4 ?_
      refine W.widen hk0 hn0 (vx_ret ?_)
      exact W.iret (v := v) hc.1 hc.2.1 (hc.2.2.2.1.trans hret) (fun t ht hW => ⟨⟨some (.int v), w', rfl, hQ, by rw [ht]; exact hP1, hD1⟩, hS1.F ht⟩) hS1.2.2 f5 hc.2.2.2.2.2.1
    rcases f2 with ⟨g1, g2⟩ | ⟨q, g0, g1, g2⟩
    · subst g2; exact lv_astore hc.1 hc.2.1 g1 hl f1 rfl (fun ls' _ => fin ls')
    · subst g2; exact lv_astore_n hc.1 hc.2.1 g1 g0 hl f1 rfl (fun ls' _ => fin ls')
end EZR
