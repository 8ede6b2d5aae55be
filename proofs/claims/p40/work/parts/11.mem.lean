section MEM
abbrev MI : Type := Nat → Nat → Int32
abbrev MJ : Type := Nat → Nat → Int64
def u2 {α : Type} (f : Nat → Nat → α) (p k : Nat) (v : α) : Nat → Nat → α := fun p' k' => if p' = p ∧ k' = k then v else f p' k'
theorem u2_s {α : Type} (f : Nat → Nat → α) (p k : Nat) (v : α) : u2 f p k v p k = v := by simp [u2]
theorem u2_n {α : Type} {f : Nat → Nat → α} {p k p' k' : Nat} {v : α} (h : p' ≠ p ∨ k' ≠ k) : u2 f p k v p' k' = f p' k' := by
  unfold u2
  rw [if_neg]
  intro h2
  rcases h with h | h
  · exact h h2.1
  · exact h h2.2
theorem u2_p {α : Type} {f : Nat → Nat → α} {p k p' : Nat} {v : α} (h : p' ≠ p) : u2 f p k v p' = f p' := by
  funext k'
  exact u2_n (Or.inl h)
theorem u2_row {α : Type} {f : Nat → Nat → α} {p k : Nat} {v : α} : u2 f p k v p = fun j => if j = k then v else f p j := by
  funext j
  simp [u2]
def arI (n : Nat) : va_E := .inl (0, n, .inl (fun _ => 0))
def arJ (n : Nat) : va_E := .inl (1, n, .inr (.inl (fun _ => 0)))
def dkF (h : Nat) : List Value := [.int 0, .int 0, .int 0, .int 0, .int 0, .int 0, .ref (h + 1), .ref (h + 2), .int 0, .ref (h + 3), .int 0, .ref (h + 4), .ref (h + 5), .ref (h + 6), .ref (h + 7)]
def dkB (h : Nat) : List va_E := [.inr (1, dkF h), arI 10, arI 10, arI 5, arI 16, arI 16, arI 16, arI 16]
def svF : Nat → Option Nat := fun j => if j = 0 then some 19 else if j = 1 then some 27 else if j = 2 then some 35 else if j = 3 then some 43 else none
def xF : List Value := [.ref 1, .ref 9, .ref 17, .ref 51, .ref 53, .ref 58, .ref 60]
def hF : List Value := [.ref 18, .int 0, .int 0]
def mxF : List Value := [.ref 52, .int 0]
def csF : List Value := [.ref 54, .ref 55, .ref 56, .ref 57, .int 0, .int 0, .int 0, .int 0, .int 0, .int 0]
def plF : List Value := [.ref 59, .int 0, .int 0, .int 0, .int 0]
/-- the cells by their places, numbers left out -/
def twl : List va_E := [.inr (5, xF)] ++ dkB 1 ++ dkB 9 ++ [.inr (2, hF), .inl (2, 4, .inr (.inr (.inr (.inr svF))))] ++ dkB 19 ++ dkB 27 ++ dkB 35 ++ dkB 43 ++ [.inr (3, mxF), arI 3240, .inr (0, csF), arI 11, arI 11, arJ 12, arJ 12, .inr (4, plF), arI 120, arJ 5]
def cellV (mi : MI) (ml : MJ) (p k : Nat) : Value → Value
  | .int _ => .int (mi p k)
  | .long _ => .long (ml p k)
  | v => v
def cellM (mi : MI) (ml : MJ) (p : Nat) : va_E → va_E
  | .inr (ci, fs) => .inr (ci, fs.mapIdx (fun k v => cellV mi ml p k v))
  | .inl (t, n, .inl _) => .inl (t, n, .inl (mi p))
  | .inl (t, n, .inr (.inl _)) => .inl (t, n, .inr (.inl (ml p)))
  | e => e
def wl (mi : MI) (ml : MJ) : AW := twl.mapIdx (fun p e => cellM mi ml p e)
theorem wl_at {mi : MI} {ml : MJ} {p : Nat} {e : va_E} (h : twl[p]? = some e) : (wl mi ml)[p]? = some (cellM mi ml p e) := by
  simp [wl, List.getElem?_mapIdx, h]
theorem wl_atO {mi : MI} {ml : MJ} {p ci : Nat} {fs : List Value} (h : twl[p]? = some (.inr (ci, fs))) : (wl mi ml)[p]? = some (.inr (ci, fs.mapIdx (fun k v => cellV mi ml p k v))) := wl_at h
theorem cellM_oi {mi : MI} {ml : MJ} {p k : Nat} {v : Int32} {j : Nat} (hj : j ≠ p) (e : va_E) : cellM (u2 mi p k v) ml j e = cellM mi ml j e := by
  obtain ⟨t, n, f⟩ | ⟨ci, fs⟩ := e
  · rcases f with f | f | f | f | f <;> simp [cellM, u2_p hj]
  · have h9 : (fun k' v' => cellV (u2 mi p k v) ml j k' v') = fun k' v' => cellV mi ml j k' v' := by
      funext k' v'
      cases v' <;> simp [cellV, u2_p hj]
    simp only [cellM, h9]
theorem cellM_oj {mi : MI} {ml : MJ} {p k : Nat} {v : Int64} {j : Nat} (hj : j ≠ p) (e : va_E) : cellM mi (u2 ml p k v) j e = cellM mi ml j e := by
  obtain ⟨t, n, f⟩ | ⟨ci, fs⟩ := e
  · rcases f with f | f | f | f | f <;> simp [cellM, u2_p hj]
  · have h9 : (fun k' v' => cellV mi (u2 ml p k v) j k' v') = fun k' v' => cellV mi ml j k' v' := by
      funext k' v'
      cases v' <;> simp [cellV, u2_p hj]
    simp only [cellM, h9]
theorem wl_seti {mi : MI} {ml : MJ} {p k : Nat} {v : Int32} {e e' : va_E} (h : twl[p]? = some e) (he : cellM (u2 mi p k v) ml p e = e') : (wl mi ml).set p e' = wl (u2 mi p k v) ml := by
  apply List.ext_getElem?
  intro j
  rw [List.getElem?_set]
  by_cases hj : p = j
  · subst hj
    have hl : p < (wl mi ml).length := by
      simp only [wl, List.length_mapIdx]
      exact (List.getElem?_eq_some_iff.mp h).1
    rw [if_pos rfl, if_pos hl, wl_at h, he]
  · rw [if_neg hj]
    simp only [wl, List.getElem?_mapIdx]
    cases twl[j]? with
    | none => rfl
    | some x => simp only [Option.map_some, cellM_oi (Ne.symm hj)]
theorem wl_setj {mi : MI} {ml : MJ} {p k : Nat} {v : Int64} {e e' : va_E} (h : twl[p]? = some e) (he : cellM mi (u2 ml p k v) p e = e') : (wl mi ml).set p e' = wl mi (u2 ml p k v) := by
  apply List.ext_getElem?
  intro j
  rw [List.getElem?_set]
  by_cases hj : p = j
  · subst hj
    have hl : p < (wl mi ml).length := by
      simp only [wl, List.length_mapIdx]
      exact (List.getElem?_eq_some_iff.mp h).1
    rw [if_pos rfl, if_pos hl, wl_at h, he]
  · rw [if_neg hj]
    simp only [wl, List.getElem?_mapIdx]
    cases twl[j]? with
    | none => rfl
    | some x => simp only [Option.map_some, cellM_oj (Ne.symm hj)]
theorem wl_puti {mi : MI} {ml : MJ} {p ci k : Nat} {fs : List Value} {z v : Int32} (h : twl[p]? = some (.inr (ci, fs))) (hk : fs[k]? = some (.int z)) : (wl mi ml).set p (.inr (ci, (fs.mapIdx (fun k v => cellV mi ml p k v)).set k (.int v))) = wl (u2 mi p k v) ml := by
  refine wl_seti h ?_
  simp only [cellM]
  congr 2
  apply List.ext_getElem?
  intro j
  rw [List.getElem?_set, List.getElem?_mapIdx, List.getElem?_mapIdx]
  have hl : k < (fs.mapIdx (fun k v => cellV mi ml p k v)).length := by
    rw [List.length_mapIdx]
    exact (List.getElem?_eq_some_iff.mp hk).1
  by_cases hj : k = j
  · subst hj
    rw [if_pos rfl, if_pos hl, hk]
    simp [cellV, u2_s]
  · rw [if_neg hj]
    cases fs[j]? with
    | none => rfl
    | some x => cases x <;> simp [cellV, u2_n (f := mi) (p := p) (k := k) (p' := p) (k' := j) (v := v) (Or.inr (Ne.symm hj))]
theorem wl_putj {mi : MI} {ml : MJ} {p ci k : Nat} {fs : List Value} {z v : Int64} (h : twl[p]? = some (.inr (ci, fs))) (hk : fs[k]? = some (.long z)) : (wl mi ml).set p (.inr (ci, (fs.mapIdx (fun k v => cellV mi ml p k v)).set k (.long v))) = wl mi (u2 ml p k v) := by
  refine wl_setj h ?_
  simp only [cellM]
  congr 2
  apply List.ext_getElem?
  intro j
  rw [List.getElem?_set, List.getElem?_mapIdx, List.getElem?_mapIdx]
  have hl : k < (fs.mapIdx (fun k v => cellV mi ml p k v)).length := by
    rw [List.length_mapIdx]
    exact (List.getElem?_eq_some_iff.mp hk).1
  by_cases hj : k = j
  · subst hj
    rw [if_pos rfl, if_pos hl, hk]
    simp [cellV, u2_s]
  · rw [if_neg hj]
    cases fs[j]? with
    | none => rfl
    | some x => cases x <;> simp [cellV, u2_n (f := ml) (p := p) (k := k) (p' := p) (k' := j) (v := v) (Or.inr (Ne.symm hj))]
theorem tNC (x : Int32) {j : Nat} (h : x.toInt = (j : Int)) : x.toNatClampNeg = j := by
  show x.toInt.toNat = j
  omega
theorem vpi {x : Int32} {j z : Nat} (h : x.toInt = (j : Int)) (hl : j < z) : vp_in x z := vp_in_iff.mpr ⟨by omega, by omega⟩
section rows
variable {l : Launch} {own : String} {cc : ByteArray} {nL : Nat} {ret : Option FieldType} {ini : Bool} {hh : List ExceptionTableEntry} {R : Room} {w0 : AW} {Tg : TgT} {k n pc : Nat} {lv : List (Nat × Value)} {st : List Value} {mi : MI} {ml : MJ}
theorem S_iald {p z : Nat} {f0 : Nat → Int32} {j : Int32} (jx : Nat) (v : Int32) (ht : twl[p]? = some (.inl (0, z, .inl f0))) (hj : j.toInt = (jx : Int)) (hl : jx < z) (hv : mi p jx = v) (hd : decode cc pc = .ok (.iaload, 1))
    (kk : E l own cc nL ret ini hh R w0 Tg k n (pc + 1) lv (.int v :: st) (wl mi ml)) : E l own cc nL ret ini hh R w0 Tg k n pc lv (.int j :: .ref p :: st) (wl mi ml) :=
  E_iald (f := mi p) (wl_at ht) (vpi hj hl) hd (by rw [tNC j hj, hv]; exact kk)
theorem S_lald {p z : Nat} {f0 : Nat → Int64} {j : Int32} (jx : Nat) (v : Int64) (ht : twl[p]? = some (.inl (1, z, .inr (.inl f0)))) (hj : j.toInt = (jx : Int)) (hl : jx < z) (hv : ml p jx = v) (hd : decode cc pc = .ok (.laload, 1))
    (kk : E l own cc nL ret ini hh R w0 Tg k n (pc + 1) lv (.long v :: st) (wl mi ml)) : E l own cc nL ret ini hh R w0 Tg k n pc lv (.int j :: .ref p :: st) (wl mi ml) :=
  E_lald (f := ml p) (wl_at ht) (vpi hj hl) hd (by rw [tNC j hj, hv]; exact kk)
theorem S_iast {p z : Nat} {f0 : Nat → Int32} {j x : Int32} (jx : Nat) (ht : twl[p]? = some (.inl (0, z, .inl f0))) (hj : j.toInt = (jx : Int)) (hl : jx < z) (hd : decode cc pc = .ok (.iastore, 1))
    (kk : E l own cc nL ret ini hh R w0 Tg k n (pc + 1) lv st (wl (u2 mi p jx x) ml)) : E l own cc nL ret ini hh R w0 Tg k n pc lv (.int x :: .int j :: .ref p :: st) (wl mi ml) := by
  refine E_iast (f := mi p) (wl_at ht) (vpi hj hl) hd ?_
  rw [tNC j hj, wl_seti (k := jx) (v := x) ht (by simp only [cellM, u2_row]; rfl)]
  exact kk
theorem S_last {p z : Nat} {f0 : Nat → Int64} {j : Int32} {x : Int64} (jx : Nat) (ht : twl[p]? = some (.inl (1, z, .inr (.inl f0)))) (hj : j.toInt = (jx : Int)) (hl : jx < z) (hd : decode cc pc = .ok (.lastore, 1))
    (kk : E l own cc nL ret ini hh R w0 Tg k n (pc + 1) lv st (wl mi (u2 ml p jx x))) : E l own cc nL ret ini hh R w0 Tg k n pc lv (.long x :: .int j :: .ref p :: st) (wl mi ml) := by
  refine E_last (f := ml p) (wl_at ht) (vpi hj hl) hd ?_
  rw [tNC j hj, wl_setj (k := jx) (v := x) ht (by simp only [cellM, u2_row]; rfl)]
  exact kk
theorem S_alenJ {p z : Nat} {f0 : Nat → Int64} (v : Int32) (ht : twl[p]? = some (.inl (1, z, .inr (.inl f0)))) (hv : Int32.ofNat z = v) (hd : decode cc pc = .ok (.arraylength, 1))
    (kk : E l own cc nL ret ini hh R w0 Tg k n (pc + 1) lv (.int v :: st) (wl mi ml)) : E l own cc nL ret ini hh R w0 Tg k n pc lv (.ref p :: st) (wl mi ml) :=
  E_alenJ (f := ml p) (wl_at ht) hv hd kk
theorem S_aald {p z q : Nat} {f0 : Nat → Option Nat} {j : Int32} (jx : Nat) (ht : twl[p]? = some (.inl (2, z, .inr (.inr (.inr (.inr f0)))))) (hj : j.toInt = (jx : Int)) (hl : jx < z) (hq : f0 jx = some q) (hd : decode cc pc = .ok (.aaload, 1))
    (kk : E l own cc nL ret ini hh R w0 Tg k n (pc + 1) lv (.ref q :: st) (wl mi ml)) : E l own cc nL ret ini hh R w0 Tg k n pc lv (.int j :: .ref p :: st) (wl mi ml) :=
  E_aald (f := f0) (wl_at ht) (vpi hj hl) (by rw [tNC j hj]; exact hq) hd kk
theorem fl_X5_10 : Wd (.fieldLink RX5 10 RX5 (TX5 0).2.1 (TX5 0).2.2.1) := ⟨List.mem_of_getElem? (i := 209) (by decide +kernel), rfl⟩
theorem gf_X5_10 {p q : Nat} {fs : List Value} (ht : twl[p]? = some (.inr (5, fs))) (hz : fs[0]? = some (.ref q)) (hd : decode cc pc = .ok (.getfield 10, 3))
    (kk : E l RX5 cc nL ret ini hh R w0 Tg k n (pc + 3) lv (.ref q :: st) (wl mi ml)) : E l RX5 cc nL ret ini hh R w0 Tg k n pc lv (.ref p :: st) (wl mi ml) :=
  E_get (ref := RX5) (T := TX5) (N := 7) rfl uX5 (by decide) fl_X5_10 rfl (wl_atO ht) (v := .ref q) (by simp [List.getElem?_mapIdx, hz, cellV]) hd kk
theorem fl_X5_16 : Wd (.fieldLink RX5 16 RX5 (TX5 1).2.1 (TX5 1).2.2.1) := ⟨List.mem_of_getElem? (i := 210) (by decide +kernel), rfl⟩
theorem gf_X5_16 {p q : Nat} {fs : List Value} (ht : twl[p]? = some (.inr (5, fs))) (hz : fs[1]? = some (.ref q)) (hd : decode cc pc = .ok (.getfield 16, 3))
    (kk : E l RX5 cc nL ret ini hh R w0 Tg k n (pc + 3) lv (.ref q :: st) (wl mi ml)) : E l RX5 cc nL ret ini hh R w0 Tg k n pc lv (.ref p :: st) (wl mi ml) :=
  E_get (ref := RX5) (T := TX5) (N := 7) rfl uX5 (by decide) fl_X5_16 rfl (wl_atO ht) (v := .ref q) (by simp [List.getElem?_mapIdx, hz, cellV]) hd kk
theorem fl_X5_22 : Wd (.fieldLink RX5 22 RX5 (TX5 2).2.1 (TX5 2).2.2.1) := ⟨List.mem_of_getElem? (i := 211) (by decide +kernel), rfl⟩
theorem gf_X5_22 {p q : Nat} {fs : List Value} (ht : twl[p]? = some (.inr (5, fs))) (hz : fs[2]? = some (.ref q)) (hd : decode cc pc = .ok (.getfield 22, 3))
    (kk : E l RX5 cc nL ret ini hh R w0 Tg k n (pc + 3) lv (.ref q :: st) (wl mi ml)) : E l RX5 cc nL ret ini hh R w0 Tg k n pc lv (.ref p :: st) (wl mi ml) :=
  E_get (ref := RX5) (T := TX5) (N := 7) rfl uX5 (by decide) fl_X5_22 rfl (wl_atO ht) (v := .ref q) (by simp [List.getElem?_mapIdx, hz, cellV]) hd kk
theorem fl_X5_29 : Wd (.fieldLink RX5 29 RX5 (TX5 3).2.1 (TX5 3).2.2.1) := ⟨List.mem_of_getElem? (i := 212) (by decide +kernel), rfl⟩
theorem gf_X5_29 {p q : Nat} {fs : List Value} (ht : twl[p]? = some (.inr (5, fs))) (hz : fs[3]? = some (.ref q)) (hd : decode cc pc = .ok (.getfield 29, 3))
    (kk : E l RX5 cc nL ret ini hh R w0 Tg k n (pc + 3) lv (.ref q :: st) (wl mi ml)) : E l RX5 cc nL ret ini hh R w0 Tg k n pc lv (.ref p :: st) (wl mi ml) :=
  E_get (ref := RX5) (T := TX5) (N := 7) rfl uX5 (by decide) fl_X5_29 rfl (wl_atO ht) (v := .ref q) (by simp [List.getElem?_mapIdx, hz, cellV]) hd kk
theorem fl_X5_36 : Wd (.fieldLink RX5 36 RX5 (TX5 4).2.1 (TX5 4).2.2.1) := ⟨List.mem_of_getElem? (i := 213) (by decide +kernel), rfl⟩
theorem gf_X5_36 {p q : Nat} {fs : List Value} (ht : twl[p]? = some (.inr (5, fs))) (hz : fs[4]? = some (.ref q)) (hd : decode cc pc = .ok (.getfield 36, 3))
    (kk : E l RX5 cc nL ret ini hh R w0 Tg k n (pc + 3) lv (.ref q :: st) (wl mi ml)) : E l RX5 cc nL ret ini hh R w0 Tg k n pc lv (.ref p :: st) (wl mi ml) :=
  E_get (ref := RX5) (T := TX5) (N := 7) rfl uX5 (by decide) fl_X5_36 rfl (wl_atO ht) (v := .ref q) (by simp [List.getElem?_mapIdx, hz, cellV]) hd kk
theorem fl_X5_43 : Wd (.fieldLink RX5 43 RX5 (TX5 5).2.1 (TX5 5).2.2.1) := ⟨List.mem_of_getElem? (i := 214) (by decide +kernel), rfl⟩
theorem gf_X5_43 {p q : Nat} {fs : List Value} (ht : twl[p]? = some (.inr (5, fs))) (hz : fs[5]? = some (.ref q)) (hd : decode cc pc = .ok (.getfield 43, 3))
    (kk : E l RX5 cc nL ret ini hh R w0 Tg k n (pc + 3) lv (.ref q :: st) (wl mi ml)) : E l RX5 cc nL ret ini hh R w0 Tg k n pc lv (.ref p :: st) (wl mi ml) :=
  E_get (ref := RX5) (T := TX5) (N := 7) rfl uX5 (by decide) fl_X5_43 rfl (wl_atO ht) (v := .ref q) (by simp [List.getElem?_mapIdx, hz, cellV]) hd kk
theorem fl_X5_47 : Wd (.fieldLink RX5 47 RX5 (TX5 6).2.1 (TX5 6).2.2.1) := ⟨List.mem_of_getElem? (i := 215) (by decide +kernel), rfl⟩
theorem gf_X5_47 {p q : Nat} {fs : List Value} (ht : twl[p]? = some (.inr (5, fs))) (hz : fs[6]? = some (.ref q)) (hd : decode cc pc = .ok (.getfield 47, 3))
    (kk : E l RX5 cc nL ret ini hh R w0 Tg k n (pc + 3) lv (.ref q :: st) (wl mi ml)) : E l RX5 cc nL ret ini hh R w0 Tg k n pc lv (.ref p :: st) (wl mi ml) :=
  E_get (ref := RX5) (T := TX5) (N := 7) rfl uX5 (by decide) fl_X5_47 rfl (wl_atO ht) (v := .ref q) (by simp [List.getElem?_mapIdx, hz, cellV]) hd kk
theorem fl_X5_80 : Wd (.fieldLinkNest RX5 80 RX1 (TX1 5).2.1 (TX1 5).2.2.1 "ChannelSpacer") := ⟨List.mem_of_getElem? (i := 71) (by decide +kernel), rfl⟩
theorem gf_X5_80 {p : Nat} {fs : List Value} {z : Int32} (v : Int32) (ht : twl[p]? = some (.inr (1, fs))) (hz : fs[5]? = some (.int z)) (hv : mi p 5 = v) (hd : decode cc pc = .ok (.getfield 80, 3))
    (kk : E l RX5 cc nL ret ini hh R w0 Tg k n (pc + 3) lv (.int v :: st) (wl mi ml)) : E l RX5 cc nL ret ini hh R w0 Tg k n pc lv (.ref p :: st) (wl mi ml) :=
  E_getN (ref := RX1) (T := TX1) (N := 15) rfl uX1 (by decide) fl_X5_80 rfl (wl_atO ht) (v := .int v) (by simp [List.getElem?_mapIdx, hz, cellV, hv]) hd kk
theorem pf_X5_80 {p : Nat} {fs : List Value} {z v : Int32} (ht : twl[p]? = some (.inr (1, fs))) (hz : fs[5]? = some (.int z)) (hd : decode cc pc = .ok (.putfield 80, 3))
    (kk : E l RX5 cc nL ret ini hh R w0 Tg k n (pc + 3) lv st (wl (u2 mi p 5 v) ml)) : E l RX5 cc nL ret ini hh R w0 Tg k n pc lv (.int v :: .ref p :: st) (wl mi ml) :=
  E_putN (ref := RX1) (T := TX1) (N := 15) (ty := .int) tyX1 tyX1_ok nmX1 rfl uX1 (by decide) fl_X5_80 rfl rfl (by decide +kernel) (fun _ => rfl) (fun _ => rfl) (wl_atO ht) (by rw [List.length_mapIdx]; exact (List.getElem?_eq_some_iff.mp hz).1) hd (by rw [wl_puti ht hz]; exact kk)
theorem fl_X5_118 : Wd (.fieldLinkNest RX5 118 RX1 (TX1 0).2.1 (TX1 0).2.2.1 "ChannelSpacer") := ⟨List.mem_of_getElem? (i := 55) (by decide +kernel), rfl⟩
theorem gf_X5_118 {p : Nat} {fs : List Value} {z : Int32} (v : Int32) (ht : twl[p]? = some (.inr (1, fs))) (hz : fs[0]? = some (.int z)) (hv : mi p 0 = v) (hd : decode cc pc = .ok (.getfield 118, 3))
    (kk : E l RX5 cc nL ret ini hh R w0 Tg k n (pc + 3) lv (.int v :: st) (wl mi ml)) : E l RX5 cc nL ret ini hh R w0 Tg k n pc lv (.ref p :: st) (wl mi ml) :=
  E_getN (ref := RX1) (T := TX1) (N := 15) rfl uX1 (by decide) fl_X5_118 rfl (wl_atO ht) (v := .int v) (by simp [List.getElem?_mapIdx, hz, cellV, hv]) hd kk
theorem pf_X5_118 {p : Nat} {fs : List Value} {z v : Int32} (ht : twl[p]? = some (.inr (1, fs))) (hz : fs[0]? = some (.int z)) (hd : decode cc pc = .ok (.putfield 118, 3))
    (kk : E l RX5 cc nL ret ini hh R w0 Tg k n (pc + 3) lv st (wl (u2 mi p 0 v) ml)) : E l RX5 cc nL ret ini hh R w0 Tg k n pc lv (.int v :: .ref p :: st) (wl mi ml) :=
  E_putN (ref := RX1) (T := TX1) (N := 15) (ty := .int) tyX1 tyX1_ok nmX1 rfl uX1 (by decide) fl_X5_118 rfl rfl (by decide +kernel) (fun _ => rfl) (fun _ => rfl) (wl_atO ht) (by rw [List.length_mapIdx]; exact (List.getElem?_eq_some_iff.mp hz).1) hd (by rw [wl_puti ht hz]; exact kk)
theorem fl_X5_121 : Wd (.fieldLinkNest RX5 121 RX1 (TX1 1).2.1 (TX1 1).2.2.1 "ChannelSpacer") := ⟨List.mem_of_getElem? (i := 59) (by decide +kernel), rfl⟩
theorem gf_X5_121 {p : Nat} {fs : List Value} {z : Int32} (v : Int32) (ht : twl[p]? = some (.inr (1, fs))) (hz : fs[1]? = some (.int z)) (hv : mi p 1 = v) (hd : decode cc pc = .ok (.getfield 121, 3))
    (kk : E l RX5 cc nL ret ini hh R w0 Tg k n (pc + 3) lv (.int v :: st) (wl mi ml)) : E l RX5 cc nL ret ini hh R w0 Tg k n pc lv (.ref p :: st) (wl mi ml) :=
  E_getN (ref := RX1) (T := TX1) (N := 15) rfl uX1 (by decide) fl_X5_121 rfl (wl_atO ht) (v := .int v) (by simp [List.getElem?_mapIdx, hz, cellV, hv]) hd kk
theorem pf_X5_121 {p : Nat} {fs : List Value} {z v : Int32} (ht : twl[p]? = some (.inr (1, fs))) (hz : fs[1]? = some (.int z)) (hd : decode cc pc = .ok (.putfield 121, 3))
    (kk : E l RX5 cc nL ret ini hh R w0 Tg k n (pc + 3) lv st (wl (u2 mi p 1 v) ml)) : E l RX5 cc nL ret ini hh R w0 Tg k n pc lv (.int v :: .ref p :: st) (wl mi ml) :=
  E_putN (ref := RX1) (T := TX1) (N := 15) (ty := .int) tyX1 tyX1_ok nmX1 rfl uX1 (by decide) fl_X5_121 rfl rfl (by decide +kernel) (fun _ => rfl) (fun _ => rfl) (wl_atO ht) (by rw [List.length_mapIdx]; exact (List.getElem?_eq_some_iff.mp hz).1) hd (by rw [wl_puti ht hz]; exact kk)
theorem fl_X5_124 : Wd (.fieldLinkNest RX5 124 RX1 (TX1 2).2.1 (TX1 2).2.2.1 "ChannelSpacer") := ⟨List.mem_of_getElem? (i := 63) (by decide +kernel), rfl⟩
theorem gf_X5_124 {p : Nat} {fs : List Value} {z : Int32} (v : Int32) (ht : twl[p]? = some (.inr (1, fs))) (hz : fs[2]? = some (.int z)) (hv : mi p 2 = v) (hd : decode cc pc = .ok (.getfield 124, 3))
    (kk : E l RX5 cc nL ret ini hh R w0 Tg k n (pc + 3) lv (.int v :: st) (wl mi ml)) : E l RX5 cc nL ret ini hh R w0 Tg k n pc lv (.ref p :: st) (wl mi ml) :=
  E_getN (ref := RX1) (T := TX1) (N := 15) rfl uX1 (by decide) fl_X5_124 rfl (wl_atO ht) (v := .int v) (by simp [List.getElem?_mapIdx, hz, cellV, hv]) hd kk
theorem pf_X5_124 {p : Nat} {fs : List Value} {z v : Int32} (ht : twl[p]? = some (.inr (1, fs))) (hz : fs[2]? = some (.int z)) (hd : decode cc pc = .ok (.putfield 124, 3))
    (kk : E l RX5 cc nL ret ini hh R w0 Tg k n (pc + 3) lv st (wl (u2 mi p 2 v) ml)) : E l RX5 cc nL ret ini hh R w0 Tg k n pc lv (.int v :: .ref p :: st) (wl mi ml) :=
  E_putN (ref := RX1) (T := TX1) (N := 15) (ty := .int) tyX1 tyX1_ok nmX1 rfl uX1 (by decide) fl_X5_124 rfl rfl (by decide +kernel) (fun _ => rfl) (fun _ => rfl) (wl_atO ht) (by rw [List.length_mapIdx]; exact (List.getElem?_eq_some_iff.mp hz).1) hd (by rw [wl_puti ht hz]; exact kk)
theorem fl_X5_127 : Wd (.fieldLinkNest RX5 127 RX1 (TX1 10).2.1 (TX1 10).2.2.1 "ChannelSpacer") := ⟨List.mem_of_getElem? (i := 79) (by decide +kernel), rfl⟩
theorem gf_X5_127 {p : Nat} {fs : List Value} {z : Int32} (v : Int32) (ht : twl[p]? = some (.inr (1, fs))) (hz : fs[10]? = some (.int z)) (hv : mi p 10 = v) (hd : decode cc pc = .ok (.getfield 127, 3))
    (kk : E l RX5 cc nL ret ini hh R w0 Tg k n (pc + 3) lv (.int v :: st) (wl mi ml)) : E l RX5 cc nL ret ini hh R w0 Tg k n pc lv (.ref p :: st) (wl mi ml) :=
  E_getN (ref := RX1) (T := TX1) (N := 15) rfl uX1 (by decide) fl_X5_127 rfl (wl_atO ht) (v := .int v) (by simp [List.getElem?_mapIdx, hz, cellV, hv]) hd kk
theorem pf_X5_127 {p : Nat} {fs : List Value} {z v : Int32} (ht : twl[p]? = some (.inr (1, fs))) (hz : fs[10]? = some (.int z)) (hd : decode cc pc = .ok (.putfield 127, 3))
    (kk : E l RX5 cc nL ret ini hh R w0 Tg k n (pc + 3) lv st (wl (u2 mi p 10 v) ml)) : E l RX5 cc nL ret ini hh R w0 Tg k n pc lv (.int v :: .ref p :: st) (wl mi ml) :=
  E_putN (ref := RX1) (T := TX1) (N := 15) (ty := .int) tyX1 tyX1_ok nmX1 rfl uX1 (by decide) fl_X5_127 rfl rfl (by decide +kernel) (fun _ => rfl) (fun _ => rfl) (wl_atO ht) (by rw [List.length_mapIdx]; exact (List.getElem?_eq_some_iff.mp hz).1) hd (by rw [wl_puti ht hz]; exact kk)
theorem fl_X5_132 : Wd (.fieldLinkNest RX5 132 RX1 (TX1 3).2.1 (TX1 3).2.2.1 "ChannelSpacer") := ⟨List.mem_of_getElem? (i := 66) (by decide +kernel), rfl⟩
theorem gf_X5_132 {p : Nat} {fs : List Value} {z : Int32} (v : Int32) (ht : twl[p]? = some (.inr (1, fs))) (hz : fs[3]? = some (.int z)) (hv : mi p 3 = v) (hd : decode cc pc = .ok (.getfield 132, 3))
    (kk : E l RX5 cc nL ret ini hh R w0 Tg k n (pc + 3) lv (.int v :: st) (wl mi ml)) : E l RX5 cc nL ret ini hh R w0 Tg k n pc lv (.ref p :: st) (wl mi ml) :=
  E_getN (ref := RX1) (T := TX1) (N := 15) rfl uX1 (by decide) fl_X5_132 rfl (wl_atO ht) (v := .int v) (by simp [List.getElem?_mapIdx, hz, cellV, hv]) hd kk
theorem pf_X5_132 {p : Nat} {fs : List Value} {z v : Int32} (ht : twl[p]? = some (.inr (1, fs))) (hz : fs[3]? = some (.int z)) (hd : decode cc pc = .ok (.putfield 132, 3))
    (kk : E l RX5 cc nL ret ini hh R w0 Tg k n (pc + 3) lv st (wl (u2 mi p 3 v) ml)) : E l RX5 cc nL ret ini hh R w0 Tg k n pc lv (.int v :: .ref p :: st) (wl mi ml) :=
  E_putN (ref := RX1) (T := TX1) (N := 15) (ty := .int) tyX1 tyX1_ok nmX1 rfl uX1 (by decide) fl_X5_132 rfl rfl (by decide +kernel) (fun _ => rfl) (fun _ => rfl) (wl_atO ht) (by rw [List.length_mapIdx]; exact (List.getElem?_eq_some_iff.mp hz).1) hd (by rw [wl_puti ht hz]; exact kk)
theorem fl_X5_135 : Wd (.fieldLinkNest RX5 135 RX1 (TX1 4).2.1 (TX1 4).2.2.1 "ChannelSpacer") := ⟨List.mem_of_getElem? (i := 69) (by decide +kernel), rfl⟩
theorem gf_X5_135 {p : Nat} {fs : List Value} {z : Int32} (v : Int32) (ht : twl[p]? = some (.inr (1, fs))) (hz : fs[4]? = some (.int z)) (hv : mi p 4 = v) (hd : decode cc pc = .ok (.getfield 135, 3))
    (kk : E l RX5 cc nL ret ini hh R w0 Tg k n (pc + 3) lv (.int v :: st) (wl mi ml)) : E l RX5 cc nL ret ini hh R w0 Tg k n pc lv (.ref p :: st) (wl mi ml) :=
  E_getN (ref := RX1) (T := TX1) (N := 15) rfl uX1 (by decide) fl_X5_135 rfl (wl_atO ht) (v := .int v) (by simp [List.getElem?_mapIdx, hz, cellV, hv]) hd kk
theorem pf_X5_135 {p : Nat} {fs : List Value} {z v : Int32} (ht : twl[p]? = some (.inr (1, fs))) (hz : fs[4]? = some (.int z)) (hd : decode cc pc = .ok (.putfield 135, 3))
    (kk : E l RX5 cc nL ret ini hh R w0 Tg k n (pc + 3) lv st (wl (u2 mi p 4 v) ml)) : E l RX5 cc nL ret ini hh R w0 Tg k n pc lv (.int v :: .ref p :: st) (wl mi ml) :=
  E_putN (ref := RX1) (T := TX1) (N := 15) (ty := .int) tyX1 tyX1_ok nmX1 rfl uX1 (by decide) fl_X5_135 rfl rfl (by decide +kernel) (fun _ => rfl) (fun _ => rfl) (wl_atO ht) (by rw [List.length_mapIdx]; exact (List.getElem?_eq_some_iff.mp hz).1) hd (by rw [wl_puti ht hz]; exact kk)
theorem fl_X5_138 : Wd (.fieldLinkNest RX5 138 RX1 (TX1 8).2.1 (TX1 8).2.2.1 "ChannelSpacer") := ⟨List.mem_of_getElem? (i := 76) (by decide +kernel), rfl⟩
theorem gf_X5_138 {p : Nat} {fs : List Value} {z : Int32} (v : Int32) (ht : twl[p]? = some (.inr (1, fs))) (hz : fs[8]? = some (.int z)) (hv : mi p 8 = v) (hd : decode cc pc = .ok (.getfield 138, 3))
    (kk : E l RX5 cc nL ret ini hh R w0 Tg k n (pc + 3) lv (.int v :: st) (wl mi ml)) : E l RX5 cc nL ret ini hh R w0 Tg k n pc lv (.ref p :: st) (wl mi ml) :=
  E_getN (ref := RX1) (T := TX1) (N := 15) rfl uX1 (by decide) fl_X5_138 rfl (wl_atO ht) (v := .int v) (by simp [List.getElem?_mapIdx, hz, cellV, hv]) hd kk
theorem pf_X5_138 {p : Nat} {fs : List Value} {z v : Int32} (ht : twl[p]? = some (.inr (1, fs))) (hz : fs[8]? = some (.int z)) (hd : decode cc pc = .ok (.putfield 138, 3))
    (kk : E l RX5 cc nL ret ini hh R w0 Tg k n (pc + 3) lv st (wl (u2 mi p 8 v) ml)) : E l RX5 cc nL ret ini hh R w0 Tg k n pc lv (.int v :: .ref p :: st) (wl mi ml) :=
  E_putN (ref := RX1) (T := TX1) (N := 15) (ty := .int) tyX1 tyX1_ok nmX1 rfl uX1 (by decide) fl_X5_138 rfl rfl (by decide +kernel) (fun _ => rfl) (fun _ => rfl) (wl_atO ht) (by rw [List.length_mapIdx]; exact (List.getElem?_eq_some_iff.mp hz).1) hd (by rw [wl_puti ht hz]; exact kk)
theorem fl_X5_154 : Wd (.fieldLinkNest RX5 154 RX3 (TX3 1).2.1 (TX3 1).2.2.1 "ChannelSpacer") := ⟨List.mem_of_getElem? (i := 144) (by decide +kernel), rfl⟩
theorem gf_X5_154 {p : Nat} {fs : List Value} {z : Int32} (v : Int32) (ht : twl[p]? = some (.inr (3, fs))) (hz : fs[1]? = some (.int z)) (hv : mi p 1 = v) (hd : decode cc pc = .ok (.getfield 154, 3))
    (kk : E l RX5 cc nL ret ini hh R w0 Tg k n (pc + 3) lv (.int v :: st) (wl mi ml)) : E l RX5 cc nL ret ini hh R w0 Tg k n pc lv (.ref p :: st) (wl mi ml) :=
  E_getN (ref := RX3) (T := TX3) (N := 2) rfl uX3 (by decide) fl_X5_154 rfl (wl_atO ht) (v := .int v) (by simp [List.getElem?_mapIdx, hz, cellV, hv]) hd kk
theorem pf_X5_154 {p : Nat} {fs : List Value} {z v : Int32} (ht : twl[p]? = some (.inr (3, fs))) (hz : fs[1]? = some (.int z)) (hd : decode cc pc = .ok (.putfield 154, 3))
    (kk : E l RX5 cc nL ret ini hh R w0 Tg k n (pc + 3) lv st (wl (u2 mi p 1 v) ml)) : E l RX5 cc nL ret ini hh R w0 Tg k n pc lv (.int v :: .ref p :: st) (wl mi ml) :=
  E_putN (ref := RX3) (T := TX3) (N := 2) (ty := .int) tyX3 tyX3_ok nmX3 rfl uX3 (by decide) fl_X5_154 rfl rfl (by decide +kernel) (fun _ => rfl) (fun _ => rfl) (wl_atO ht) (by rw [List.length_mapIdx]; exact (List.getElem?_eq_some_iff.mp hz).1) hd (by rw [wl_puti ht hz]; exact kk)
theorem fl_X5_266 : Wd (.fieldLinkNest RX5 266 RX4 (TX4 1).2.1 (TX4 1).2.2.1 "ChannelSpacer") := ⟨List.mem_of_getElem? (i := 197) (by decide +kernel), rfl⟩
theorem gf_X5_266 {p : Nat} {fs : List Value} {z : Int32} (v : Int32) (ht : twl[p]? = some (.inr (4, fs))) (hz : fs[1]? = some (.int z)) (hv : mi p 1 = v) (hd : decode cc pc = .ok (.getfield 266, 3))
    (kk : E l RX5 cc nL ret ini hh R w0 Tg k n (pc + 3) lv (.int v :: st) (wl mi ml)) : E l RX5 cc nL ret ini hh R w0 Tg k n pc lv (.ref p :: st) (wl mi ml) :=
  E_getN (ref := RX4) (T := TX4) (N := 5) rfl uX4 (by decide) fl_X5_266 rfl (wl_atO ht) (v := .int v) (by simp [List.getElem?_mapIdx, hz, cellV, hv]) hd kk
theorem pf_X5_266 {p : Nat} {fs : List Value} {z v : Int32} (ht : twl[p]? = some (.inr (4, fs))) (hz : fs[1]? = some (.int z)) (hd : decode cc pc = .ok (.putfield 266, 3))
    (kk : E l RX5 cc nL ret ini hh R w0 Tg k n (pc + 3) lv st (wl (u2 mi p 1 v) ml)) : E l RX5 cc nL ret ini hh R w0 Tg k n pc lv (.int v :: .ref p :: st) (wl mi ml) :=
  E_putN (ref := RX4) (T := TX4) (N := 5) (ty := .int) tyX4 tyX4_ok nmX4 rfl uX4 (by decide) fl_X5_266 rfl rfl (by decide +kernel) (fun _ => rfl) (fun _ => rfl) (wl_atO ht) (by rw [List.length_mapIdx]; exact (List.getElem?_eq_some_iff.mp hz).1) hd (by rw [wl_puti ht hz]; exact kk)
theorem fl_X5_284 : Wd (.fieldLinkNest RX5 284 RX2 (TX2 2).2.1 (TX2 2).2.2.1 "ChannelSpacer") := ⟨List.mem_of_getElem? (i := 128) (by decide +kernel), rfl⟩
theorem gf_X5_284 {p : Nat} {fs : List Value} {z : Int32} (v : Int32) (ht : twl[p]? = some (.inr (2, fs))) (hz : fs[2]? = some (.int z)) (hv : mi p 2 = v) (hd : decode cc pc = .ok (.getfield 284, 3))
    (kk : E l RX5 cc nL ret ini hh R w0 Tg k n (pc + 3) lv (.int v :: st) (wl mi ml)) : E l RX5 cc nL ret ini hh R w0 Tg k n pc lv (.ref p :: st) (wl mi ml) :=
  E_getN (ref := RX2) (T := TX2) (N := 3) rfl uX2 (by decide) fl_X5_284 rfl (wl_atO ht) (v := .int v) (by simp [List.getElem?_mapIdx, hz, cellV, hv]) hd kk
theorem pf_X5_284 {p : Nat} {fs : List Value} {z v : Int32} (ht : twl[p]? = some (.inr (2, fs))) (hz : fs[2]? = some (.int z)) (hd : decode cc pc = .ok (.putfield 284, 3))
    (kk : E l RX5 cc nL ret ini hh R w0 Tg k n (pc + 3) lv st (wl (u2 mi p 2 v) ml)) : E l RX5 cc nL ret ini hh R w0 Tg k n pc lv (.int v :: .ref p :: st) (wl mi ml) :=
  E_putN (ref := RX2) (T := TX2) (N := 3) (ty := .int) tyX2 tyX2_ok nmX2 rfl uX2 (by decide) fl_X5_284 rfl rfl (by decide +kernel) (fun _ => rfl) (fun _ => rfl) (wl_atO ht) (by rw [List.length_mapIdx]; exact (List.getElem?_eq_some_iff.mp hz).1) hd (by rw [wl_puti ht hz]; exact kk)
theorem fl_X5_345 : Wd (.fieldLinkNest RX5 345 RX0 (TX0 9).2.1 (TX0 9).2.2.1 "ChannelSpacer") := ⟨List.mem_of_getElem? (i := 166) (by decide +kernel), rfl⟩
theorem gf_X5_345 {p : Nat} {fs : List Value} {z : Int32} (v : Int32) (ht : twl[p]? = some (.inr (0, fs))) (hz : fs[9]? = some (.int z)) (hv : mi p 9 = v) (hd : decode cc pc = .ok (.getfield 345, 3))
    (kk : E l RX5 cc nL ret ini hh R w0 Tg k n (pc + 3) lv (.int v :: st) (wl mi ml)) : E l RX5 cc nL ret ini hh R w0 Tg k n pc lv (.ref p :: st) (wl mi ml) :=
  E_getN (ref := RX0) (T := TX0) (N := 10) rfl uX0 (by decide) fl_X5_345 rfl (wl_atO ht) (v := .int v) (by simp [List.getElem?_mapIdx, hz, cellV, hv]) hd kk
theorem pf_X5_345 {p : Nat} {fs : List Value} {z v : Int32} (ht : twl[p]? = some (.inr (0, fs))) (hz : fs[9]? = some (.int z)) (hd : decode cc pc = .ok (.putfield 345, 3))
    (kk : E l RX5 cc nL ret ini hh R w0 Tg k n (pc + 3) lv st (wl (u2 mi p 9 v) ml)) : E l RX5 cc nL ret ini hh R w0 Tg k n pc lv (.int v :: .ref p :: st) (wl mi ml) :=
  E_putN (ref := RX0) (T := TX0) (N := 10) (ty := .int) tyX0 tyX0_ok nmX0 rfl uX0 (by decide) fl_X5_345 rfl rfl (by decide +kernel) (fun _ => rfl) (fun _ => rfl) (wl_atO ht) (by rw [List.length_mapIdx]; exact (List.getElem?_eq_some_iff.mp hz).1) hd (by rw [wl_puti ht hz]; exact kk)
theorem fl_X0_11 : Wd (.fieldLink RX0 11 RX0 (TX0 0).2.1 (TX0 0).2.2.1) := ⟨List.mem_of_getElem? (i := 156) (by decide +kernel), rfl⟩
theorem gf_X0_11 {p q : Nat} {fs : List Value} (ht : twl[p]? = some (.inr (0, fs))) (hz : fs[0]? = some (.ref q)) (hd : decode cc pc = .ok (.getfield 11, 3))
    (kk : E l RX0 cc nL ret ini hh R w0 Tg k n (pc + 3) lv (.ref q :: st) (wl mi ml)) : E l RX0 cc nL ret ini hh R w0 Tg k n pc lv (.ref p :: st) (wl mi ml) :=
  E_get (ref := RX0) (T := TX0) (N := 10) rfl uX0 (by decide) fl_X0_11 rfl (wl_atO ht) (v := .ref q) (by simp [List.getElem?_mapIdx, hz, cellV]) hd kk
theorem fl_X0_15 : Wd (.fieldLink RX0 15 RX0 (TX0 1).2.1 (TX0 1).2.2.1) := ⟨List.mem_of_getElem? (i := 157) (by decide +kernel), rfl⟩
theorem gf_X0_15 {p q : Nat} {fs : List Value} (ht : twl[p]? = some (.inr (0, fs))) (hz : fs[1]? = some (.ref q)) (hd : decode cc pc = .ok (.getfield 15, 3))
    (kk : E l RX0 cc nL ret ini hh R w0 Tg k n (pc + 3) lv (.ref q :: st) (wl mi ml)) : E l RX0 cc nL ret ini hh R w0 Tg k n pc lv (.ref p :: st) (wl mi ml) :=
  E_get (ref := RX0) (T := TX0) (N := 10) rfl uX0 (by decide) fl_X0_15 rfl (wl_atO ht) (v := .ref q) (by simp [List.getElem?_mapIdx, hz, cellV]) hd kk
theorem fl_X0_18 : Wd (.fieldLink RX0 18 RX0 (TX0 2).2.1 (TX0 2).2.2.1) := ⟨List.mem_of_getElem? (i := 158) (by decide +kernel), rfl⟩
theorem gf_X0_18 {p q : Nat} {fs : List Value} (ht : twl[p]? = some (.inr (0, fs))) (hz : fs[2]? = some (.ref q)) (hd : decode cc pc = .ok (.getfield 18, 3))
    (kk : E l RX0 cc nL ret ini hh R w0 Tg k n (pc + 3) lv (.ref q :: st) (wl mi ml)) : E l RX0 cc nL ret ini hh R w0 Tg k n pc lv (.ref p :: st) (wl mi ml) :=
  E_get (ref := RX0) (T := TX0) (N := 10) rfl uX0 (by decide) fl_X0_18 rfl (wl_atO ht) (v := .ref q) (by simp [List.getElem?_mapIdx, hz, cellV]) hd kk
theorem fl_X0_22 : Wd (.fieldLink RX0 22 RX0 (TX0 3).2.1 (TX0 3).2.2.1) := ⟨List.mem_of_getElem? (i := 159) (by decide +kernel), rfl⟩
theorem gf_X0_22 {p q : Nat} {fs : List Value} (ht : twl[p]? = some (.inr (0, fs))) (hz : fs[3]? = some (.ref q)) (hd : decode cc pc = .ok (.getfield 22, 3))
    (kk : E l RX0 cc nL ret ini hh R w0 Tg k n (pc + 3) lv (.ref q :: st) (wl mi ml)) : E l RX0 cc nL ret ini hh R w0 Tg k n pc lv (.ref p :: st) (wl mi ml) :=
  E_get (ref := RX0) (T := TX0) (N := 10) rfl uX0 (by decide) fl_X0_22 rfl (wl_atO ht) (v := .ref q) (by simp [List.getElem?_mapIdx, hz, cellV]) hd kk
theorem fl_X0_25 : Wd (.fieldLink RX0 25 RX0 (TX0 4).2.1 (TX0 4).2.2.1) := ⟨List.mem_of_getElem? (i := 160) (by decide +kernel), rfl⟩
theorem gf_X0_25 {p : Nat} {fs : List Value} {z : Int32} (v : Int32) (ht : twl[p]? = some (.inr (0, fs))) (hz : fs[4]? = some (.int z)) (hv : mi p 4 = v) (hd : decode cc pc = .ok (.getfield 25, 3))
    (kk : E l RX0 cc nL ret ini hh R w0 Tg k n (pc + 3) lv (.int v :: st) (wl mi ml)) : E l RX0 cc nL ret ini hh R w0 Tg k n pc lv (.ref p :: st) (wl mi ml) :=
  E_get (ref := RX0) (T := TX0) (N := 10) rfl uX0 (by decide) fl_X0_25 rfl (wl_atO ht) (v := .int v) (by simp [List.getElem?_mapIdx, hz, cellV, hv]) hd kk
theorem pf_X0_25 {p : Nat} {fs : List Value} {z v : Int32} (ht : twl[p]? = some (.inr (0, fs))) (hz : fs[4]? = some (.int z)) (hd : decode cc pc = .ok (.putfield 25, 3))
    (kk : E l RX0 cc nL ret ini hh R w0 Tg k n (pc + 3) lv st (wl (u2 mi p 4 v) ml)) : E l RX0 cc nL ret ini hh R w0 Tg k n pc lv (.int v :: .ref p :: st) (wl mi ml) :=
  E_put (ref := RX0) (T := TX0) (N := 10) (ty := .int) tyX0 tyX0_ok nmX0 rfl uX0 (by decide) fl_X0_25 rfl rfl (by decide +kernel) (fun _ => rfl) (fun _ => rfl) (wl_atO ht) (by rw [List.length_mapIdx]; exact (List.getElem?_eq_some_iff.mp hz).1) hd (by rw [wl_puti ht hz]; exact kk)
theorem fl_X0_29 : Wd (.fieldLinkNest RX0 29 RX1 (TX1 0).2.1 (TX1 0).2.2.1 "ChannelSpacer") := ⟨List.mem_of_getElem? (i := 54) (by decide +kernel), rfl⟩
theorem gf_X0_29 {p : Nat} {fs : List Value} {z : Int32} (v : Int32) (ht : twl[p]? = some (.inr (1, fs))) (hz : fs[0]? = some (.int z)) (hv : mi p 0 = v) (hd : decode cc pc = .ok (.getfield 29, 3))
    (kk : E l RX0 cc nL ret ini hh R w0 Tg k n (pc + 3) lv (.int v :: st) (wl mi ml)) : E l RX0 cc nL ret ini hh R w0 Tg k n pc lv (.ref p :: st) (wl mi ml) :=
  E_getN (ref := RX1) (T := TX1) (N := 15) rfl uX1 (by decide) fl_X0_29 rfl (wl_atO ht) (v := .int v) (by simp [List.getElem?_mapIdx, hz, cellV, hv]) hd kk
theorem pf_X0_29 {p : Nat} {fs : List Value} {z v : Int32} (ht : twl[p]? = some (.inr (1, fs))) (hz : fs[0]? = some (.int z)) (hd : decode cc pc = .ok (.putfield 29, 3))
    (kk : E l RX0 cc nL ret ini hh R w0 Tg k n (pc + 3) lv st (wl (u2 mi p 0 v) ml)) : E l RX0 cc nL ret ini hh R w0 Tg k n pc lv (.int v :: .ref p :: st) (wl mi ml) :=
  E_putN (ref := RX1) (T := TX1) (N := 15) (ty := .int) tyX1 tyX1_ok nmX1 rfl uX1 (by decide) fl_X0_29 rfl rfl (by decide +kernel) (fun _ => rfl) (fun _ => rfl) (wl_atO ht) (by rw [List.length_mapIdx]; exact (List.getElem?_eq_some_iff.mp hz).1) hd (by rw [wl_puti ht hz]; exact kk)
theorem fl_X0_34 : Wd (.fieldLink RX0 34 RX0 (TX0 5).2.1 (TX0 5).2.2.1) := ⟨List.mem_of_getElem? (i := 161) (by decide +kernel), rfl⟩
theorem gf_X0_34 {p : Nat} {fs : List Value} {z : Int32} (v : Int32) (ht : twl[p]? = some (.inr (0, fs))) (hz : fs[5]? = some (.int z)) (hv : mi p 5 = v) (hd : decode cc pc = .ok (.getfield 34, 3))
    (kk : E l RX0 cc nL ret ini hh R w0 Tg k n (pc + 3) lv (.int v :: st) (wl mi ml)) : E l RX0 cc nL ret ini hh R w0 Tg k n pc lv (.ref p :: st) (wl mi ml) :=
  E_get (ref := RX0) (T := TX0) (N := 10) rfl uX0 (by decide) fl_X0_34 rfl (wl_atO ht) (v := .int v) (by simp [List.getElem?_mapIdx, hz, cellV, hv]) hd kk
theorem pf_X0_34 {p : Nat} {fs : List Value} {z v : Int32} (ht : twl[p]? = some (.inr (0, fs))) (hz : fs[5]? = some (.int z)) (hd : decode cc pc = .ok (.putfield 34, 3))
    (kk : E l RX0 cc nL ret ini hh R w0 Tg k n (pc + 3) lv st (wl (u2 mi p 5 v) ml)) : E l RX0 cc nL ret ini hh R w0 Tg k n pc lv (.int v :: .ref p :: st) (wl mi ml) :=
  E_put (ref := RX0) (T := TX0) (N := 10) (ty := .int) tyX0 tyX0_ok nmX0 rfl uX0 (by decide) fl_X0_34 rfl rfl (by decide +kernel) (fun _ => rfl) (fun _ => rfl) (wl_atO ht) (by rw [List.length_mapIdx]; exact (List.getElem?_eq_some_iff.mp hz).1) hd (by rw [wl_puti ht hz]; exact kk)
theorem fl_X0_35 : Wd (.fieldLinkNest RX0 35 RX1 (TX1 1).2.1 (TX1 1).2.2.1 "ChannelSpacer") := ⟨List.mem_of_getElem? (i := 57) (by decide +kernel), rfl⟩
theorem gf_X0_35 {p : Nat} {fs : List Value} {z : Int32} (v : Int32) (ht : twl[p]? = some (.inr (1, fs))) (hz : fs[1]? = some (.int z)) (hv : mi p 1 = v) (hd : decode cc pc = .ok (.getfield 35, 3))
    (kk : E l RX0 cc nL ret ini hh R w0 Tg k n (pc + 3) lv (.int v :: st) (wl mi ml)) : E l RX0 cc nL ret ini hh R w0 Tg k n pc lv (.ref p :: st) (wl mi ml) :=
  E_getN (ref := RX1) (T := TX1) (N := 15) rfl uX1 (by decide) fl_X0_35 rfl (wl_atO ht) (v := .int v) (by simp [List.getElem?_mapIdx, hz, cellV, hv]) hd kk
theorem pf_X0_35 {p : Nat} {fs : List Value} {z v : Int32} (ht : twl[p]? = some (.inr (1, fs))) (hz : fs[1]? = some (.int z)) (hd : decode cc pc = .ok (.putfield 35, 3))
    (kk : E l RX0 cc nL ret ini hh R w0 Tg k n (pc + 3) lv st (wl (u2 mi p 1 v) ml)) : E l RX0 cc nL ret ini hh R w0 Tg k n pc lv (.int v :: .ref p :: st) (wl mi ml) :=
  E_putN (ref := RX1) (T := TX1) (N := 15) (ty := .int) tyX1 tyX1_ok nmX1 rfl uX1 (by decide) fl_X0_35 rfl rfl (by decide +kernel) (fun _ => rfl) (fun _ => rfl) (wl_atO ht) (by rw [List.length_mapIdx]; exact (List.getElem?_eq_some_iff.mp hz).1) hd (by rw [wl_puti ht hz]; exact kk)
theorem fl_X0_38 : Wd (.fieldLink RX0 38 RX0 (TX0 6).2.1 (TX0 6).2.2.1) := ⟨List.mem_of_getElem? (i := 162) (by decide +kernel), rfl⟩
theorem gf_X0_38 {p : Nat} {fs : List Value} {z : Int32} (v : Int32) (ht : twl[p]? = some (.inr (0, fs))) (hz : fs[6]? = some (.int z)) (hv : mi p 6 = v) (hd : decode cc pc = .ok (.getfield 38, 3))
    (kk : E l RX0 cc nL ret ini hh R w0 Tg k n (pc + 3) lv (.int v :: st) (wl mi ml)) : E l RX0 cc nL ret ini hh R w0 Tg k n pc lv (.ref p :: st) (wl mi ml) :=
  E_get (ref := RX0) (T := TX0) (N := 10) rfl uX0 (by decide) fl_X0_38 rfl (wl_atO ht) (v := .int v) (by simp [List.getElem?_mapIdx, hz, cellV, hv]) hd kk
theorem pf_X0_38 {p : Nat} {fs : List Value} {z v : Int32} (ht : twl[p]? = some (.inr (0, fs))) (hz : fs[6]? = some (.int z)) (hd : decode cc pc = .ok (.putfield 38, 3))
    (kk : E l RX0 cc nL ret ini hh R w0 Tg k n (pc + 3) lv st (wl (u2 mi p 6 v) ml)) : E l RX0 cc nL ret ini hh R w0 Tg k n pc lv (.int v :: .ref p :: st) (wl mi ml) :=
  E_put (ref := RX0) (T := TX0) (N := 10) (ty := .int) tyX0 tyX0_ok nmX0 rfl uX0 (by decide) fl_X0_38 rfl rfl (by decide +kernel) (fun _ => rfl) (fun _ => rfl) (wl_atO ht) (by rw [List.length_mapIdx]; exact (List.getElem?_eq_some_iff.mp hz).1) hd (by rw [wl_puti ht hz]; exact kk)
theorem fl_X0_39 : Wd (.fieldLinkNest RX0 39 RX1 (TX1 2).2.1 (TX1 2).2.2.1 "ChannelSpacer") := ⟨List.mem_of_getElem? (i := 61) (by decide +kernel), rfl⟩
theorem gf_X0_39 {p : Nat} {fs : List Value} {z : Int32} (v : Int32) (ht : twl[p]? = some (.inr (1, fs))) (hz : fs[2]? = some (.int z)) (hv : mi p 2 = v) (hd : decode cc pc = .ok (.getfield 39, 3))
    (kk : E l RX0 cc nL ret ini hh R w0 Tg k n (pc + 3) lv (.int v :: st) (wl mi ml)) : E l RX0 cc nL ret ini hh R w0 Tg k n pc lv (.ref p :: st) (wl mi ml) :=
  E_getN (ref := RX1) (T := TX1) (N := 15) rfl uX1 (by decide) fl_X0_39 rfl (wl_atO ht) (v := .int v) (by simp [List.getElem?_mapIdx, hz, cellV, hv]) hd kk
theorem pf_X0_39 {p : Nat} {fs : List Value} {z v : Int32} (ht : twl[p]? = some (.inr (1, fs))) (hz : fs[2]? = some (.int z)) (hd : decode cc pc = .ok (.putfield 39, 3))
    (kk : E l RX0 cc nL ret ini hh R w0 Tg k n (pc + 3) lv st (wl (u2 mi p 2 v) ml)) : E l RX0 cc nL ret ini hh R w0 Tg k n pc lv (.int v :: .ref p :: st) (wl mi ml) :=
  E_putN (ref := RX1) (T := TX1) (N := 15) (ty := .int) tyX1 tyX1_ok nmX1 rfl uX1 (by decide) fl_X0_39 rfl rfl (by decide +kernel) (fun _ => rfl) (fun _ => rfl) (wl_atO ht) (by rw [List.length_mapIdx]; exact (List.getElem?_eq_some_iff.mp hz).1) hd (by rw [wl_puti ht hz]; exact kk)
theorem fl_X0_42 : Wd (.fieldLink RX0 42 RX0 (TX0 7).2.1 (TX0 7).2.2.1) := ⟨List.mem_of_getElem? (i := 163) (by decide +kernel), rfl⟩
theorem gf_X0_42 {p : Nat} {fs : List Value} {z : Int32} (v : Int32) (ht : twl[p]? = some (.inr (0, fs))) (hz : fs[7]? = some (.int z)) (hv : mi p 7 = v) (hd : decode cc pc = .ok (.getfield 42, 3))
    (kk : E l RX0 cc nL ret ini hh R w0 Tg k n (pc + 3) lv (.int v :: st) (wl mi ml)) : E l RX0 cc nL ret ini hh R w0 Tg k n pc lv (.ref p :: st) (wl mi ml) :=
  E_get (ref := RX0) (T := TX0) (N := 10) rfl uX0 (by decide) fl_X0_42 rfl (wl_atO ht) (v := .int v) (by simp [List.getElem?_mapIdx, hz, cellV, hv]) hd kk
theorem pf_X0_42 {p : Nat} {fs : List Value} {z v : Int32} (ht : twl[p]? = some (.inr (0, fs))) (hz : fs[7]? = some (.int z)) (hd : decode cc pc = .ok (.putfield 42, 3))
    (kk : E l RX0 cc nL ret ini hh R w0 Tg k n (pc + 3) lv st (wl (u2 mi p 7 v) ml)) : E l RX0 cc nL ret ini hh R w0 Tg k n pc lv (.int v :: .ref p :: st) (wl mi ml) :=
  E_put (ref := RX0) (T := TX0) (N := 10) (ty := .int) tyX0 tyX0_ok nmX0 rfl uX0 (by decide) fl_X0_42 rfl rfl (by decide +kernel) (fun _ => rfl) (fun _ => rfl) (wl_atO ht) (by rw [List.length_mapIdx]; exact (List.getElem?_eq_some_iff.mp hz).1) hd (by rw [wl_puti ht hz]; exact kk)
theorem fl_X0_43 : Wd (.fieldLinkNest RX0 43 RX1 (TX1 3).2.1 (TX1 3).2.2.1 "ChannelSpacer") := ⟨List.mem_of_getElem? (i := 65) (by decide +kernel), rfl⟩
theorem gf_X0_43 {p : Nat} {fs : List Value} {z : Int32} (v : Int32) (ht : twl[p]? = some (.inr (1, fs))) (hz : fs[3]? = some (.int z)) (hv : mi p 3 = v) (hd : decode cc pc = .ok (.getfield 43, 3))
    (kk : E l RX0 cc nL ret ini hh R w0 Tg k n (pc + 3) lv (.int v :: st) (wl mi ml)) : E l RX0 cc nL ret ini hh R w0 Tg k n pc lv (.ref p :: st) (wl mi ml) :=
  E_getN (ref := RX1) (T := TX1) (N := 15) rfl uX1 (by decide) fl_X0_43 rfl (wl_atO ht) (v := .int v) (by simp [List.getElem?_mapIdx, hz, cellV, hv]) hd kk
theorem pf_X0_43 {p : Nat} {fs : List Value} {z v : Int32} (ht : twl[p]? = some (.inr (1, fs))) (hz : fs[3]? = some (.int z)) (hd : decode cc pc = .ok (.putfield 43, 3))
    (kk : E l RX0 cc nL ret ini hh R w0 Tg k n (pc + 3) lv st (wl (u2 mi p 3 v) ml)) : E l RX0 cc nL ret ini hh R w0 Tg k n pc lv (.int v :: .ref p :: st) (wl mi ml) :=
  E_putN (ref := RX1) (T := TX1) (N := 15) (ty := .int) tyX1 tyX1_ok nmX1 rfl uX1 (by decide) fl_X0_43 rfl rfl (by decide +kernel) (fun _ => rfl) (fun _ => rfl) (wl_atO ht) (by rw [List.length_mapIdx]; exact (List.getElem?_eq_some_iff.mp hz).1) hd (by rw [wl_puti ht hz]; exact kk)
theorem fl_X0_46 : Wd (.fieldLink RX0 46 RX0 (TX0 8).2.1 (TX0 8).2.2.1) := ⟨List.mem_of_getElem? (i := 164) (by decide +kernel), rfl⟩
theorem gf_X0_46 {p : Nat} {fs : List Value} {z : Int32} (v : Int32) (ht : twl[p]? = some (.inr (0, fs))) (hz : fs[8]? = some (.int z)) (hv : mi p 8 = v) (hd : decode cc pc = .ok (.getfield 46, 3))
    (kk : E l RX0 cc nL ret ini hh R w0 Tg k n (pc + 3) lv (.int v :: st) (wl mi ml)) : E l RX0 cc nL ret ini hh R w0 Tg k n pc lv (.ref p :: st) (wl mi ml) :=
  E_get (ref := RX0) (T := TX0) (N := 10) rfl uX0 (by decide) fl_X0_46 rfl (wl_atO ht) (v := .int v) (by simp [List.getElem?_mapIdx, hz, cellV, hv]) hd kk
theorem pf_X0_46 {p : Nat} {fs : List Value} {z v : Int32} (ht : twl[p]? = some (.inr (0, fs))) (hz : fs[8]? = some (.int z)) (hd : decode cc pc = .ok (.putfield 46, 3))
    (kk : E l RX0 cc nL ret ini hh R w0 Tg k n (pc + 3) lv st (wl (u2 mi p 8 v) ml)) : E l RX0 cc nL ret ini hh R w0 Tg k n pc lv (.int v :: .ref p :: st) (wl mi ml) :=
  E_put (ref := RX0) (T := TX0) (N := 10) (ty := .int) tyX0 tyX0_ok nmX0 rfl uX0 (by decide) fl_X0_46 rfl rfl (by decide +kernel) (fun _ => rfl) (fun _ => rfl) (wl_atO ht) (by rw [List.length_mapIdx]; exact (List.getElem?_eq_some_iff.mp hz).1) hd (by rw [wl_puti ht hz]; exact kk)
theorem fl_X0_47 : Wd (.fieldLinkNest RX0 47 RX1 (TX1 4).2.1 (TX1 4).2.2.1 "ChannelSpacer") := ⟨List.mem_of_getElem? (i := 68) (by decide +kernel), rfl⟩
theorem gf_X0_47 {p : Nat} {fs : List Value} {z : Int32} (v : Int32) (ht : twl[p]? = some (.inr (1, fs))) (hz : fs[4]? = some (.int z)) (hv : mi p 4 = v) (hd : decode cc pc = .ok (.getfield 47, 3))
    (kk : E l RX0 cc nL ret ini hh R w0 Tg k n (pc + 3) lv (.int v :: st) (wl mi ml)) : E l RX0 cc nL ret ini hh R w0 Tg k n pc lv (.ref p :: st) (wl mi ml) :=
  E_getN (ref := RX1) (T := TX1) (N := 15) rfl uX1 (by decide) fl_X0_47 rfl (wl_atO ht) (v := .int v) (by simp [List.getElem?_mapIdx, hz, cellV, hv]) hd kk
theorem pf_X0_47 {p : Nat} {fs : List Value} {z v : Int32} (ht : twl[p]? = some (.inr (1, fs))) (hz : fs[4]? = some (.int z)) (hd : decode cc pc = .ok (.putfield 47, 3))
    (kk : E l RX0 cc nL ret ini hh R w0 Tg k n (pc + 3) lv st (wl (u2 mi p 4 v) ml)) : E l RX0 cc nL ret ini hh R w0 Tg k n pc lv (.int v :: .ref p :: st) (wl mi ml) :=
  E_putN (ref := RX1) (T := TX1) (N := 15) (ty := .int) tyX1 tyX1_ok nmX1 rfl uX1 (by decide) fl_X0_47 rfl rfl (by decide +kernel) (fun _ => rfl) (fun _ => rfl) (wl_atO ht) (by rw [List.length_mapIdx]; exact (List.getElem?_eq_some_iff.mp hz).1) hd (by rw [wl_puti ht hz]; exact kk)
theorem fl_X0_50 : Wd (.fieldLink RX0 50 RX0 (TX0 9).2.1 (TX0 9).2.2.1) := ⟨List.mem_of_getElem? (i := 165) (by decide +kernel), rfl⟩
theorem gf_X0_50 {p : Nat} {fs : List Value} {z : Int32} (v : Int32) (ht : twl[p]? = some (.inr (0, fs))) (hz : fs[9]? = some (.int z)) (hv : mi p 9 = v) (hd : decode cc pc = .ok (.getfield 50, 3))
    (kk : E l RX0 cc nL ret ini hh R w0 Tg k n (pc + 3) lv (.int v :: st) (wl mi ml)) : E l RX0 cc nL ret ini hh R w0 Tg k n pc lv (.ref p :: st) (wl mi ml) :=
  E_get (ref := RX0) (T := TX0) (N := 10) rfl uX0 (by decide) fl_X0_50 rfl (wl_atO ht) (v := .int v) (by simp [List.getElem?_mapIdx, hz, cellV, hv]) hd kk
theorem pf_X0_50 {p : Nat} {fs : List Value} {z v : Int32} (ht : twl[p]? = some (.inr (0, fs))) (hz : fs[9]? = some (.int z)) (hd : decode cc pc = .ok (.putfield 50, 3))
    (kk : E l RX0 cc nL ret ini hh R w0 Tg k n (pc + 3) lv st (wl (u2 mi p 9 v) ml)) : E l RX0 cc nL ret ini hh R w0 Tg k n pc lv (.int v :: .ref p :: st) (wl mi ml) :=
  E_put (ref := RX0) (T := TX0) (N := 10) (ty := .int) tyX0 tyX0_ok nmX0 rfl uX0 (by decide) fl_X0_50 rfl rfl (by decide +kernel) (fun _ => rfl) (fun _ => rfl) (wl_atO ht) (by rw [List.length_mapIdx]; exact (List.getElem?_eq_some_iff.mp hz).1) hd (by rw [wl_puti ht hz]; exact kk)
theorem fl_X1_9 : Wd (.fieldLink RX1 9 RX1 (TX1 0).2.1 (TX1 0).2.2.1) := ⟨List.mem_of_getElem? (i := 52) (by decide +kernel), rfl⟩
theorem gf_X1_9 {p : Nat} {fs : List Value} {z : Int32} (v : Int32) (ht : twl[p]? = some (.inr (1, fs))) (hz : fs[0]? = some (.int z)) (hv : mi p 0 = v) (hd : decode cc pc = .ok (.getfield 9, 3))
    (kk : E l RX1 cc nL ret ini hh R w0 Tg k n (pc + 3) lv (.int v :: st) (wl mi ml)) : E l RX1 cc nL ret ini hh R w0 Tg k n pc lv (.ref p :: st) (wl mi ml) :=
  E_get (ref := RX1) (T := TX1) (N := 15) rfl uX1 (by decide) fl_X1_9 rfl (wl_atO ht) (v := .int v) (by simp [List.getElem?_mapIdx, hz, cellV, hv]) hd kk
theorem pf_X1_9 {p : Nat} {fs : List Value} {z v : Int32} (ht : twl[p]? = some (.inr (1, fs))) (hz : fs[0]? = some (.int z)) (hd : decode cc pc = .ok (.putfield 9, 3))
    (kk : E l RX1 cc nL ret ini hh R w0 Tg k n (pc + 3) lv st (wl (u2 mi p 0 v) ml)) : E l RX1 cc nL ret ini hh R w0 Tg k n pc lv (.int v :: .ref p :: st) (wl mi ml) :=
  E_put (ref := RX1) (T := TX1) (N := 15) (ty := .int) tyX1 tyX1_ok nmX1 rfl uX1 (by decide) fl_X1_9 rfl rfl (by decide +kernel) (fun _ => rfl) (fun _ => rfl) (wl_atO ht) (by rw [List.length_mapIdx]; exact (List.getElem?_eq_some_iff.mp hz).1) hd (by rw [wl_puti ht hz]; exact kk)
theorem fl_X1_15 : Wd (.fieldLink RX1 15 RX1 (TX1 1).2.1 (TX1 1).2.2.1) := ⟨List.mem_of_getElem? (i := 56) (by decide +kernel), rfl⟩
theorem gf_X1_15 {p : Nat} {fs : List Value} {z : Int32} (v : Int32) (ht : twl[p]? = some (.inr (1, fs))) (hz : fs[1]? = some (.int z)) (hv : mi p 1 = v) (hd : decode cc pc = .ok (.getfield 15, 3))
    (kk : E l RX1 cc nL ret ini hh R w0 Tg k n (pc + 3) lv (.int v :: st) (wl mi ml)) : E l RX1 cc nL ret ini hh R w0 Tg k n pc lv (.ref p :: st) (wl mi ml) :=
  E_get (ref := RX1) (T := TX1) (N := 15) rfl uX1 (by decide) fl_X1_15 rfl (wl_atO ht) (v := .int v) (by simp [List.getElem?_mapIdx, hz, cellV, hv]) hd kk
theorem pf_X1_15 {p : Nat} {fs : List Value} {z v : Int32} (ht : twl[p]? = some (.inr (1, fs))) (hz : fs[1]? = some (.int z)) (hd : decode cc pc = .ok (.putfield 15, 3))
    (kk : E l RX1 cc nL ret ini hh R w0 Tg k n (pc + 3) lv st (wl (u2 mi p 1 v) ml)) : E l RX1 cc nL ret ini hh R w0 Tg k n pc lv (.int v :: .ref p :: st) (wl mi ml) :=
  E_put (ref := RX1) (T := TX1) (N := 15) (ty := .int) tyX1 tyX1_ok nmX1 rfl uX1 (by decide) fl_X1_15 rfl rfl (by decide +kernel) (fun _ => rfl) (fun _ => rfl) (wl_atO ht) (by rw [List.length_mapIdx]; exact (List.getElem?_eq_some_iff.mp hz).1) hd (by rw [wl_puti ht hz]; exact kk)
theorem fl_X1_18 : Wd (.fieldLink RX1 18 RX1 (TX1 2).2.1 (TX1 2).2.2.1) := ⟨List.mem_of_getElem? (i := 60) (by decide +kernel), rfl⟩
theorem gf_X1_18 {p : Nat} {fs : List Value} {z : Int32} (v : Int32) (ht : twl[p]? = some (.inr (1, fs))) (hz : fs[2]? = some (.int z)) (hv : mi p 2 = v) (hd : decode cc pc = .ok (.getfield 18, 3))
    (kk : E l RX1 cc nL ret ini hh R w0 Tg k n (pc + 3) lv (.int v :: st) (wl mi ml)) : E l RX1 cc nL ret ini hh R w0 Tg k n pc lv (.ref p :: st) (wl mi ml) :=
  E_get (ref := RX1) (T := TX1) (N := 15) rfl uX1 (by decide) fl_X1_18 rfl (wl_atO ht) (v := .int v) (by simp [List.getElem?_mapIdx, hz, cellV, hv]) hd kk
theorem pf_X1_18 {p : Nat} {fs : List Value} {z v : Int32} (ht : twl[p]? = some (.inr (1, fs))) (hz : fs[2]? = some (.int z)) (hd : decode cc pc = .ok (.putfield 18, 3))
    (kk : E l RX1 cc nL ret ini hh R w0 Tg k n (pc + 3) lv st (wl (u2 mi p 2 v) ml)) : E l RX1 cc nL ret ini hh R w0 Tg k n pc lv (.int v :: .ref p :: st) (wl mi ml) :=
  E_put (ref := RX1) (T := TX1) (N := 15) (ty := .int) tyX1 tyX1_ok nmX1 rfl uX1 (by decide) fl_X1_18 rfl rfl (by decide +kernel) (fun _ => rfl) (fun _ => rfl) (wl_atO ht) (by rw [List.length_mapIdx]; exact (List.getElem?_eq_some_iff.mp hz).1) hd (by rw [wl_puti ht hz]; exact kk)
theorem fl_X1_21 : Wd (.fieldLink RX1 21 RX1 (TX1 3).2.1 (TX1 3).2.2.1) := ⟨List.mem_of_getElem? (i := 64) (by decide +kernel), rfl⟩
theorem gf_X1_21 {p : Nat} {fs : List Value} {z : Int32} (v : Int32) (ht : twl[p]? = some (.inr (1, fs))) (hz : fs[3]? = some (.int z)) (hv : mi p 3 = v) (hd : decode cc pc = .ok (.getfield 21, 3))
    (kk : E l RX1 cc nL ret ini hh R w0 Tg k n (pc + 3) lv (.int v :: st) (wl mi ml)) : E l RX1 cc nL ret ini hh R w0 Tg k n pc lv (.ref p :: st) (wl mi ml) :=
  E_get (ref := RX1) (T := TX1) (N := 15) rfl uX1 (by decide) fl_X1_21 rfl (wl_atO ht) (v := .int v) (by simp [List.getElem?_mapIdx, hz, cellV, hv]) hd kk
theorem pf_X1_21 {p : Nat} {fs : List Value} {z v : Int32} (ht : twl[p]? = some (.inr (1, fs))) (hz : fs[3]? = some (.int z)) (hd : decode cc pc = .ok (.putfield 21, 3))
    (kk : E l RX1 cc nL ret ini hh R w0 Tg k n (pc + 3) lv st (wl (u2 mi p 3 v) ml)) : E l RX1 cc nL ret ini hh R w0 Tg k n pc lv (.int v :: .ref p :: st) (wl mi ml) :=
  E_put (ref := RX1) (T := TX1) (N := 15) (ty := .int) tyX1 tyX1_ok nmX1 rfl uX1 (by decide) fl_X1_21 rfl rfl (by decide +kernel) (fun _ => rfl) (fun _ => rfl) (wl_atO ht) (by rw [List.length_mapIdx]; exact (List.getElem?_eq_some_iff.mp hz).1) hd (by rw [wl_puti ht hz]; exact kk)
theorem fl_X1_24 : Wd (.fieldLink RX1 24 RX1 (TX1 4).2.1 (TX1 4).2.2.1) := ⟨List.mem_of_getElem? (i := 67) (by decide +kernel), rfl⟩
theorem gf_X1_24 {p : Nat} {fs : List Value} {z : Int32} (v : Int32) (ht : twl[p]? = some (.inr (1, fs))) (hz : fs[4]? = some (.int z)) (hv : mi p 4 = v) (hd : decode cc pc = .ok (.getfield 24, 3))
    (kk : E l RX1 cc nL ret ini hh R w0 Tg k n (pc + 3) lv (.int v :: st) (wl mi ml)) : E l RX1 cc nL ret ini hh R w0 Tg k n pc lv (.ref p :: st) (wl mi ml) :=
  E_get (ref := RX1) (T := TX1) (N := 15) rfl uX1 (by decide) fl_X1_24 rfl (wl_atO ht) (v := .int v) (by simp [List.getElem?_mapIdx, hz, cellV, hv]) hd kk
theorem pf_X1_24 {p : Nat} {fs : List Value} {z v : Int32} (ht : twl[p]? = some (.inr (1, fs))) (hz : fs[4]? = some (.int z)) (hd : decode cc pc = .ok (.putfield 24, 3))
    (kk : E l RX1 cc nL ret ini hh R w0 Tg k n (pc + 3) lv st (wl (u2 mi p 4 v) ml)) : E l RX1 cc nL ret ini hh R w0 Tg k n pc lv (.int v :: .ref p :: st) (wl mi ml) :=
  E_put (ref := RX1) (T := TX1) (N := 15) (ty := .int) tyX1 tyX1_ok nmX1 rfl uX1 (by decide) fl_X1_24 rfl rfl (by decide +kernel) (fun _ => rfl) (fun _ => rfl) (wl_atO ht) (by rw [List.length_mapIdx]; exact (List.getElem?_eq_some_iff.mp hz).1) hd (by rw [wl_puti ht hz]; exact kk)
theorem fl_X1_27 : Wd (.fieldLink RX1 27 RX1 (TX1 6).2.1 (TX1 6).2.2.1) := ⟨List.mem_of_getElem? (i := 73) (by decide +kernel), rfl⟩
theorem gf_X1_27 {p q : Nat} {fs : List Value} (ht : twl[p]? = some (.inr (1, fs))) (hz : fs[6]? = some (.ref q)) (hd : decode cc pc = .ok (.getfield 27, 3))
    (kk : E l RX1 cc nL ret ini hh R w0 Tg k n (pc + 3) lv (.ref q :: st) (wl mi ml)) : E l RX1 cc nL ret ini hh R w0 Tg k n pc lv (.ref p :: st) (wl mi ml) :=
  E_get (ref := RX1) (T := TX1) (N := 15) rfl uX1 (by decide) fl_X1_27 rfl (wl_atO ht) (v := .ref q) (by simp [List.getElem?_mapIdx, hz, cellV]) hd kk
theorem fl_X1_31 : Wd (.fieldLink RX1 31 RX1 (TX1 7).2.1 (TX1 7).2.2.1) := ⟨List.mem_of_getElem? (i := 74) (by decide +kernel), rfl⟩
theorem gf_X1_31 {p q : Nat} {fs : List Value} (ht : twl[p]? = some (.inr (1, fs))) (hz : fs[7]? = some (.ref q)) (hd : decode cc pc = .ok (.getfield 31, 3))
    (kk : E l RX1 cc nL ret ini hh R w0 Tg k n (pc + 3) lv (.ref q :: st) (wl mi ml)) : E l RX1 cc nL ret ini hh R w0 Tg k n pc lv (.ref p :: st) (wl mi ml) :=
  E_get (ref := RX1) (T := TX1) (N := 15) rfl uX1 (by decide) fl_X1_31 rfl (wl_atO ht) (v := .ref q) (by simp [List.getElem?_mapIdx, hz, cellV]) hd kk
theorem fl_X1_34 : Wd (.fieldLink RX1 34 RX1 (TX1 9).2.1 (TX1 9).2.2.1) := ⟨List.mem_of_getElem? (i := 77) (by decide +kernel), rfl⟩
theorem gf_X1_34 {p q : Nat} {fs : List Value} (ht : twl[p]? = some (.inr (1, fs))) (hz : fs[9]? = some (.ref q)) (hd : decode cc pc = .ok (.getfield 34, 3))
    (kk : E l RX1 cc nL ret ini hh R w0 Tg k n (pc + 3) lv (.ref q :: st) (wl mi ml)) : E l RX1 cc nL ret ini hh R w0 Tg k n pc lv (.ref p :: st) (wl mi ml) :=
  E_get (ref := RX1) (T := TX1) (N := 15) rfl uX1 (by decide) fl_X1_34 rfl (wl_atO ht) (v := .ref q) (by simp [List.getElem?_mapIdx, hz, cellV]) hd kk
theorem fl_X1_37 : Wd (.fieldLink RX1 37 RX1 (TX1 11).2.1 (TX1 11).2.2.1) := ⟨List.mem_of_getElem? (i := 80) (by decide +kernel), rfl⟩
theorem gf_X1_37 {p q : Nat} {fs : List Value} (ht : twl[p]? = some (.inr (1, fs))) (hz : fs[11]? = some (.ref q)) (hd : decode cc pc = .ok (.getfield 37, 3))
    (kk : E l RX1 cc nL ret ini hh R w0 Tg k n (pc + 3) lv (.ref q :: st) (wl mi ml)) : E l RX1 cc nL ret ini hh R w0 Tg k n pc lv (.ref p :: st) (wl mi ml) :=
  E_get (ref := RX1) (T := TX1) (N := 15) rfl uX1 (by decide) fl_X1_37 rfl (wl_atO ht) (v := .ref q) (by simp [List.getElem?_mapIdx, hz, cellV]) hd kk
theorem fl_X1_40 : Wd (.fieldLink RX1 40 RX1 (TX1 12).2.1 (TX1 12).2.2.1) := ⟨List.mem_of_getElem? (i := 81) (by decide +kernel), rfl⟩
theorem gf_X1_40 {p q : Nat} {fs : List Value} (ht : twl[p]? = some (.inr (1, fs))) (hz : fs[12]? = some (.ref q)) (hd : decode cc pc = .ok (.getfield 40, 3))
    (kk : E l RX1 cc nL ret ini hh R w0 Tg k n (pc + 3) lv (.ref q :: st) (wl mi ml)) : E l RX1 cc nL ret ini hh R w0 Tg k n pc lv (.ref p :: st) (wl mi ml) :=
  E_get (ref := RX1) (T := TX1) (N := 15) rfl uX1 (by decide) fl_X1_40 rfl (wl_atO ht) (v := .ref q) (by simp [List.getElem?_mapIdx, hz, cellV]) hd kk
theorem fl_X1_43 : Wd (.fieldLink RX1 43 RX1 (TX1 13).2.1 (TX1 13).2.2.1) := ⟨List.mem_of_getElem? (i := 82) (by decide +kernel), rfl⟩
theorem gf_X1_43 {p q : Nat} {fs : List Value} (ht : twl[p]? = some (.inr (1, fs))) (hz : fs[13]? = some (.ref q)) (hd : decode cc pc = .ok (.getfield 43, 3))
    (kk : E l RX1 cc nL ret ini hh R w0 Tg k n (pc + 3) lv (.ref q :: st) (wl mi ml)) : E l RX1 cc nL ret ini hh R w0 Tg k n pc lv (.ref p :: st) (wl mi ml) :=
  E_get (ref := RX1) (T := TX1) (N := 15) rfl uX1 (by decide) fl_X1_43 rfl (wl_atO ht) (v := .ref q) (by simp [List.getElem?_mapIdx, hz, cellV]) hd kk
theorem fl_X1_46 : Wd (.fieldLink RX1 46 RX1 (TX1 14).2.1 (TX1 14).2.2.1) := ⟨List.mem_of_getElem? (i := 83) (by decide +kernel), rfl⟩
theorem gf_X1_46 {p q : Nat} {fs : List Value} (ht : twl[p]? = some (.inr (1, fs))) (hz : fs[14]? = some (.ref q)) (hd : decode cc pc = .ok (.getfield 46, 3))
    (kk : E l RX1 cc nL ret ini hh R w0 Tg k n (pc + 3) lv (.ref q :: st) (wl mi ml)) : E l RX1 cc nL ret ini hh R w0 Tg k n pc lv (.ref p :: st) (wl mi ml) :=
  E_get (ref := RX1) (T := TX1) (N := 15) rfl uX1 (by decide) fl_X1_46 rfl (wl_atO ht) (v := .ref q) (by simp [List.getElem?_mapIdx, hz, cellV]) hd kk
theorem fl_X1_49 : Wd (.fieldLink RX1 49 RX1 (TX1 5).2.1 (TX1 5).2.2.1) := ⟨List.mem_of_getElem? (i := 70) (by decide +kernel), rfl⟩
theorem gf_X1_49 {p : Nat} {fs : List Value} {z : Int32} (v : Int32) (ht : twl[p]? = some (.inr (1, fs))) (hz : fs[5]? = some (.int z)) (hv : mi p 5 = v) (hd : decode cc pc = .ok (.getfield 49, 3))
    (kk : E l RX1 cc nL ret ini hh R w0 Tg k n (pc + 3) lv (.int v :: st) (wl mi ml)) : E l RX1 cc nL ret ini hh R w0 Tg k n pc lv (.ref p :: st) (wl mi ml) :=
  E_get (ref := RX1) (T := TX1) (N := 15) rfl uX1 (by decide) fl_X1_49 rfl (wl_atO ht) (v := .int v) (by simp [List.getElem?_mapIdx, hz, cellV, hv]) hd kk
theorem pf_X1_49 {p : Nat} {fs : List Value} {z v : Int32} (ht : twl[p]? = some (.inr (1, fs))) (hz : fs[5]? = some (.int z)) (hd : decode cc pc = .ok (.putfield 49, 3))
    (kk : E l RX1 cc nL ret ini hh R w0 Tg k n (pc + 3) lv st (wl (u2 mi p 5 v) ml)) : E l RX1 cc nL ret ini hh R w0 Tg k n pc lv (.int v :: .ref p :: st) (wl mi ml) :=
  E_put (ref := RX1) (T := TX1) (N := 15) (ty := .int) tyX1 tyX1_ok nmX1 rfl uX1 (by decide) fl_X1_49 rfl rfl (by decide +kernel) (fun _ => rfl) (fun _ => rfl) (wl_atO ht) (by rw [List.length_mapIdx]; exact (List.getElem?_eq_some_iff.mp hz).1) hd (by rw [wl_puti ht hz]; exact kk)
theorem fl_X1_52 : Wd (.fieldLink RX1 52 RX1 (TX1 8).2.1 (TX1 8).2.2.1) := ⟨List.mem_of_getElem? (i := 75) (by decide +kernel), rfl⟩
theorem gf_X1_52 {p : Nat} {fs : List Value} {z : Int32} (v : Int32) (ht : twl[p]? = some (.inr (1, fs))) (hz : fs[8]? = some (.int z)) (hv : mi p 8 = v) (hd : decode cc pc = .ok (.getfield 52, 3))
    (kk : E l RX1 cc nL ret ini hh R w0 Tg k n (pc + 3) lv (.int v :: st) (wl mi ml)) : E l RX1 cc nL ret ini hh R w0 Tg k n pc lv (.ref p :: st) (wl mi ml) :=
  E_get (ref := RX1) (T := TX1) (N := 15) rfl uX1 (by decide) fl_X1_52 rfl (wl_atO ht) (v := .int v) (by simp [List.getElem?_mapIdx, hz, cellV, hv]) hd kk
theorem pf_X1_52 {p : Nat} {fs : List Value} {z v : Int32} (ht : twl[p]? = some (.inr (1, fs))) (hz : fs[8]? = some (.int z)) (hd : decode cc pc = .ok (.putfield 52, 3))
    (kk : E l RX1 cc nL ret ini hh R w0 Tg k n (pc + 3) lv st (wl (u2 mi p 8 v) ml)) : E l RX1 cc nL ret ini hh R w0 Tg k n pc lv (.int v :: .ref p :: st) (wl mi ml) :=
  E_put (ref := RX1) (T := TX1) (N := 15) (ty := .int) tyX1 tyX1_ok nmX1 rfl uX1 (by decide) fl_X1_52 rfl rfl (by decide +kernel) (fun _ => rfl) (fun _ => rfl) (wl_atO ht) (by rw [List.length_mapIdx]; exact (List.getElem?_eq_some_iff.mp hz).1) hd (by rw [wl_puti ht hz]; exact kk)
theorem fl_X1_55 : Wd (.fieldLink RX1 55 RX1 (TX1 10).2.1 (TX1 10).2.2.1) := ⟨List.mem_of_getElem? (i := 78) (by decide +kernel), rfl⟩
theorem gf_X1_55 {p : Nat} {fs : List Value} {z : Int32} (v : Int32) (ht : twl[p]? = some (.inr (1, fs))) (hz : fs[10]? = some (.int z)) (hv : mi p 10 = v) (hd : decode cc pc = .ok (.getfield 55, 3))
    (kk : E l RX1 cc nL ret ini hh R w0 Tg k n (pc + 3) lv (.int v :: st) (wl mi ml)) : E l RX1 cc nL ret ini hh R w0 Tg k n pc lv (.ref p :: st) (wl mi ml) :=
  E_get (ref := RX1) (T := TX1) (N := 15) rfl uX1 (by decide) fl_X1_55 rfl (wl_atO ht) (v := .int v) (by simp [List.getElem?_mapIdx, hz, cellV, hv]) hd kk
theorem pf_X1_55 {p : Nat} {fs : List Value} {z v : Int32} (ht : twl[p]? = some (.inr (1, fs))) (hz : fs[10]? = some (.int z)) (hd : decode cc pc = .ok (.putfield 55, 3))
    (kk : E l RX1 cc nL ret ini hh R w0 Tg k n (pc + 3) lv st (wl (u2 mi p 10 v) ml)) : E l RX1 cc nL ret ini hh R w0 Tg k n pc lv (.int v :: .ref p :: st) (wl mi ml) :=
  E_put (ref := RX1) (T := TX1) (N := 15) (ty := .int) tyX1 tyX1_ok nmX1 rfl uX1 (by decide) fl_X1_55 rfl rfl (by decide +kernel) (fun _ => rfl) (fun _ => rfl) (wl_atO ht) (by rw [List.length_mapIdx]; exact (List.getElem?_eq_some_iff.mp hz).1) hd (by rw [wl_puti ht hz]; exact kk)
theorem fl_X2_11 : Wd (.fieldLink RX2 11 RX2 (TX2 0).2.1 (TX2 0).2.2.1) := ⟨List.mem_of_getElem? (i := 125) (by decide +kernel), rfl⟩
theorem gf_X2_11 {p q : Nat} {fs : List Value} (ht : twl[p]? = some (.inr (2, fs))) (hz : fs[0]? = some (.ref q)) (hd : decode cc pc = .ok (.getfield 11, 3))
    (kk : E l RX2 cc nL ret ini hh R w0 Tg k n (pc + 3) lv (.ref q :: st) (wl mi ml)) : E l RX2 cc nL ret ini hh R w0 Tg k n pc lv (.ref p :: st) (wl mi ml) :=
  E_get (ref := RX2) (T := TX2) (N := 3) rfl uX2 (by decide) fl_X2_11 rfl (wl_atO ht) (v := .ref q) (by simp [List.getElem?_mapIdx, hz, cellV]) hd kk
theorem fl_X2_18 : Wd (.fieldLink RX2 18 RX2 (TX2 1).2.1 (TX2 1).2.2.1) := ⟨List.mem_of_getElem? (i := 126) (by decide +kernel), rfl⟩
theorem gf_X2_18 {p : Nat} {fs : List Value} {z : Int32} (v : Int32) (ht : twl[p]? = some (.inr (2, fs))) (hz : fs[1]? = some (.int z)) (hv : mi p 1 = v) (hd : decode cc pc = .ok (.getfield 18, 3))
    (kk : E l RX2 cc nL ret ini hh R w0 Tg k n (pc + 3) lv (.int v :: st) (wl mi ml)) : E l RX2 cc nL ret ini hh R w0 Tg k n pc lv (.ref p :: st) (wl mi ml) :=
  E_get (ref := RX2) (T := TX2) (N := 3) rfl uX2 (by decide) fl_X2_18 rfl (wl_atO ht) (v := .int v) (by simp [List.getElem?_mapIdx, hz, cellV, hv]) hd kk
theorem pf_X2_18 {p : Nat} {fs : List Value} {z v : Int32} (ht : twl[p]? = some (.inr (2, fs))) (hz : fs[1]? = some (.int z)) (hd : decode cc pc = .ok (.putfield 18, 3))
    (kk : E l RX2 cc nL ret ini hh R w0 Tg k n (pc + 3) lv st (wl (u2 mi p 1 v) ml)) : E l RX2 cc nL ret ini hh R w0 Tg k n pc lv (.int v :: .ref p :: st) (wl mi ml) :=
  E_put (ref := RX2) (T := TX2) (N := 3) (ty := .int) tyX2 tyX2_ok nmX2 rfl uX2 (by decide) fl_X2_18 rfl rfl (by decide +kernel) (fun _ => rfl) (fun _ => rfl) (wl_atO ht) (by rw [List.length_mapIdx]; exact (List.getElem?_eq_some_iff.mp hz).1) hd (by rw [wl_puti ht hz]; exact kk)
theorem fl_X2_30 : Wd (.fieldLink RX2 30 RX2 (TX2 2).2.1 (TX2 2).2.2.1) := ⟨List.mem_of_getElem? (i := 127) (by decide +kernel), rfl⟩
theorem gf_X2_30 {p : Nat} {fs : List Value} {z : Int32} (v : Int32) (ht : twl[p]? = some (.inr (2, fs))) (hz : fs[2]? = some (.int z)) (hv : mi p 2 = v) (hd : decode cc pc = .ok (.getfield 30, 3))
    (kk : E l RX2 cc nL ret ini hh R w0 Tg k n (pc + 3) lv (.int v :: st) (wl mi ml)) : E l RX2 cc nL ret ini hh R w0 Tg k n pc lv (.ref p :: st) (wl mi ml) :=
  E_get (ref := RX2) (T := TX2) (N := 3) rfl uX2 (by decide) fl_X2_30 rfl (wl_atO ht) (v := .int v) (by simp [List.getElem?_mapIdx, hz, cellV, hv]) hd kk
theorem pf_X2_30 {p : Nat} {fs : List Value} {z v : Int32} (ht : twl[p]? = some (.inr (2, fs))) (hz : fs[2]? = some (.int z)) (hd : decode cc pc = .ok (.putfield 30, 3))
    (kk : E l RX2 cc nL ret ini hh R w0 Tg k n (pc + 3) lv st (wl (u2 mi p 2 v) ml)) : E l RX2 cc nL ret ini hh R w0 Tg k n pc lv (.int v :: .ref p :: st) (wl mi ml) :=
  E_put (ref := RX2) (T := TX2) (N := 3) (ty := .int) tyX2 tyX2_ok nmX2 rfl uX2 (by decide) fl_X2_30 rfl rfl (by decide +kernel) (fun _ => rfl) (fun _ => rfl) (wl_atO ht) (by rw [List.length_mapIdx]; exact (List.getElem?_eq_some_iff.mp hz).1) hd (by rw [wl_puti ht hz]; exact kk)
theorem fl_X3_11 : Wd (.fieldLink RX3 11 RX3 (TX3 0).2.1 (TX3 0).2.2.1) := ⟨List.mem_of_getElem? (i := 142) (by decide +kernel), rfl⟩
theorem gf_X3_11 {p q : Nat} {fs : List Value} (ht : twl[p]? = some (.inr (3, fs))) (hz : fs[0]? = some (.ref q)) (hd : decode cc pc = .ok (.getfield 11, 3))
    (kk : E l RX3 cc nL ret ini hh R w0 Tg k n (pc + 3) lv (.ref q :: st) (wl mi ml)) : E l RX3 cc nL ret ini hh R w0 Tg k n pc lv (.ref p :: st) (wl mi ml) :=
  E_get (ref := RX3) (T := TX3) (N := 2) rfl uX3 (by decide) fl_X3_11 rfl (wl_atO ht) (v := .ref q) (by simp [List.getElem?_mapIdx, hz, cellV]) hd kk
theorem fl_X3_15 : Wd (.fieldLink RX3 15 RX3 (TX3 1).2.1 (TX3 1).2.2.1) := ⟨List.mem_of_getElem? (i := 143) (by decide +kernel), rfl⟩
theorem gf_X3_15 {p : Nat} {fs : List Value} {z : Int32} (v : Int32) (ht : twl[p]? = some (.inr (3, fs))) (hz : fs[1]? = some (.int z)) (hv : mi p 1 = v) (hd : decode cc pc = .ok (.getfield 15, 3))
    (kk : E l RX3 cc nL ret ini hh R w0 Tg k n (pc + 3) lv (.int v :: st) (wl mi ml)) : E l RX3 cc nL ret ini hh R w0 Tg k n pc lv (.ref p :: st) (wl mi ml) :=
  E_get (ref := RX3) (T := TX3) (N := 2) rfl uX3 (by decide) fl_X3_15 rfl (wl_atO ht) (v := .int v) (by simp [List.getElem?_mapIdx, hz, cellV, hv]) hd kk
theorem pf_X3_15 {p : Nat} {fs : List Value} {z v : Int32} (ht : twl[p]? = some (.inr (3, fs))) (hz : fs[1]? = some (.int z)) (hd : decode cc pc = .ok (.putfield 15, 3))
    (kk : E l RX3 cc nL ret ini hh R w0 Tg k n (pc + 3) lv st (wl (u2 mi p 1 v) ml)) : E l RX3 cc nL ret ini hh R w0 Tg k n pc lv (.int v :: .ref p :: st) (wl mi ml) :=
  E_put (ref := RX3) (T := TX3) (N := 2) (ty := .int) tyX3 tyX3_ok nmX3 rfl uX3 (by decide) fl_X3_15 rfl rfl (by decide +kernel) (fun _ => rfl) (fun _ => rfl) (wl_atO ht) (by rw [List.length_mapIdx]; exact (List.getElem?_eq_some_iff.mp hz).1) hd (by rw [wl_puti ht hz]; exact kk)
theorem fl_X3_19 : Wd (.fieldLinkNest RX3 19 RX1 (TX1 0).2.1 (TX1 0).2.2.1 "ChannelSpacer") := ⟨List.mem_of_getElem? (i := 53) (by decide +kernel), rfl⟩
theorem gf_X3_19 {p : Nat} {fs : List Value} {z : Int32} (v : Int32) (ht : twl[p]? = some (.inr (1, fs))) (hz : fs[0]? = some (.int z)) (hv : mi p 0 = v) (hd : decode cc pc = .ok (.getfield 19, 3))
    (kk : E l RX3 cc nL ret ini hh R w0 Tg k n (pc + 3) lv (.int v :: st) (wl mi ml)) : E l RX3 cc nL ret ini hh R w0 Tg k n pc lv (.ref p :: st) (wl mi ml) :=
  E_getN (ref := RX1) (T := TX1) (N := 15) rfl uX1 (by decide) fl_X3_19 rfl (wl_atO ht) (v := .int v) (by simp [List.getElem?_mapIdx, hz, cellV, hv]) hd kk
theorem pf_X3_19 {p : Nat} {fs : List Value} {z v : Int32} (ht : twl[p]? = some (.inr (1, fs))) (hz : fs[0]? = some (.int z)) (hd : decode cc pc = .ok (.putfield 19, 3))
    (kk : E l RX3 cc nL ret ini hh R w0 Tg k n (pc + 3) lv st (wl (u2 mi p 0 v) ml)) : E l RX3 cc nL ret ini hh R w0 Tg k n pc lv (.int v :: .ref p :: st) (wl mi ml) :=
  E_putN (ref := RX1) (T := TX1) (N := 15) (ty := .int) tyX1 tyX1_ok nmX1 rfl uX1 (by decide) fl_X3_19 rfl rfl (by decide +kernel) (fun _ => rfl) (fun _ => rfl) (wl_atO ht) (by rw [List.length_mapIdx]; exact (List.getElem?_eq_some_iff.mp hz).1) hd (by rw [wl_puti ht hz]; exact kk)
theorem fl_X3_32 : Wd (.fieldLinkNest RX3 32 RX1 (TX1 1).2.1 (TX1 1).2.2.1 "ChannelSpacer") := ⟨List.mem_of_getElem? (i := 58) (by decide +kernel), rfl⟩
theorem gf_X3_32 {p : Nat} {fs : List Value} {z : Int32} (v : Int32) (ht : twl[p]? = some (.inr (1, fs))) (hz : fs[1]? = some (.int z)) (hv : mi p 1 = v) (hd : decode cc pc = .ok (.getfield 32, 3))
    (kk : E l RX3 cc nL ret ini hh R w0 Tg k n (pc + 3) lv (.int v :: st) (wl mi ml)) : E l RX3 cc nL ret ini hh R w0 Tg k n pc lv (.ref p :: st) (wl mi ml) :=
  E_getN (ref := RX1) (T := TX1) (N := 15) rfl uX1 (by decide) fl_X3_32 rfl (wl_atO ht) (v := .int v) (by simp [List.getElem?_mapIdx, hz, cellV, hv]) hd kk
theorem pf_X3_32 {p : Nat} {fs : List Value} {z v : Int32} (ht : twl[p]? = some (.inr (1, fs))) (hz : fs[1]? = some (.int z)) (hd : decode cc pc = .ok (.putfield 32, 3))
    (kk : E l RX3 cc nL ret ini hh R w0 Tg k n (pc + 3) lv st (wl (u2 mi p 1 v) ml)) : E l RX3 cc nL ret ini hh R w0 Tg k n pc lv (.int v :: .ref p :: st) (wl mi ml) :=
  E_putN (ref := RX1) (T := TX1) (N := 15) (ty := .int) tyX1 tyX1_ok nmX1 rfl uX1 (by decide) fl_X3_32 rfl rfl (by decide +kernel) (fun _ => rfl) (fun _ => rfl) (wl_atO ht) (by rw [List.length_mapIdx]; exact (List.getElem?_eq_some_iff.mp hz).1) hd (by rw [wl_puti ht hz]; exact kk)
theorem fl_X3_35 : Wd (.fieldLinkNest RX3 35 RX1 (TX1 2).2.1 (TX1 2).2.2.1 "ChannelSpacer") := ⟨List.mem_of_getElem? (i := 62) (by decide +kernel), rfl⟩
theorem gf_X3_35 {p : Nat} {fs : List Value} {z : Int32} (v : Int32) (ht : twl[p]? = some (.inr (1, fs))) (hz : fs[2]? = some (.int z)) (hv : mi p 2 = v) (hd : decode cc pc = .ok (.getfield 35, 3))
    (kk : E l RX3 cc nL ret ini hh R w0 Tg k n (pc + 3) lv (.int v :: st) (wl mi ml)) : E l RX3 cc nL ret ini hh R w0 Tg k n pc lv (.ref p :: st) (wl mi ml) :=
  E_getN (ref := RX1) (T := TX1) (N := 15) rfl uX1 (by decide) fl_X3_35 rfl (wl_atO ht) (v := .int v) (by simp [List.getElem?_mapIdx, hz, cellV, hv]) hd kk
theorem pf_X3_35 {p : Nat} {fs : List Value} {z v : Int32} (ht : twl[p]? = some (.inr (1, fs))) (hz : fs[2]? = some (.int z)) (hd : decode cc pc = .ok (.putfield 35, 3))
    (kk : E l RX3 cc nL ret ini hh R w0 Tg k n (pc + 3) lv st (wl (u2 mi p 2 v) ml)) : E l RX3 cc nL ret ini hh R w0 Tg k n pc lv (.int v :: .ref p :: st) (wl mi ml) :=
  E_putN (ref := RX1) (T := TX1) (N := 15) (ty := .int) tyX1 tyX1_ok nmX1 rfl uX1 (by decide) fl_X3_35 rfl rfl (by decide +kernel) (fun _ => rfl) (fun _ => rfl) (wl_atO ht) (by rw [List.length_mapIdx]; exact (List.getElem?_eq_some_iff.mp hz).1) hd (by rw [wl_puti ht hz]; exact kk)
theorem fl_X3_38 : Wd (.fieldLinkNest RX3 38 RX1 (TX1 5).2.1 (TX1 5).2.2.1 "ChannelSpacer") := ⟨List.mem_of_getElem? (i := 72) (by decide +kernel), rfl⟩
theorem gf_X3_38 {p : Nat} {fs : List Value} {z : Int32} (v : Int32) (ht : twl[p]? = some (.inr (1, fs))) (hz : fs[5]? = some (.int z)) (hv : mi p 5 = v) (hd : decode cc pc = .ok (.getfield 38, 3))
    (kk : E l RX3 cc nL ret ini hh R w0 Tg k n (pc + 3) lv (.int v :: st) (wl mi ml)) : E l RX3 cc nL ret ini hh R w0 Tg k n pc lv (.ref p :: st) (wl mi ml) :=
  E_getN (ref := RX1) (T := TX1) (N := 15) rfl uX1 (by decide) fl_X3_38 rfl (wl_atO ht) (v := .int v) (by simp [List.getElem?_mapIdx, hz, cellV, hv]) hd kk
theorem pf_X3_38 {p : Nat} {fs : List Value} {z v : Int32} (ht : twl[p]? = some (.inr (1, fs))) (hz : fs[5]? = some (.int z)) (hd : decode cc pc = .ok (.putfield 38, 3))
    (kk : E l RX3 cc nL ret ini hh R w0 Tg k n (pc + 3) lv st (wl (u2 mi p 5 v) ml)) : E l RX3 cc nL ret ini hh R w0 Tg k n pc lv (.int v :: .ref p :: st) (wl mi ml) :=
  E_putN (ref := RX1) (T := TX1) (N := 15) (ty := .int) tyX1 tyX1_ok nmX1 rfl uX1 (by decide) fl_X3_38 rfl rfl (by decide +kernel) (fun _ => rfl) (fun _ => rfl) (wl_atO ht) (by rw [List.length_mapIdx]; exact (List.getElem?_eq_some_iff.mp hz).1) hd (by rw [wl_puti ht hz]; exact kk)
theorem fl_X4_9 : Wd (.fieldLink RX4 9 RX4 (TX4 0).2.1 (TX4 0).2.2.1) := ⟨List.mem_of_getElem? (i := 195) (by decide +kernel), rfl⟩
theorem gf_X4_9 {p q : Nat} {fs : List Value} (ht : twl[p]? = some (.inr (4, fs))) (hz : fs[0]? = some (.ref q)) (hd : decode cc pc = .ok (.getfield 9, 3))
    (kk : E l RX4 cc nL ret ini hh R w0 Tg k n (pc + 3) lv (.ref q :: st) (wl mi ml)) : E l RX4 cc nL ret ini hh R w0 Tg k n pc lv (.ref p :: st) (wl mi ml) :=
  E_get (ref := RX4) (T := TX4) (N := 5) rfl uX4 (by decide) fl_X4_9 rfl (wl_atO ht) (v := .ref q) (by simp [List.getElem?_mapIdx, hz, cellV]) hd kk
theorem fl_X4_15 : Wd (.fieldLink RX4 15 RX4 (TX4 1).2.1 (TX4 1).2.2.1) := ⟨List.mem_of_getElem? (i := 196) (by decide +kernel), rfl⟩
theorem gf_X4_15 {p : Nat} {fs : List Value} {z : Int32} (v : Int32) (ht : twl[p]? = some (.inr (4, fs))) (hz : fs[1]? = some (.int z)) (hv : mi p 1 = v) (hd : decode cc pc = .ok (.getfield 15, 3))
    (kk : E l RX4 cc nL ret ini hh R w0 Tg k n (pc + 3) lv (.int v :: st) (wl mi ml)) : E l RX4 cc nL ret ini hh R w0 Tg k n pc lv (.ref p :: st) (wl mi ml) :=
  E_get (ref := RX4) (T := TX4) (N := 5) rfl uX4 (by decide) fl_X4_15 rfl (wl_atO ht) (v := .int v) (by simp [List.getElem?_mapIdx, hz, cellV, hv]) hd kk
theorem pf_X4_15 {p : Nat} {fs : List Value} {z v : Int32} (ht : twl[p]? = some (.inr (4, fs))) (hz : fs[1]? = some (.int z)) (hd : decode cc pc = .ok (.putfield 15, 3))
    (kk : E l RX4 cc nL ret ini hh R w0 Tg k n (pc + 3) lv st (wl (u2 mi p 1 v) ml)) : E l RX4 cc nL ret ini hh R w0 Tg k n pc lv (.int v :: .ref p :: st) (wl mi ml) :=
  E_put (ref := RX4) (T := TX4) (N := 5) (ty := .int) tyX4 tyX4_ok nmX4 rfl uX4 (by decide) fl_X4_15 rfl rfl (by decide +kernel) (fun _ => rfl) (fun _ => rfl) (wl_atO ht) (by rw [List.length_mapIdx]; exact (List.getElem?_eq_some_iff.mp hz).1) hd (by rw [wl_puti ht hz]; exact kk)
end rows
/-- the six desks -/
def isD (h : Nat) : Prop := h = 1 ∨ h = 9 ∨ h = 19 ∨ h = 27 ∨ h = 35 ∨ h = 43
theorem isD.t {h : Nat} (hd : isD h) : twl[h]? = some (.inr (1, dkF h)) := by rcases hd with rfl | rfl | rfl | rfl | rfl | rfl <;> rfl
theorem isD.a1 {h : Nat} (hd : isD h) : twl[h + 1]? = some (.inl (0, 10, .inl (fun _ => 0))) := by rcases hd with rfl | rfl | rfl | rfl | rfl | rfl <;> rfl
theorem isD.a2 {h : Nat} (hd : isD h) : twl[h + 2]? = some (.inl (0, 10, .inl (fun _ => 0))) := by rcases hd with rfl | rfl | rfl | rfl | rfl | rfl <;> rfl
theorem isD.a3 {h : Nat} (hd : isD h) : twl[h + 3]? = some (.inl (0, 5, .inl (fun _ => 0))) := by rcases hd with rfl | rfl | rfl | rfl | rfl | rfl <;> rfl
theorem isD.a4 {h : Nat} (hd : isD h) : twl[h + 4]? = some (.inl (0, 16, .inl (fun _ => 0))) := by rcases hd with rfl | rfl | rfl | rfl | rfl | rfl <;> rfl
theorem isD.a5 {h : Nat} (hd : isD h) : twl[h + 5]? = some (.inl (0, 16, .inl (fun _ => 0))) := by rcases hd with rfl | rfl | rfl | rfl | rfl | rfl <;> rfl
theorem isD.a6 {h : Nat} (hd : isD h) : twl[h + 6]? = some (.inl (0, 16, .inl (fun _ => 0))) := by rcases hd with rfl | rfl | rfl | rfl | rfl | rfl <;> rfl
theorem isD.a7 {h : Nat} (hd : isD h) : twl[h + 7]? = some (.inl (0, 16, .inl (fun _ => 0))) := by rcases hd with rfl | rfl | rfl | rfl | rfl | rfl <;> rfl
theorem isD_1 : isD 1 := by unfold isD; omega
theorem isD_9 : isD 9 := by unfold isD; omega
theorem isD_19 : isD 19 := by unfold isD; omega
theorem isD_27 : isD 27 := by unfold isD; omega
theorem isD_35 : isD 35 := by unfold isD; omega
theorem isD_43 : isD 43 := by unfold isD; omega
theorem tw_0 : twl[0]? = some (.inr (5, xF)) := rfl
theorem tw_17 : twl[17]? = some (.inr (2, hF)) := rfl
theorem tw_51 : twl[51]? = some (.inr (3, mxF)) := rfl
theorem tw_53 : twl[53]? = some (.inr (0, csF)) := rfl
theorem tw_58 : twl[58]? = some (.inr (4, plF)) := rfl
theorem tw_52 : twl[52]? = some (.inl (0, 3240, .inl (fun _ => 0))) := rfl
theorem tw_54 : twl[54]? = some (.inl (0, 11, .inl (fun _ => 0))) := rfl
theorem tw_55 : twl[55]? = some (.inl (0, 11, .inl (fun _ => 0))) := rfl
theorem tw_59 : twl[59]? = some (.inl (0, 120, .inl (fun _ => 0))) := rfl
theorem tw_56 : twl[56]? = some (.inl (1, 12, .inr (.inl (fun _ => 0)))) := rfl
theorem tw_57 : twl[57]? = some (.inl (1, 12, .inr (.inl (fun _ => 0)))) := rfl
theorem tw_60 : twl[60]? = some (.inl (1, 5, .inr (.inl (fun _ => 0)))) := rfl
theorem tw_18 : twl[18]? = some (.inl (2, 4, .inr (.inr (.inr (.inr svF))))) := rfl
end MEM
