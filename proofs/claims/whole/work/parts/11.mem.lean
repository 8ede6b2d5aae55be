section MEM
abbrev MI : Type := Nat → Nat → Int32
abbrev MJ : Type := Nat → Nat → Int64
def u2 {α : Type} (f : Nat → Nat → α) (p k : Nat) (v : α) : Nat → Nat → α := fun p' k' => if p' = p ∧ k' = k then v else f p' k'
theorem u2_s {α : Type} (f : Nat → Nat → α) (p k : Nat) (v : α) : u2 f p k v p k = v := by simp [u2]
theorem u2_n {α : Type} {f : Nat → Nat → α} {p k p' k' : Nat} {v : α} (h : p' ≠ p ∨ k' ≠ k) : u2 f p k v p' k' = f p' k' := by
  unfold u2
  rw [if_neg]
  intro h2
  rcases h with h | h
  · exact h h2.1
  · exact h h2.2
theorem u2_p {α : Type} {f : Nat → Nat → α} {p k p' : Nat} {v : α} (h : p' ≠ p) : u2 f p k v p' = f p' := by
  funext k'
  exact u2_n (Or.inl h)
theorem u2_row {α : Type} {f : Nat → Nat → α} {p k : Nat} {v : α} : u2 f p k v p = fun j => if j = k then v else f p j := by
  funext j
  simp [u2]
def arI (n : Nat) : va_E := .inl (0, n, .inl (fun _ => 0))
def arJ (n : Nat) : va_E := .inl (1, n, .inr (.inl (fun _ => 0)))
def dkF (h : Nat) : List Value := [.int 0, .int 0, .int 0, .int 0, .int 0, .int 0, .ref (h + 1), .ref (h + 2), .int 0, .ref (h + 3), .int 0, .ref (h + 4), .ref (h + 5), .ref (h + 6), .ref (h + 7)]
def dkB (h : Nat) : List va_E := [.inr (1, dkF h), arI 10, arI 10, arI 5, arI 16, arI 16, arI 16, arI 16]
def svF : Nat → Option Nat := fun j => if j = 0 then some 19 else if j = 1 then some 27 else if j = 2 then some 35 else if j = 3 then some 43 else none
def xF : List Value := [.ref 1, .ref 9, .ref 17, .ref 51, .ref 53, .ref 58, .ref 60]
def hF : List Value := [.ref 18, .int 0, .int 0]
def mxF : List Value := [.ref 52, .int 0]
def csF : List Value := [.ref 54, .ref 55, .ref 56, .ref 57, .int 0, .int 0, .int 0, .int 0, .int 0, .int 0]
def plF : List Value := [.ref 59, .int 0, .int 0, .int 0, .int 0]
def moF : List Value := [.ref 62, .ref 63, .int 0, .ref 64, .int 0, .int 0, .ref 65, .ref 66, .ref 67, .int 0, .ref 68, .long 0, .ref 69, .ref 70, .int 0, .int 0, .int 0, .ref 71, .int 0, .ref 72, .int 0, .int 0, .long 0]
/-- the cells by their places, numbers left out -/
def twl : List va_E := [.inr (5, xF)] ++ dkB 1 ++ dkB 9 ++ [.inr (2, hF), .inl (2, 4, .inr (.inr (.inr (.inr svF))))] ++ dkB 19 ++ dkB 27 ++ dkB 35 ++ dkB 43 ++ [.inr (3, mxF), arI 3240, .inr (0, csF), arI 11, arI 11, arJ 12, arJ 12, .inr (4, plF), arI 120, arJ 5, .inr (6, moF), arI 81, arI 324, arI 120, arI 12, arI 12, arI 3300, arI 8, arI 17, arI 32, arI 20, arI 5, arJ 1]
def cellV (mi : MI) (ml : MJ) (p k : Nat) : Value → Value
  | .int _ => .int (mi p k)
  | .long _ => .long (ml p k)
  | v => v
def cellM (mi : MI) (ml : MJ) (p : Nat) : va_E → va_E
  | .inr (ci, fs) => .inr (ci, fs.mapIdx (fun k v => cellV mi ml p k v))
  | .inl (t, n, .inl _) => .inl (t, n, .inl (mi p))
  | .inl (t, n, .inr (.inl _)) => .inl (t, n, .inr (.inl (ml p)))
  | e => e
def wl (mi : MI) (ml : MJ) : AW := twl.mapIdx (fun p e => cellM mi ml p e)
theorem wl_at {mi : MI} {ml : MJ} {p : Nat} {e : va_E} (h : twl[p]? = some e) : (wl mi ml)[p]? = some (cellM mi ml p e) := by
  simp [wl, List.getElem?_mapIdx, h]
theorem wl_atO {mi : MI} {ml : MJ} {p ci : Nat} {fs : List Value} (h : twl[p]? = some (.inr (ci, fs))) : (wl mi ml)[p]? = some (.inr (ci, fs.mapIdx (fun k v => cellV mi ml p k v))) := wl_at h
theorem cellM_oi {mi : MI} {ml : MJ} {p k : Nat} {v : Int32} {j : Nat} (hj : j ≠ p) (e : va_E) : cellM (u2 mi p k v) ml j e = cellM mi ml j e := by
  obtain ⟨t, n, f⟩ | ⟨ci, fs⟩ := e
  · rcases f with f | f | f | f | f <;> simp [cellM, u2_p hj]
  · have h9 : (fun k' v' => cellV (u2 mi p k v) ml j k' v') = fun k' v' => cellV mi ml j k' v' := by
      funext k' v'
      cases v' <;> simp [cellV, u2_p hj]
    simp only [cellM, h9]
theorem cellM_oj {mi : MI} {ml : MJ} {p k : Nat} {v : Int64} {j : Nat} (hj : j ≠ p) (e : va_E) : cellM mi (u2 ml p k v) j e = cellM mi ml j e := by
  obtain ⟨t, n, f⟩ | ⟨ci, fs⟩ := e
  · rcases f with f | f | f | f | f <;> simp [cellM, u2_p hj]
  · have h9 : (fun k' v' => cellV mi (u2 ml p k v) j k' v') = fun k' v' => cellV mi ml j k' v' := by
      funext k' v'
      cases v' <;> simp [cellV, u2_p hj]
    simp only [cellM, h9]
theorem wl_seti {mi : MI} {ml : MJ} {p k : Nat} {v : Int32} {e e' : va_E} (h : twl[p]? = some e) (he : cellM (u2 mi p k v) ml p e = e') : (wl mi ml).set p e' = wl (u2 mi p k v) ml := by
  apply List.ext_getElem?
  intro j
  rw [List.getElem?_set]
  by_cases hj : p = j
  · subst hj
    have hl : p < (wl mi ml).length := by
      simp only [wl, List.length_mapIdx]
      exact (List.getElem?_eq_some_iff.mp h).1
    rw [if_pos rfl, if_pos hl, wl_at h, he]
  · rw [if_neg hj]
    simp only [wl, List.getElem?_mapIdx]
    cases twl[j]? with
    | none => rfl
    | some x => simp only [Option.map_some, cellM_oi (Ne.symm hj)]
theorem wl_setj {mi : MI} {ml : MJ} {p k : Nat} {v : Int64} {e e' : va_E} (h : twl[p]? = some e) (he : cellM mi (u2 ml p k v) p e = e') : (wl mi ml).set p e' = wl mi (u2 ml p k v) := by
  apply List.ext_getElem?
  intro j
  rw [List.getElem?_set]
  by_cases hj : p = j
  · subst hj
    have hl : p < (wl mi ml).length := by
      simp only [wl, List.length_mapIdx]
      exact (List.getElem?_eq_some_iff.mp h).1
    rw [if_pos rfl, if_pos hl, wl_at h, he]
  · rw [if_neg hj]
    simp only [wl, List.getElem?_mapIdx]
    cases twl[j]? with
    | none => rfl
    | some x => simp only [Option.map_some, cellM_oj (Ne.symm hj)]
theorem wl_puti {mi : MI} {ml : MJ} {p ci k : Nat} {fs : List Value} {z v : Int32} (h : twl[p]? = some (.inr (ci, fs))) (hk : fs[k]? = some (.int z)) : (wl mi ml).set p (.inr (ci, (fs.mapIdx (fun k v => cellV mi ml p k v)).set k (.int v))) = wl (u2 mi p k v) ml := by
  refine wl_seti h ?_
  simp only [cellM]
  congr 2
  apply List.ext_getElem?
  intro j
  rw [List.getElem?_set, List.getElem?_mapIdx, List.getElem?_mapIdx]
  have hl : k < (fs.mapIdx (fun k v => cellV mi ml p k v)).length := by
    rw [List.length_mapIdx]
    exact (List.getElem?_eq_some_iff.mp hk).1
  by_cases hj : k = j
  · subst hj
    rw [if_pos rfl, if_pos hl, hk]
    simp [cellV, u2_s]
  · rw [if_neg hj]
    cases fs[j]? with
    | none => rfl
    | some x => cases x <;> simp [cellV, u2_n (f := mi) (p := p) (k := k) (p' := p) (k' := j) (v := v) (Or.inr (Ne.symm hj))]
theorem wl_putj {mi : MI} {ml : MJ} {p ci k : Nat} {fs : List Value} {z v : Int64} (h : twl[p]? = some (.inr (ci, fs))) (hk : fs[k]? = some (.long z)) : (wl mi ml).set p (.inr (ci, (fs.mapIdx (fun k v => cellV mi ml p k v)).set k (.long v))) = wl mi (u2 ml p k v) := by
  refine wl_setj h ?_
  simp only [cellM]
  congr 2
  apply List.ext_getElem?
  intro j
  rw [List.getElem?_set, List.getElem?_mapIdx, List.getElem?_mapIdx]
  have hl : k < (fs.mapIdx (fun k v => cellV mi ml p k v)).length := by
    rw [List.length_mapIdx]
    exact (List.getElem?_eq_some_iff.mp hk).1
  by_cases hj : k = j
  · subst hj
    rw [if_pos rfl, if_pos hl, hk]
    simp [cellV, u2_s]
  · rw [if_neg hj]
    cases fs[j]? with
    | none => rfl
    | some x => cases x <;> simp [cellV, u2_n (f := ml) (p := p) (k := k) (p' := p) (k' := j) (v := v) (Or.inr (Ne.symm hj))]
theorem tNC (x : Int32) {j : Nat} (h : x.toInt = (j : Int)) : x.toNatClampNeg = j := by
  show x.toInt.toNat = j
  omega
theorem vpi {x : Int32} {j z : Nat} (h : x.toInt = (j : Int)) (hl : j < z) : vp_in x z := vp_in_iff.mpr ⟨by omega, by omega⟩
section rows
variable {l : Launch} {own : String} {cc : ByteArray} {nL : Nat} {ret : Option FieldType} {ini : Bool} {hh : List ExceptionTableEntry} {R : Room} {w0 : AW} {Tg : TgT} {k n pc : Nat} {lv : List (Nat × Value)} {st : List Value} {mi : MI} {ml : MJ}
theorem S_iald {p z : Nat} {f0 : Nat → Int32} {j : Int32} (jx : Nat) (v : Int32) (ht : twl[p]? = some (.inl (0, z, .inl f0))) (hj : j.toInt = (jx : Int)) (hl : jx < z) (hv : mi p jx = v) (hd : decode cc pc = .ok (.iaload, 1))
    (kk : E l own cc nL ret ini hh R w0 Tg k n (pc + 1) lv (.int v :: st) (wl mi ml)) : E l own cc nL ret ini hh R w0 Tg k n pc lv (.int j :: .ref p :: st) (wl mi ml) :=
  E_iald (f := mi p) (wl_at ht) (vpi hj hl) hd (by rw [tNC j hj, hv]; exact kk)
theorem S_lald {p z : Nat} {f0 : Nat → Int64} {j : Int32} (jx : Nat) (v : Int64) (ht : twl[p]? = some (.inl (1, z, .inr (.inl f0)))) (hj : j.toInt = (jx : Int)) (hl : jx < z) (hv : ml p jx = v) (hd : decode cc pc = .ok (.laload, 1))
    (kk : E l own cc nL ret ini hh R w0 Tg k n (pc + 1) lv (.long v :: st) (wl mi ml)) : E l own cc nL ret ini hh R w0 Tg k n pc lv (.int j :: .ref p :: st) (wl mi ml) :=
  E_lald (f := ml p) (wl_at ht) (vpi hj hl) hd (by rw [tNC j hj, hv]; exact kk)
theorem S_iast {p z : Nat} {f0 : Nat → Int32} {j x : Int32} (jx : Nat) (ht : twl[p]? = some (.inl (0, z, .inl f0))) (hj : j.toInt = (jx : Int)) (hl : jx < z) (hd : decode cc pc = .ok (.iastore, 1))
    (kk : E l own cc nL ret ini hh R w0 Tg k n (pc + 1) lv st (wl (u2 mi p jx x) ml)) : E l own cc nL ret ini hh R w0 Tg k n pc lv (.int x :: .int j :: .ref p :: st) (wl mi ml) := by
  refine E_iast (f := mi p) (wl_at ht) (vpi hj hl) hd ?_
  rw [tNC j hj, wl_seti (k := jx) (v := x) ht (by simp only [cellM, u2_row]; rfl)]
  exact kk
theorem S_last {p z : Nat} {f0 : Nat → Int64} {j : Int32} {x : Int64} (jx : Nat) (ht : twl[p]? = some (.inl (1, z, .inr (.inl f0)))) (hj : j.toInt = (jx : Int)) (hl : jx < z) (hd : decode cc pc = .ok (.lastore, 1))
    (kk : E l own cc nL ret ini hh R w0 Tg k n (pc + 1) lv st (wl mi (u2 ml p jx x))) : E l own cc nL ret ini hh R w0 Tg k n pc lv (.long x :: .int j :: .ref p :: st) (wl mi ml) := by
  refine E_last (f := ml p) (wl_at ht) (vpi hj hl) hd ?_
  rw [tNC j hj, wl_setj (k := jx) (v := x) ht (by simp only [cellM, u2_row]; rfl)]
  exact kk
theorem S_alenJ {p z : Nat} {f0 : Nat → Int64} (v : Int32) (ht : twl[p]? = some (.inl (1, z, .inr (.inl f0)))) (hv : Int32.ofNat z = v) (hd : decode cc pc = .ok (.arraylength, 1))
    (kk : E l own cc nL ret ini hh R w0 Tg k n (pc + 1) lv (.int v :: st) (wl mi ml)) : E l own cc nL ret ini hh R w0 Tg k n pc lv (.ref p :: st) (wl mi ml) :=
  E_alenJ (f := ml p) (wl_at ht) hv hd kk
theorem S_aald {p z q : Nat} {f0 : Nat → Option Nat} {j : Int32} (jx : Nat) (ht : twl[p]? = some (.inl (2, z, .inr (.inr (.inr (.inr f0)))))) (hj : j.toInt = (jx : Int)) (hl : jx < z) (hq : f0 jx = some q) (hd : decode cc pc = .ok (.aaload, 1))
    (kk : E l own cc nL ret ini hh R w0 Tg k n (pc + 1) lv (.ref q :: st) (wl mi ml)) : E l own cc nL ret ini hh R w0 Tg k n pc lv (.int j :: .ref p :: st) (wl mi ml) :=
  E_aald (f := f0) (wl_at ht) (vpi hj hl) (by rw [tNC j hj]; exact hq) hd kk
theorem fl_X5_10 : Wd (.fieldLink RX5 10 RX5 (TX5 0).2.1 (TX5 0).2.2.1) := ⟨List.mem_of_getElem? (i := 261) (by decide +kernel), rfl⟩
theorem gf_X5_10 {p q : Nat} {fs : List Value} (ht : twl[p]? = some (.inr (5, fs))) (hz : fs[0]? = some (.ref q)) (hd : decode cc pc = .ok (.getfield 10, 3))
    (kk : E l RX5 cc nL ret ini hh R w0 Tg k n (pc + 3) lv (.ref q :: st) (wl mi ml)) : E l RX5 cc nL ret ini hh R w0 Tg k n pc lv (.ref p :: st) (wl mi ml) :=
  E_get (ref := RX5) (T := TX5) (N := 7) rfl uX5 (by decide) fl_X5_10 rfl (wl_atO ht) (v := .ref q) (by simp [List.getElem?_mapIdx, hz, cellV]) hd kk
theorem fl_X5_16 : Wd (.fieldLink RX5 16 RX5 (TX5 1).2.1 (TX5 1).2.2.1) := ⟨List.mem_of_getElem? (i := 262) (by decide +kernel), rfl⟩
theorem gf_X5_16 {p q : Nat} {fs : List Value} (ht : twl[p]? = some (.inr (5, fs))) (hz : fs[1]? = some (.ref q)) (hd : decode cc pc = .ok (.getfield 16, 3))
    (kk : E l RX5 cc nL ret ini hh R w0 Tg k n (pc + 3) lv (.ref q :: st) (wl mi ml)) : E l RX5 cc nL ret ini hh R w0 Tg k n pc lv (.ref p :: st) (wl mi ml) :=
  E_get (ref := RX5) (T := TX5) (N := 7) rfl uX5 (by decide) fl_X5_16 rfl (wl_atO ht) (v := .ref q) (by simp [List.getElem?_mapIdx, hz, cellV]) hd kk
theorem fl_X5_22 : Wd (.fieldLink RX5 22 RX5 (TX5 2).2.1 (TX5 2).2.2.1) := ⟨List.mem_of_getElem? (i := 263) (by decide +kernel), rfl⟩
theorem gf_X5_22 {p q : Nat} {fs : List Value} (ht : twl[p]? = some (.inr (5, fs))) (hz : fs[2]? = some (.ref q)) (hd : decode cc pc = .ok (.getfield 22, 3))
    (kk : E l RX5 cc nL ret ini hh R w0 Tg k n (pc + 3) lv (.ref q :: st) (wl mi ml)) : E l RX5 cc nL ret ini hh R w0 Tg k n pc lv (.ref p :: st) (wl mi ml) :=
  E_get (ref := RX5) (T := TX5) (N := 7) rfl uX5 (by decide) fl_X5_22 rfl (wl_atO ht) (v := .ref q) (by simp [List.getElem?_mapIdx, hz, cellV]) hd kk
theorem fl_X5_29 : Wd (.fieldLink RX5 29 RX5 (TX5 3).2.1 (TX5 3).2.2.1) := ⟨List.mem_of_getElem? (i := 264) (by decide +kernel), rfl⟩
theorem gf_X5_29 {p q : Nat} {fs : List Value} (ht : twl[p]? = some (.inr (5, fs))) (hz : fs[3]? = some (.ref q)) (hd : decode cc pc = .ok (.getfield 29, 3))
    (kk : E l RX5 cc nL ret ini hh R w0 Tg k n (pc + 3) lv (.ref q :: st) (wl mi ml)) : E l RX5 cc nL ret ini hh R w0 Tg k n pc lv (.ref p :: st) (wl mi ml) :=
  E_get (ref := RX5) (T := TX5) (N := 7) rfl uX5 (by decide) fl_X5_29 rfl (wl_atO ht) (v := .ref q) (by simp [List.getElem?_mapIdx, hz, cellV]) hd kk
theorem fl_X5_36 : Wd (.fieldLink RX5 36 RX5 (TX5 4).2.1 (TX5 4).2.2.1) := ⟨List.mem_of_getElem? (i := 265) (by decide +kernel), rfl⟩
theorem gf_X5_36 {p q : Nat} {fs : List Value} (ht : twl[p]? = some (.inr (5, fs))) (hz : fs[4]? = some (.ref q)) (hd : decode cc pc = .ok (.getfield 36, 3))
    (kk : E l RX5 cc nL ret ini hh R w0 Tg k n (pc + 3) lv (.ref q :: st) (wl mi ml)) : E l RX5 cc nL ret ini hh R w0 Tg k n pc lv (.ref p :: st) (wl mi ml) :=
  E_get (ref := RX5) (T := TX5) (N := 7) rfl uX5 (by decide) fl_X5_36 rfl (wl_atO ht) (v := .ref q) (by simp [List.getElem?_mapIdx, hz, cellV]) hd kk
theorem fl_X5_43 : Wd (.fieldLink RX5 43 RX5 (TX5 5).2.1 (TX5 5).2.2.1) := ⟨List.mem_of_getElem? (i := 266) (by decide +kernel), rfl⟩
theorem gf_X5_43 {p q : Nat} {fs : List Value} (ht : twl[p]? = some (.inr (5, fs))) (hz : fs[5]? = some (.ref q)) (hd : decode cc pc = .ok (.getfield 43, 3))
    (kk : E l RX5 cc nL ret ini hh R w0 Tg k n (pc + 3) lv (.ref q :: st) (wl mi ml)) : E l RX5 cc nL ret ini hh R w0 Tg k n pc lv (.ref p :: st) (wl mi ml) :=
  E_get (ref := RX5) (T := TX5) (N := 7) rfl uX5 (by decide) fl_X5_43 rfl (wl_atO ht) (v := .ref q) (by simp [List.getElem?_mapIdx, hz, cellV]) hd kk
theorem fl_X5_47 : Wd (.fieldLink RX5 47 RX5 (TX5 6).2.1 (TX5 6).2.2.1) := ⟨List.mem_of_getElem? (i := 267) (by decide +kernel), rfl⟩
theorem gf_X5_47 {p q : Nat} {fs : List Value} (ht : twl[p]? = some (.inr (5, fs))) (hz : fs[6]? = some (.ref q)) (hd : decode cc pc = .ok (.getfield 47, 3))
    (kk : E l RX5 cc nL ret ini hh R w0 Tg k n (pc + 3) lv (.ref q :: st) (wl mi ml)) : E l RX5 cc nL ret ini hh R w0 Tg k n pc lv (.ref p :: st) (wl mi ml) :=
  E_get (ref := RX5) (T := TX5) (N := 7) rfl uX5 (by decide) fl_X5_47 rfl (wl_atO ht) (v := .ref q) (by simp [List.getElem?_mapIdx, hz, cellV]) hd kk
theorem fl_X5_80 : Wd (.fieldLinkNest RX5 80 RX1 (TX1 5).2.1 (TX1 5).2.2.1 "ChannelSpacer") := ⟨List.mem_of_getElem? (i := 118) (by decide +kernel), rfl⟩
theorem gf_X5_80 {p : Nat} {fs : List Value} {z : Int32} (v : Int32) (ht : twl[p]? = some (.inr (1, fs))) (hz : fs[5]? = some (.int z)) (hv : mi p 5 = v) (hd : decode cc pc = .ok (.getfield 80, 3))
    (kk : E l RX5 cc nL ret ini hh R w0 Tg k n (pc + 3) lv (.int v :: st) (wl mi ml)) : E l RX5 cc nL ret ini hh R w0 Tg k n pc lv (.ref p :: st) (wl mi ml) :=
  E_getN (ref := RX1) (T := TX1) (N := 15) rfl uX1 (by decide) fl_X5_80 rfl (wl_atO ht) (v := .int v) (by simp [List.getElem?_mapIdx, hz, cellV, hv]) hd kk
theorem pf_X5_80 {p : Nat} {fs : List Value} {z v : Int32} (ht : twl[p]? = some (.inr (1, fs))) (hz : fs[5]? = some (.int z)) (hd : decode cc pc = .ok (.putfield 80, 3))
    (kk : E l RX5 cc nL ret ini hh R w0 Tg k n (pc + 3) lv st (wl (u2 mi p 5 v) ml)) : E l RX5 cc nL ret ini hh R w0 Tg k n pc lv (.int v :: .ref p :: st) (wl mi ml) :=
  E_putN (ref := RX1) (T := TX1) (N := 15) (ty := .int) tyX1 tyX1_ok nmX1 rfl uX1 (by decide) fl_X5_80 rfl rfl (by decide +kernel) (fun _ => rfl) (fun _ => rfl) (wl_atO ht) (by rw [List.length_mapIdx]; exact (List.getElem?_eq_some_iff.mp hz).1) hd (by rw [wl_puti ht hz]; exact kk)
theorem fl_X5_118 : Wd (.fieldLinkNest RX5 118 RX1 (TX1 0).2.1 (TX1 0).2.2.1 "ChannelSpacer") := ⟨List.mem_of_getElem? (i := 102) (by decide +kernel), rfl⟩
theorem gf_X5_118 {p : Nat} {fs : List Value} {z : Int32} (v : Int32) (ht : twl[p]? = some (.inr (1, fs))) (hz : fs[0]? = some (.int z)) (hv : mi p 0 = v) (hd : decode cc pc = .ok (.getfield 118, 3))
    (kk : E l RX5 cc nL ret ini hh R w0 Tg k n (pc + 3) lv (.int v :: st) (wl mi ml)) : E l RX5 cc nL ret ini hh R w0 Tg k n pc lv (.ref p :: st) (wl mi ml) :=
  E_getN (ref := RX1) (T := TX1) (N := 15) rfl uX1 (by decide) fl_X5_118 rfl (wl_atO ht) (v := .int v) (by simp [List.getElem?_mapIdx, hz, cellV, hv]) hd kk
theorem pf_X5_118 {p : Nat} {fs : List Value} {z v : Int32} (ht : twl[p]? = some (.inr (1, fs))) (hz : fs[0]? = some (.int z)) (hd : decode cc pc = .ok (.putfield 118, 3))
    (kk : E l RX5 cc nL ret ini hh R w0 Tg k n (pc + 3) lv st (wl (u2 mi p 0 v) ml)) : E l RX5 cc nL ret ini hh R w0 Tg k n pc lv (.int v :: .ref p :: st) (wl mi ml) :=
  E_putN (ref := RX1) (T := TX1) (N := 15) (ty := .int) tyX1 tyX1_ok nmX1 rfl uX1 (by decide) fl_X5_118 rfl rfl (by decide +kernel) (fun _ => rfl) (fun _ => rfl) (wl_atO ht) (by rw [List.length_mapIdx]; exact (List.getElem?_eq_some_iff.mp hz).1) hd (by rw [wl_puti ht hz]; exact kk)
theorem fl_X5_121 : Wd (.fieldLinkNest RX5 121 RX1 (TX1 1).2.1 (TX1 1).2.2.1 "ChannelSpacer") := ⟨List.mem_of_getElem? (i := 106) (by decide +kernel), rfl⟩
theorem gf_X5_121 {p : Nat} {fs : List Value} {z : Int32} (v : Int32) (ht : twl[p]? = some (.inr (1, fs))) (hz : fs[1]? = some (.int z)) (hv : mi p 1 = v) (hd : decode cc pc = .ok (.getfield 121, 3))
    (kk : E l RX5 cc nL ret ini hh R w0 Tg k n (pc + 3) lv (.int v :: st) (wl mi ml)) : E l RX5 cc nL ret ini hh R w0 Tg k n pc lv (.ref p :: st) (wl mi ml) :=
  E_getN (ref := RX1) (T := TX1) (N := 15) rfl uX1 (by decide) fl_X5_121 rfl (wl_atO ht) (v := .int v) (by simp [List.getElem?_mapIdx, hz, cellV, hv]) hd kk
theorem pf_X5_121 {p : Nat} {fs : List Value} {z v : Int32} (ht : twl[p]? = some (.inr (1, fs))) (hz : fs[1]? = some (.int z)) (hd : decode cc pc = .ok (.putfield 121, 3))
    (kk : E l RX5 cc nL ret ini hh R w0 Tg k n (pc + 3) lv st (wl (u2 mi p 1 v) ml)) : E l RX5 cc nL ret ini hh R w0 Tg k n pc lv (.int v :: .ref p :: st) (wl mi ml) :=
  E_putN (ref := RX1) (T := TX1) (N := 15) (ty := .int) tyX1 tyX1_ok nmX1 rfl uX1 (by decide) fl_X5_121 rfl rfl (by decide +kernel) (fun _ => rfl) (fun _ => rfl) (wl_atO ht) (by rw [List.length_mapIdx]; exact (List.getElem?_eq_some_iff.mp hz).1) hd (by rw [wl_puti ht hz]; exact kk)
theorem fl_X5_124 : Wd (.fieldLinkNest RX5 124 RX1 (TX1 2).2.1 (TX1 2).2.2.1 "ChannelSpacer") := ⟨List.mem_of_getElem? (i := 110) (by decide +kernel), rfl⟩
theorem gf_X5_124 {p : Nat} {fs : List Value} {z : Int32} (v : Int32) (ht : twl[p]? = some (.inr (1, fs))) (hz : fs[2]? = some (.int z)) (hv : mi p 2 = v) (hd : decode cc pc = .ok (.getfield 124, 3))
    (kk : E l RX5 cc nL ret ini hh R w0 Tg k n (pc + 3) lv (.int v :: st) (wl mi ml)) : E l RX5 cc nL ret ini hh R w0 Tg k n pc lv (.ref p :: st) (wl mi ml) :=
  E_getN (ref := RX1) (T := TX1) (N := 15) rfl uX1 (by decide) fl_X5_124 rfl (wl_atO ht) (v := .int v) (by simp [List.getElem?_mapIdx, hz, cellV, hv]) hd kk
theorem pf_X5_124 {p : Nat} {fs : List Value} {z v : Int32} (ht : twl[p]? = some (.inr (1, fs))) (hz : fs[2]? = some (.int z)) (hd : decode cc pc = .ok (.putfield 124, 3))
    (kk : E l RX5 cc nL ret ini hh R w0 Tg k n (pc + 3) lv st (wl (u2 mi p 2 v) ml)) : E l RX5 cc nL ret ini hh R w0 Tg k n pc lv (.int v :: .ref p :: st) (wl mi ml) :=
  E_putN (ref := RX1) (T := TX1) (N := 15) (ty := .int) tyX1 tyX1_ok nmX1 rfl uX1 (by decide) fl_X5_124 rfl rfl (by decide +kernel) (fun _ => rfl) (fun _ => rfl) (wl_atO ht) (by rw [List.length_mapIdx]; exact (List.getElem?_eq_some_iff.mp hz).1) hd (by rw [wl_puti ht hz]; exact kk)
theorem fl_X5_127 : Wd (.fieldLinkNest RX5 127 RX1 (TX1 10).2.1 (TX1 10).2.2.1 "ChannelSpacer") := ⟨List.mem_of_getElem? (i := 128) (by decide +kernel), rfl⟩
theorem gf_X5_127 {p : Nat} {fs : List Value} {z : Int32} (v : Int32) (ht : twl[p]? = some (.inr (1, fs))) (hz : fs[10]? = some (.int z)) (hv : mi p 10 = v) (hd : decode cc pc = .ok (.getfield 127, 3))
    (kk : E l RX5 cc nL ret ini hh R w0 Tg k n (pc + 3) lv (.int v :: st) (wl mi ml)) : E l RX5 cc nL ret ini hh R w0 Tg k n pc lv (.ref p :: st) (wl mi ml) :=
  E_getN (ref := RX1) (T := TX1) (N := 15) rfl uX1 (by decide) fl_X5_127 rfl (wl_atO ht) (v := .int v) (by simp [List.getElem?_mapIdx, hz, cellV, hv]) hd kk
theorem pf_X5_127 {p : Nat} {fs : List Value} {z v : Int32} (ht : twl[p]? = some (.inr (1, fs))) (hz : fs[10]? = some (.int z)) (hd : decode cc pc = .ok (.putfield 127, 3))
    (kk : E l RX5 cc nL ret ini hh R w0 Tg k n (pc + 3) lv st (wl (u2 mi p 10 v) ml)) : E l RX5 cc nL ret ini hh R w0 Tg k n pc lv (.int v :: .ref p :: st) (wl mi ml) :=
  E_putN (ref := RX1) (T := TX1) (N := 15) (ty := .int) tyX1 tyX1_ok nmX1 rfl uX1 (by decide) fl_X5_127 rfl rfl (by decide +kernel) (fun _ => rfl) (fun _ => rfl) (wl_atO ht) (by rw [List.length_mapIdx]; exact (List.getElem?_eq_some_iff.mp hz).1) hd (by rw [wl_puti ht hz]; exact kk)
theorem fl_X5_132 : Wd (.fieldLinkNest RX5 132 RX1 (TX1 3).2.1 (TX1 3).2.2.1 "ChannelSpacer") := ⟨List.mem_of_getElem? (i := 113) (by decide +kernel), rfl⟩
theorem gf_X5_132 {p : Nat} {fs : List Value} {z : Int32} (v : Int32) (ht : twl[p]? = some (.inr (1, fs))) (hz : fs[3]? = some (.int z)) (hv : mi p 3 = v) (hd : decode cc pc = .ok (.getfield 132, 3))
    (kk : E l RX5 cc nL ret ini hh R w0 Tg k n (pc + 3) lv (.int v :: st) (wl mi ml)) : E l RX5 cc nL ret ini hh R w0 Tg k n pc lv (.ref p :: st) (wl mi ml) :=
  E_getN (ref := RX1) (T := TX1) (N := 15) rfl uX1 (by decide) fl_X5_132 rfl (wl_atO ht) (v := .int v) (by simp [List.getElem?_mapIdx, hz, cellV, hv]) hd kk
theorem pf_X5_132 {p : Nat} {fs : List Value} {z v : Int32} (ht : twl[p]? = some (.inr (1, fs))) (hz : fs[3]? = some (.int z)) (hd : decode cc pc = .ok (.putfield 132, 3))
    (kk : E l RX5 cc nL ret ini hh R w0 Tg k n (pc + 3) lv st (wl (u2 mi p 3 v) ml)) : E l RX5 cc nL ret ini hh R w0 Tg k n pc lv (.int v :: .ref p :: st) (wl mi ml) :=
  E_putN (ref := RX1) (T := TX1) (N := 15) (ty := .int) tyX1 tyX1_ok nmX1 rfl uX1 (by decide) fl_X5_132 rfl rfl (by decide +kernel) (fun _ => rfl) (fun _ => rfl) (wl_atO ht) (by rw [List.length_mapIdx]; exact (List.getElem?_eq_some_iff.mp hz).1) hd (by rw [wl_puti ht hz]; exact kk)
theorem fl_X5_135 : Wd (.fieldLinkNest RX5 135 RX1 (TX1 4).2.1 (TX1 4).2.2.1 "ChannelSpacer") := ⟨List.mem_of_getElem? (i := 116) (by decide +kernel), rfl⟩
theorem gf_X5_135 {p : Nat} {fs : List Value} {z : Int32} (v : Int32) (ht : twl[p]? = some (.inr (1, fs))) (hz : fs[4]? = some (.int z)) (hv : mi p 4 = v) (hd : decode cc pc = .ok (.getfield 135, 3))
    (kk : E l RX5 cc nL ret ini hh R w0 Tg k n (pc + 3) lv (.int v :: st) (wl mi ml)) : E l RX5 cc nL ret ini hh R w0 Tg k n pc lv (.ref p :: st) (wl mi ml) :=
  E_getN (ref := RX1) (T := TX1) (N := 15) rfl uX1 (by decide) fl_X5_135 rfl (wl_atO ht) (v := .int v) (by simp [List.getElem?_mapIdx, hz, cellV, hv]) hd kk
theorem pf_X5_135 {p : Nat} {fs : List Value} {z v : Int32} (ht : twl[p]? = some (.inr (1, fs))) (hz : fs[4]? = some (.int z)) (hd : decode cc pc = .ok (.putfield 135, 3))
    (kk : E l RX5 cc nL ret ini hh R w0 Tg k n (pc + 3) lv st (wl (u2 mi p 4 v) ml)) : E l RX5 cc nL ret ini hh R w0 Tg k n pc lv (.int v :: .ref p :: st) (wl mi ml) :=
  E_putN (ref := RX1) (T := TX1) (N := 15) (ty := .int) tyX1 tyX1_ok nmX1 rfl uX1 (by decide) fl_X5_135 rfl rfl (by decide +kernel) (fun _ => rfl) (fun _ => rfl) (wl_atO ht) (by rw [List.length_mapIdx]; exact (List.getElem?_eq_some_iff.mp hz).1) hd (by rw [wl_puti ht hz]; exact kk)
theorem fl_X5_138 : Wd (.fieldLinkNest RX5 138 RX1 (TX1 8).2.1 (TX1 8).2.2.1 "ChannelSpacer") := ⟨List.mem_of_getElem? (i := 125) (by decide +kernel), rfl⟩
theorem gf_X5_138 {p : Nat} {fs : List Value} {z : Int32} (v : Int32) (ht : twl[p]? = some (.inr (1, fs))) (hz : fs[8]? = some (.int z)) (hv : mi p 8 = v) (hd : decode cc pc = .ok (.getfield 138, 3))
    (kk : E l RX5 cc nL ret ini hh R w0 Tg k n (pc + 3) lv (.int v :: st) (wl mi ml)) : E l RX5 cc nL ret ini hh R w0 Tg k n pc lv (.ref p :: st) (wl mi ml) :=
  E_getN (ref := RX1) (T := TX1) (N := 15) rfl uX1 (by decide) fl_X5_138 rfl (wl_atO ht) (v := .int v) (by simp [List.getElem?_mapIdx, hz, cellV, hv]) hd kk
theorem pf_X5_138 {p : Nat} {fs : List Value} {z v : Int32} (ht : twl[p]? = some (.inr (1, fs))) (hz : fs[8]? = some (.int z)) (hd : decode cc pc = .ok (.putfield 138, 3))
    (kk : E l RX5 cc nL ret ini hh R w0 Tg k n (pc + 3) lv st (wl (u2 mi p 8 v) ml)) : E l RX5 cc nL ret ini hh R w0 Tg k n pc lv (.int v :: .ref p :: st) (wl mi ml) :=
  E_putN (ref := RX1) (T := TX1) (N := 15) (ty := .int) tyX1 tyX1_ok nmX1 rfl uX1 (by decide) fl_X5_138 rfl rfl (by decide +kernel) (fun _ => rfl) (fun _ => rfl) (wl_atO ht) (by rw [List.length_mapIdx]; exact (List.getElem?_eq_some_iff.mp hz).1) hd (by rw [wl_puti ht hz]; exact kk)
theorem fl_X5_154 : Wd (.fieldLinkNest RX5 154 RX3 (TX3 1).2.1 (TX3 1).2.2.1 "ChannelSpacer") := ⟨List.mem_of_getElem? (i := 193) (by decide +kernel), rfl⟩
theorem gf_X5_154 {p : Nat} {fs : List Value} {z : Int32} (v : Int32) (ht : twl[p]? = some (.inr (3, fs))) (hz : fs[1]? = some (.int z)) (hv : mi p 1 = v) (hd : decode cc pc = .ok (.getfield 154, 3))
    (kk : E l RX5 cc nL ret ini hh R w0 Tg k n (pc + 3) lv (.int v :: st) (wl mi ml)) : E l RX5 cc nL ret ini hh R w0 Tg k n pc lv (.ref p :: st) (wl mi ml) :=
  E_getN (ref := RX3) (T := TX3) (N := 2) rfl uX3 (by decide) fl_X5_154 rfl (wl_atO ht) (v := .int v) (by simp [List.getElem?_mapIdx, hz, cellV, hv]) hd kk
theorem pf_X5_154 {p : Nat} {fs : List Value} {z v : Int32} (ht : twl[p]? = some (.inr (3, fs))) (hz : fs[1]? = some (.int z)) (hd : decode cc pc = .ok (.putfield 154, 3))
    (kk : E l RX5 cc nL ret ini hh R w0 Tg k n (pc + 3) lv st (wl (u2 mi p 1 v) ml)) : E l RX5 cc nL ret ini hh R w0 Tg k n pc lv (.int v :: .ref p :: st) (wl mi ml) :=
  E_putN (ref := RX3) (T := TX3) (N := 2) (ty := .int) tyX3 tyX3_ok nmX3 rfl uX3 (by decide) fl_X5_154 rfl rfl (by decide +kernel) (fun _ => rfl) (fun _ => rfl) (wl_atO ht) (by rw [List.length_mapIdx]; exact (List.getElem?_eq_some_iff.mp hz).1) hd (by rw [wl_puti ht hz]; exact kk)
theorem fl_X5_266 : Wd (.fieldLinkNest RX5 266 RX4 (TX4 1).2.1 (TX4 1).2.2.1 "ChannelSpacer") := ⟨List.mem_of_getElem? (i := 246) (by decide +kernel), rfl⟩
theorem gf_X5_266 {p : Nat} {fs : List Value} {z : Int32} (v : Int32) (ht : twl[p]? = some (.inr (4, fs))) (hz : fs[1]? = some (.int z)) (hv : mi p 1 = v) (hd : decode cc pc = .ok (.getfield 266, 3))
    (kk : E l RX5 cc nL ret ini hh R w0 Tg k n (pc + 3) lv (.int v :: st) (wl mi ml)) : E l RX5 cc nL ret ini hh R w0 Tg k n pc lv (.ref p :: st) (wl mi ml) :=
  E_getN (ref := RX4) (T := TX4) (N := 5) rfl uX4 (by decide) fl_X5_266 rfl (wl_atO ht) (v := .int v) (by simp [List.getElem?_mapIdx, hz, cellV, hv]) hd kk
theorem pf_X5_266 {p : Nat} {fs : List Value} {z v : Int32} (ht : twl[p]? = some (.inr (4, fs))) (hz : fs[1]? = some (.int z)) (hd : decode cc pc = .ok (.putfield 266, 3))
    (kk : E l RX5 cc nL ret ini hh R w0 Tg k n (pc + 3) lv st (wl (u2 mi p 1 v) ml)) : E l RX5 cc nL ret ini hh R w0 Tg k n pc lv (.int v :: .ref p :: st) (wl mi ml) :=
  E_putN (ref := RX4) (T := TX4) (N := 5) (ty := .int) tyX4 tyX4_ok nmX4 rfl uX4 (by decide) fl_X5_266 rfl rfl (by decide +kernel) (fun _ => rfl) (fun _ => rfl) (wl_atO ht) (by rw [List.length_mapIdx]; exact (List.getElem?_eq_some_iff.mp hz).1) hd (by rw [wl_puti ht hz]; exact kk)
theorem fl_X5_284 : Wd (.fieldLinkNest RX5 284 RX2 (TX2 2).2.1 (TX2 2).2.2.1 "ChannelSpacer") := ⟨List.mem_of_getElem? (i := 177) (by decide +kernel), rfl⟩
theorem gf_X5_284 {p : Nat} {fs : List Value} {z : Int32} (v : Int32) (ht : twl[p]? = some (.inr (2, fs))) (hz : fs[2]? = some (.int z)) (hv : mi p 2 = v) (hd : decode cc pc = .ok (.getfield 284, 3))
    (kk : E l RX5 cc nL ret ini hh R w0 Tg k n (pc + 3) lv (.int v :: st) (wl mi ml)) : E l RX5 cc nL ret ini hh R w0 Tg k n pc lv (.ref p :: st) (wl mi ml) :=
  E_getN (ref := RX2) (T := TX2) (N := 3) rfl uX2 (by decide) fl_X5_284 rfl (wl_atO ht) (v := .int v) (by simp [List.getElem?_mapIdx, hz, cellV, hv]) hd kk
theorem pf_X5_284 {p : Nat} {fs : List Value} {z v : Int32} (ht : twl[p]? = some (.inr (2, fs))) (hz : fs[2]? = some (.int z)) (hd : decode cc pc = .ok (.putfield 284, 3))
    (kk : E l RX5 cc nL ret ini hh R w0 Tg k n (pc + 3) lv st (wl (u2 mi p 2 v) ml)) : E l RX5 cc nL ret ini hh R w0 Tg k n pc lv (.int v :: .ref p :: st) (wl mi ml) :=
  E_putN (ref := RX2) (T := TX2) (N := 3) (ty := .int) tyX2 tyX2_ok nmX2 rfl uX2 (by decide) fl_X5_284 rfl rfl (by decide +kernel) (fun _ => rfl) (fun _ => rfl) (wl_atO ht) (by rw [List.length_mapIdx]; exact (List.getElem?_eq_some_iff.mp hz).1) hd (by rw [wl_puti ht hz]; exact kk)
theorem fl_X5_345 : Wd (.fieldLinkNest RX5 345 RX0 (TX0 9).2.1 (TX0 9).2.2.1 "ChannelSpacer") := ⟨List.mem_of_getElem? (i := 215) (by decide +kernel), rfl⟩
theorem gf_X5_345 {p : Nat} {fs : List Value} {z : Int32} (v : Int32) (ht : twl[p]? = some (.inr (0, fs))) (hz : fs[9]? = some (.int z)) (hv : mi p 9 = v) (hd : decode cc pc = .ok (.getfield 345, 3))
    (kk : E l RX5 cc nL ret ini hh R w0 Tg k n (pc + 3) lv (.int v :: st) (wl mi ml)) : E l RX5 cc nL ret ini hh R w0 Tg k n pc lv (.ref p :: st) (wl mi ml) :=
  E_getN (ref := RX0) (T := TX0) (N := 10) rfl uX0 (by decide) fl_X5_345 rfl (wl_atO ht) (v := .int v) (by simp [List.getElem?_mapIdx, hz, cellV, hv]) hd kk
theorem pf_X5_345 {p : Nat} {fs : List Value} {z v : Int32} (ht : twl[p]? = some (.inr (0, fs))) (hz : fs[9]? = some (.int z)) (hd : decode cc pc = .ok (.putfield 345, 3))
    (kk : E l RX5 cc nL ret ini hh R w0 Tg k n (pc + 3) lv st (wl (u2 mi p 9 v) ml)) : E l RX5 cc nL ret ini hh R w0 Tg k n pc lv (.int v :: .ref p :: st) (wl mi ml) :=
  E_putN (ref := RX0) (T := TX0) (N := 10) (ty := .int) tyX0 tyX0_ok nmX0 rfl uX0 (by decide) fl_X5_345 rfl rfl (by decide +kernel) (fun _ => rfl) (fun _ => rfl) (wl_atO ht) (by rw [List.length_mapIdx]; exact (List.getElem?_eq_some_iff.mp hz).1) hd (by rw [wl_puti ht hz]; exact kk)
theorem fl_X0_11 : Wd (.fieldLink RX0 11 RX0 (TX0 0).2.1 (TX0 0).2.2.1) := ⟨List.mem_of_getElem? (i := 205) (by decide +kernel), rfl⟩
theorem gf_X0_11 {p q : Nat} {fs : List Value} (ht : twl[p]? = some (.inr (0, fs))) (hz : fs[0]? = some (.ref q)) (hd : decode cc pc = .ok (.getfield 11, 3))
    (kk : E l RX0 cc nL ret ini hh R w0 Tg k n (pc + 3) lv (.ref q :: st) (wl mi ml)) : E l RX0 cc nL ret ini hh R w0 Tg k n pc lv (.ref p :: st) (wl mi ml) :=
  E_get (ref := RX0) (T := TX0) (N := 10) rfl uX0 (by decide) fl_X0_11 rfl (wl_atO ht) (v := .ref q) (by simp [List.getElem?_mapIdx, hz, cellV]) hd kk
theorem fl_X0_15 : Wd (.fieldLink RX0 15 RX0 (TX0 1).2.1 (TX0 1).2.2.1) := ⟨List.mem_of_getElem? (i := 206) (by decide +kernel), rfl⟩
theorem gf_X0_15 {p q : Nat} {fs : List Value} (ht : twl[p]? = some (.inr (0, fs))) (hz : fs[1]? = some (.ref q)) (hd : decode cc pc = .ok (.getfield 15, 3))
    (kk : E l RX0 cc nL ret ini hh R w0 Tg k n (pc + 3) lv (.ref q :: st) (wl mi ml)) : E l RX0 cc nL ret ini hh R w0 Tg k n pc lv (.ref p :: st) (wl mi ml) :=
  E_get (ref := RX0) (T := TX0) (N := 10) rfl uX0 (by decide) fl_X0_15 rfl (wl_atO ht) (v := .ref q) (by simp [List.getElem?_mapIdx, hz, cellV]) hd kk
theorem fl_X0_18 : Wd (.fieldLink RX0 18 RX0 (TX0 2).2.1 (TX0 2).2.2.1) := ⟨List.mem_of_getElem? (i := 207) (by decide +kernel), rfl⟩
theorem gf_X0_18 {p q : Nat} {fs : List Value} (ht : twl[p]? = some (.inr (0, fs))) (hz : fs[2]? = some (.ref q)) (hd : decode cc pc = .ok (.getfield 18, 3))
    (kk : E l RX0 cc nL ret ini hh R w0 Tg k n (pc + 3) lv (.ref q :: st) (wl mi ml)) : E l RX0 cc nL ret ini hh R w0 Tg k n pc lv (.ref p :: st) (wl mi ml) :=
  E_get (ref := RX0) (T := TX0) (N := 10) rfl uX0 (by decide) fl_X0_18 rfl (wl_atO ht) (v := .ref q) (by simp [List.getElem?_mapIdx, hz, cellV]) hd kk
theorem fl_X0_22 : Wd (.fieldLink RX0 22 RX0 (TX0 3).2.1 (TX0 3).2.2.1) := ⟨List.mem_of_getElem? (i := 208) (by decide +kernel), rfl⟩
theorem gf_X0_22 {p q : Nat} {fs : List Value} (ht : twl[p]? = some (.inr (0, fs))) (hz : fs[3]? = some (.ref q)) (hd : decode cc pc = .ok (.getfield 22, 3))
    (kk : E l RX0 cc nL ret ini hh R w0 Tg k n (pc + 3) lv (.ref q :: st) (wl mi ml)) : E l RX0 cc nL ret ini hh R w0 Tg k n pc lv (.ref p :: st) (wl mi ml) :=
  E_get (ref := RX0) (T := TX0) (N := 10) rfl uX0 (by decide) fl_X0_22 rfl (wl_atO ht) (v := .ref q) (by simp [List.getElem?_mapIdx, hz, cellV]) hd kk
theorem fl_X0_25 : Wd (.fieldLink RX0 25 RX0 (TX0 4).2.1 (TX0 4).2.2.1) := ⟨List.mem_of_getElem? (i := 209) (by decide +kernel), rfl⟩
theorem gf_X0_25 {p : Nat} {fs : List Value} {z : Int32} (v : Int32) (ht : twl[p]? = some (.inr (0, fs))) (hz : fs[4]? = some (.int z)) (hv : mi p 4 = v) (hd : decode cc pc = .ok (.getfield 25, 3))
    (kk : E l RX0 cc nL ret ini hh R w0 Tg k n (pc + 3) lv (.int v :: st) (wl mi ml)) : E l RX0 cc nL ret ini hh R w0 Tg k n pc lv (.ref p :: st) (wl mi ml) :=
  E_get (ref := RX0) (T := TX0) (N := 10) rfl uX0 (by decide) fl_X0_25 rfl (wl_atO ht) (v := .int v) (by simp [List.getElem?_mapIdx, hz, cellV, hv]) hd kk
theorem pf_X0_25 {p : Nat} {fs : List Value} {z v : Int32} (ht : twl[p]? = some (.inr (0, fs))) (hz : fs[4]? = some (.int z)) (hd : decode cc pc = .ok (.putfield 25, 3))
    (kk : E l RX0 cc nL ret ini hh R w0 Tg k n (pc + 3) lv st (wl (u2 mi p 4 v) ml)) : E l RX0 cc nL ret ini hh R w0 Tg k n pc lv (.int v :: .ref p :: st) (wl mi ml) :=
  E_put (ref := RX0) (T := TX0) (N := 10) (ty := .int) tyX0 tyX0_ok nmX0 rfl uX0 (by decide) fl_X0_25 rfl rfl (by decide +kernel) (fun _ => rfl) (fun _ => rfl) (wl_atO ht) (by rw [List.length_mapIdx]; exact (List.getElem?_eq_some_iff.mp hz).1) hd (by rw [wl_puti ht hz]; exact kk)
theorem fl_X0_29 : Wd (.fieldLinkNest RX0 29 RX1 (TX1 0).2.1 (TX1 0).2.2.1 "ChannelSpacer") := ⟨List.mem_of_getElem? (i := 101) (by decide +kernel), rfl⟩
theorem gf_X0_29 {p : Nat} {fs : List Value} {z : Int32} (v : Int32) (ht : twl[p]? = some (.inr (1, fs))) (hz : fs[0]? = some (.int z)) (hv : mi p 0 = v) (hd : decode cc pc = .ok (.getfield 29, 3))
    (kk : E l RX0 cc nL ret ini hh R w0 Tg k n (pc + 3) lv (.int v :: st) (wl mi ml)) : E l RX0 cc nL ret ini hh R w0 Tg k n pc lv (.ref p :: st) (wl mi ml) :=
  E_getN (ref := RX1) (T := TX1) (N := 15) rfl uX1 (by decide) fl_X0_29 rfl (wl_atO ht) (v := .int v) (by simp [List.getElem?_mapIdx, hz, cellV, hv]) hd kk
theorem pf_X0_29 {p : Nat} {fs : List Value} {z v : Int32} (ht : twl[p]? = some (.inr (1, fs))) (hz : fs[0]? = some (.int z)) (hd : decode cc pc = .ok (.putfield 29, 3))
    (kk : E l RX0 cc nL ret ini hh R w0 Tg k n (pc + 3) lv st (wl (u2 mi p 0 v) ml)) : E l RX0 cc nL ret ini hh R w0 Tg k n pc lv (.int v :: .ref p :: st) (wl mi ml) :=
  E_putN (ref := RX1) (T := TX1) (N := 15) (ty := .int) tyX1 tyX1_ok nmX1 rfl uX1 (by decide) fl_X0_29 rfl rfl (by decide +kernel) (fun _ => rfl) (fun _ => rfl) (wl_atO ht) (by rw [List.length_mapIdx]; exact (List.getElem?_eq_some_iff.mp hz).1) hd (by rw [wl_puti ht hz]; exact kk)
theorem fl_X0_34 : Wd (.fieldLink RX0 34 RX0 (TX0 5).2.1 (TX0 5).2.2.1) := ⟨List.mem_of_getElem? (i := 210) (by decide +kernel), rfl⟩
theorem gf_X0_34 {p : Nat} {fs : List Value} {z : Int32} (v : Int32) (ht : twl[p]? = some (.inr (0, fs))) (hz : fs[5]? = some (.int z)) (hv : mi p 5 = v) (hd : decode cc pc = .ok (.getfield 34, 3))
    (kk : E l RX0 cc nL ret ini hh R w0 Tg k n (pc + 3) lv (.int v :: st) (wl mi ml)) : E l RX0 cc nL ret ini hh R w0 Tg k n pc lv (.ref p :: st) (wl mi ml) :=
  E_get (ref := RX0) (T := TX0) (N := 10) rfl uX0 (by decide) fl_X0_34 rfl (wl_atO ht) (v := .int v) (by simp [List.getElem?_mapIdx, hz, cellV, hv]) hd kk
theorem pf_X0_34 {p : Nat} {fs : List Value} {z v : Int32} (ht : twl[p]? = some (.inr (0, fs))) (hz : fs[5]? = some (.int z)) (hd : decode cc pc = .ok (.putfield 34, 3))
    (kk : E l RX0 cc nL ret ini hh R w0 Tg k n (pc + 3) lv st (wl (u2 mi p 5 v) ml)) : E l RX0 cc nL ret ini hh R w0 Tg k n pc lv (.int v :: .ref p :: st) (wl mi ml) :=
  E_put (ref := RX0) (T := TX0) (N := 10) (ty := .int) tyX0 tyX0_ok nmX0 rfl uX0 (by decide) fl_X0_34 rfl rfl (by decide +kernel) (fun _ => rfl) (fun _ => rfl) (wl_atO ht) (by rw [List.length_mapIdx]; exact (List.getElem?_eq_some_iff.mp hz).1) hd (by rw [wl_puti ht hz]; exact kk)
theorem fl_X0_35 : Wd (.fieldLinkNest RX0 35 RX1 (TX1 1).2.1 (TX1 1).2.2.1 "ChannelSpacer") := ⟨List.mem_of_getElem? (i := 104) (by decide +kernel), rfl⟩
theorem gf_X0_35 {p : Nat} {fs : List Value} {z : Int32} (v : Int32) (ht : twl[p]? = some (.inr (1, fs))) (hz : fs[1]? = some (.int z)) (hv : mi p 1 = v) (hd : decode cc pc = .ok (.getfield 35, 3))
    (kk : E l RX0 cc nL ret ini hh R w0 Tg k n (pc + 3) lv (.int v :: st) (wl mi ml)) : E l RX0 cc nL ret ini hh R w0 Tg k n pc lv (.ref p :: st) (wl mi ml) :=
  E_getN (ref := RX1) (T := TX1) (N := 15) rfl uX1 (by decide) fl_X0_35 rfl (wl_atO ht) (v := .int v) (by simp [List.getElem?_mapIdx, hz, cellV, hv]) hd kk
theorem pf_X0_35 {p : Nat} {fs : List Value} {z v : Int32} (ht : twl[p]? = some (.inr (1, fs))) (hz : fs[1]? = some (.int z)) (hd : decode cc pc = .ok (.putfield 35, 3))
    (kk : E l RX0 cc nL ret ini hh R w0 Tg k n (pc + 3) lv st (wl (u2 mi p 1 v) ml)) : E l RX0 cc nL ret ini hh R w0 Tg k n pc lv (.int v :: .ref p :: st) (wl mi ml) :=
  E_putN (ref := RX1) (T := TX1) (N := 15) (ty := .int) tyX1 tyX1_ok nmX1 rfl uX1 (by decide) fl_X0_35 rfl rfl (by decide +kernel) (fun _ => rfl) (fun _ => rfl) (wl_atO ht) (by rw [List.length_mapIdx]; exact (List.getElem?_eq_some_iff.mp hz).1) hd (by rw [wl_puti ht hz]; exact kk)
theorem fl_X0_38 : Wd (.fieldLink RX0 38 RX0 (TX0 6).2.1 (TX0 6).2.2.1) := ⟨List.mem_of_getElem? (i := 211) (by decide +kernel), rfl⟩
theorem gf_X0_38 {p : Nat} {fs : List Value} {z : Int32} (v : Int32) (ht : twl[p]? = some (.inr (0, fs))) (hz : fs[6]? = some (.int z)) (hv : mi p 6 = v) (hd : decode cc pc = .ok (.getfield 38, 3))
    (kk : E l RX0 cc nL ret ini hh R w0 Tg k n (pc + 3) lv (.int v :: st) (wl mi ml)) : E l RX0 cc nL ret ini hh R w0 Tg k n pc lv (.ref p :: st) (wl mi ml) :=
  E_get (ref := RX0) (T := TX0) (N := 10) rfl uX0 (by decide) fl_X0_38 rfl (wl_atO ht) (v := .int v) (by simp [List.getElem?_mapIdx, hz, cellV, hv]) hd kk
theorem pf_X0_38 {p : Nat} {fs : List Value} {z v : Int32} (ht : twl[p]? = some (.inr (0, fs))) (hz : fs[6]? = some (.int z)) (hd : decode cc pc = .ok (.putfield 38, 3))
    (kk : E l RX0 cc nL ret ini hh R w0 Tg k n (pc + 3) lv st (wl (u2 mi p 6 v) ml)) : E l RX0 cc nL ret ini hh R w0 Tg k n pc lv (.int v :: .ref p :: st) (wl mi ml) :=
  E_put (ref := RX0) (T := TX0) (N := 10) (ty := .int) tyX0 tyX0_ok nmX0 rfl uX0 (by decide) fl_X0_38 rfl rfl (by decide +kernel) (fun _ => rfl) (fun _ => rfl) (wl_atO ht) (by rw [List.length_mapIdx]; exact (List.getElem?_eq_some_iff.mp hz).1) hd (by rw [wl_puti ht hz]; exact kk)
theorem fl_X0_39 : Wd (.fieldLinkNest RX0 39 RX1 (TX1 2).2.1 (TX1 2).2.2.1 "ChannelSpacer") := ⟨List.mem_of_getElem? (i := 108) (by decide +kernel), rfl⟩
theorem gf_X0_39 {p : Nat} {fs : List Value} {z : Int32} (v : Int32) (ht : twl[p]? = some (.inr (1, fs))) (hz : fs[2]? = some (.int z)) (hv : mi p 2 = v) (hd : decode cc pc = .ok (.getfield 39, 3))
    (kk : E l RX0 cc nL ret ini hh R w0 Tg k n (pc + 3) lv (.int v :: st) (wl mi ml)) : E l RX0 cc nL ret ini hh R w0 Tg k n pc lv (.ref p :: st) (wl mi ml) :=
  E_getN (ref := RX1) (T := TX1) (N := 15) rfl uX1 (by decide) fl_X0_39 rfl (wl_atO ht) (v := .int v) (by simp [List.getElem?_mapIdx, hz, cellV, hv]) hd kk
theorem pf_X0_39 {p : Nat} {fs : List Value} {z v : Int32} (ht : twl[p]? = some (.inr (1, fs))) (hz : fs[2]? = some (.int z)) (hd : decode cc pc = .ok (.putfield 39, 3))
    (kk : E l RX0 cc nL ret ini hh R w0 Tg k n (pc + 3) lv st (wl (u2 mi p 2 v) ml)) : E l RX0 cc nL ret ini hh R w0 Tg k n pc lv (.int v :: .ref p :: st) (wl mi ml) :=
  E_putN (ref := RX1) (T := TX1) (N := 15) (ty := .int) tyX1 tyX1_ok nmX1 rfl uX1 (by decide) fl_X0_39 rfl rfl (by decide +kernel) (fun _ => rfl) (fun _ => rfl) (wl_atO ht) (by rw [List.length_mapIdx]; exact (List.getElem?_eq_some_iff.mp hz).1) hd (by rw [wl_puti ht hz]; exact kk)
theorem fl_X0_42 : Wd (.fieldLink RX0 42 RX0 (TX0 7).2.1 (TX0 7).2.2.1) := ⟨List.mem_of_getElem? (i := 212) (by decide +kernel), rfl⟩
theorem gf_X0_42 {p : Nat} {fs : List Value} {z : Int32} (v : Int32) (ht : twl[p]? = some (.inr (0, fs))) (hz : fs[7]? = some (.int z)) (hv : mi p 7 = v) (hd : decode cc pc = .ok (.getfield 42, 3))
    (kk : E l RX0 cc nL ret ini hh R w0 Tg k n (pc + 3) lv (.int v :: st) (wl mi ml)) : E l RX0 cc nL ret ini hh R w0 Tg k n pc lv (.ref p :: st) (wl mi ml) :=
  E_get (ref := RX0) (T := TX0) (N := 10) rfl uX0 (by decide) fl_X0_42 rfl (wl_atO ht) (v := .int v) (by simp [List.getElem?_mapIdx, hz, cellV, hv]) hd kk
theorem pf_X0_42 {p : Nat} {fs : List Value} {z v : Int32} (ht : twl[p]? = some (.inr (0, fs))) (hz : fs[7]? = some (.int z)) (hd : decode cc pc = .ok (.putfield 42, 3))
    (kk : E l RX0 cc nL ret ini hh R w0 Tg k n (pc + 3) lv st (wl (u2 mi p 7 v) ml)) : E l RX0 cc nL ret ini hh R w0 Tg k n pc lv (.int v :: .ref p :: st) (wl mi ml) :=
  E_put (ref := RX0) (T := TX0) (N := 10) (ty := .int) tyX0 tyX0_ok nmX0 rfl uX0 (by decide) fl_X0_42 rfl rfl (by decide +kernel) (fun _ => rfl) (fun _ => rfl) (wl_atO ht) (by rw [List.length_mapIdx]; exact (List.getElem?_eq_some_iff.mp hz).1) hd (by rw [wl_puti ht hz]; exact kk)
theorem fl_X0_43 : Wd (.fieldLinkNest RX0 43 RX1 (TX1 3).2.1 (TX1 3).2.2.1 "ChannelSpacer") := ⟨List.mem_of_getElem? (i := 112) (by decide +kernel), rfl⟩
theorem gf_X0_43 {p : Nat} {fs : List Value} {z : Int32} (v : Int32) (ht : twl[p]? = some (.inr (1, fs))) (hz : fs[3]? = some (.int z)) (hv : mi p 3 = v) (hd : decode cc pc = .ok (.getfield 43, 3))
    (kk : E l RX0 cc nL ret ini hh R w0 Tg k n (pc + 3) lv (.int v :: st) (wl mi ml)) : E l RX0 cc nL ret ini hh R w0 Tg k n pc lv (.ref p :: st) (wl mi ml) :=
  E_getN (ref := RX1) (T := TX1) (N := 15) rfl uX1 (by decide) fl_X0_43 rfl (wl_atO ht) (v := .int v) (by simp [List.getElem?_mapIdx, hz, cellV, hv]) hd kk
theorem pf_X0_43 {p : Nat} {fs : List Value} {z v : Int32} (ht : twl[p]? = some (.inr (1, fs))) (hz : fs[3]? = some (.int z)) (hd : decode cc pc = .ok (.putfield 43, 3))
    (kk : E l RX0 cc nL ret ini hh R w0 Tg k n (pc + 3) lv st (wl (u2 mi p 3 v) ml)) : E l RX0 cc nL ret ini hh R w0 Tg k n pc lv (.int v :: .ref p :: st) (wl mi ml) :=
  E_putN (ref := RX1) (T := TX1) (N := 15) (ty := .int) tyX1 tyX1_ok nmX1 rfl uX1 (by decide) fl_X0_43 rfl rfl (by decide +kernel) (fun _ => rfl) (fun _ => rfl) (wl_atO ht) (by rw [List.length_mapIdx]; exact (List.getElem?_eq_some_iff.mp hz).1) hd (by rw [wl_puti ht hz]; exact kk)
theorem fl_X0_46 : Wd (.fieldLink RX0 46 RX0 (TX0 8).2.1 (TX0 8).2.2.1) := ⟨List.mem_of_getElem? (i := 213) (by decide +kernel), rfl⟩
theorem gf_X0_46 {p : Nat} {fs : List Value} {z : Int32} (v : Int32) (ht : twl[p]? = some (.inr (0, fs))) (hz : fs[8]? = some (.int z)) (hv : mi p 8 = v) (hd : decode cc pc = .ok (.getfield 46, 3))
    (kk : E l RX0 cc nL ret ini hh R w0 Tg k n (pc + 3) lv (.int v :: st) (wl mi ml)) : E l RX0 cc nL ret ini hh R w0 Tg k n pc lv (.ref p :: st) (wl mi ml) :=
  E_get (ref := RX0) (T := TX0) (N := 10) rfl uX0 (by decide) fl_X0_46 rfl (wl_atO ht) (v := .int v) (by simp [List.getElem?_mapIdx, hz, cellV, hv]) hd kk
theorem pf_X0_46 {p : Nat} {fs : List Value} {z v : Int32} (ht : twl[p]? = some (.inr (0, fs))) (hz : fs[8]? = some (.int z)) (hd : decode cc pc = .ok (.putfield 46, 3))
    (kk : E l RX0 cc nL ret ini hh R w0 Tg k n (pc + 3) lv st (wl (u2 mi p 8 v) ml)) : E l RX0 cc nL ret ini hh R w0 Tg k n pc lv (.int v :: .ref p :: st) (wl mi ml) :=
  E_put (ref := RX0) (T := TX0) (N := 10) (ty := .int) tyX0 tyX0_ok nmX0 rfl uX0 (by decide) fl_X0_46 rfl rfl (by decide +kernel) (fun _ => rfl) (fun _ => rfl) (wl_atO ht) (by rw [List.length_mapIdx]; exact (List.getElem?_eq_some_iff.mp hz).1) hd (by rw [wl_puti ht hz]; exact kk)
theorem fl_X0_47 : Wd (.fieldLinkNest RX0 47 RX1 (TX1 4).2.1 (TX1 4).2.2.1 "ChannelSpacer") := ⟨List.mem_of_getElem? (i := 115) (by decide +kernel), rfl⟩
theorem gf_X0_47 {p : Nat} {fs : List Value} {z : Int32} (v : Int32) (ht : twl[p]? = some (.inr (1, fs))) (hz : fs[4]? = some (.int z)) (hv : mi p 4 = v) (hd : decode cc pc = .ok (.getfield 47, 3))
    (kk : E l RX0 cc nL ret ini hh R w0 Tg k n (pc + 3) lv (.int v :: st) (wl mi ml)) : E l RX0 cc nL ret ini hh R w0 Tg k n pc lv (.ref p :: st) (wl mi ml) :=
  E_getN (ref := RX1) (T := TX1) (N := 15) rfl uX1 (by decide) fl_X0_47 rfl (wl_atO ht) (v := .int v) (by simp [List.getElem?_mapIdx, hz, cellV, hv]) hd kk
theorem pf_X0_47 {p : Nat} {fs : List Value} {z v : Int32} (ht : twl[p]? = some (.inr (1, fs))) (hz : fs[4]? = some (.int z)) (hd : decode cc pc = .ok (.putfield 47, 3))
    (kk : E l RX0 cc nL ret ini hh R w0 Tg k n (pc + 3) lv st (wl (u2 mi p 4 v) ml)) : E l RX0 cc nL ret ini hh R w0 Tg k n pc lv (.int v :: .ref p :: st) (wl mi ml) :=
  E_putN (ref := RX1) (T := TX1) (N := 15) (ty := .int) tyX1 tyX1_ok nmX1 rfl uX1 (by decide) fl_X0_47 rfl rfl (by decide +kernel) (fun _ => rfl) (fun _ => rfl) (wl_atO ht) (by rw [List.length_mapIdx]; exact (List.getElem?_eq_some_iff.mp hz).1) hd (by rw [wl_puti ht hz]; exact kk)
theorem fl_X0_50 : Wd (.fieldLink RX0 50 RX0 (TX0 9).2.1 (TX0 9).2.2.1) := ⟨List.mem_of_getElem? (i := 214) (by decide +kernel), rfl⟩
theorem gf_X0_50 {p : Nat} {fs : List Value} {z : Int32} (v : Int32) (ht : twl[p]? = some (.inr (0, fs))) (hz : fs[9]? = some (.int z)) (hv : mi p 9 = v) (hd : decode cc pc = .ok (.getfield 50, 3))
    (kk : E l RX0 cc nL ret ini hh R w0 Tg k n (pc + 3) lv (.int v :: st) (wl mi ml)) : E l RX0 cc nL ret ini hh R w0 Tg k n pc lv (.ref p :: st) (wl mi ml) :=
  E_get (ref := RX0) (T := TX0) (N := 10) rfl uX0 (by decide) fl_X0_50 rfl (wl_atO ht) (v := .int v) (by simp [List.getElem?_mapIdx, hz, cellV, hv]) hd kk
theorem pf_X0_50 {p : Nat} {fs : List Value} {z v : Int32} (ht : twl[p]? = some (.inr (0, fs))) (hz : fs[9]? = some (.int z)) (hd : decode cc pc = .ok (.putfield 50, 3))
    (kk : E l RX0 cc nL ret ini hh R w0 Tg k n (pc + 3) lv st (wl (u2 mi p 9 v) ml)) : E l RX0 cc nL ret ini hh R w0 Tg k n pc lv (.int v :: .ref p :: st) (wl mi ml) :=
  E_put (ref := RX0) (T := TX0) (N := 10) (ty := .int) tyX0 tyX0_ok nmX0 rfl uX0 (by decide) fl_X0_50 rfl rfl (by decide +kernel) (fun _ => rfl) (fun _ => rfl) (wl_atO ht) (by rw [List.length_mapIdx]; exact (List.getElem?_eq_some_iff.mp hz).1) hd (by rw [wl_puti ht hz]; exact kk)
theorem fl_X1_9 : Wd (.fieldLink RX1 9 RX1 (TX1 0).2.1 (TX1 0).2.2.1) := ⟨List.mem_of_getElem? (i := 99) (by decide +kernel), rfl⟩
theorem gf_X1_9 {p : Nat} {fs : List Value} {z : Int32} (v : Int32) (ht : twl[p]? = some (.inr (1, fs))) (hz : fs[0]? = some (.int z)) (hv : mi p 0 = v) (hd : decode cc pc = .ok (.getfield 9, 3))
    (kk : E l RX1 cc nL ret ini hh R w0 Tg k n (pc + 3) lv (.int v :: st) (wl mi ml)) : E l RX1 cc nL ret ini hh R w0 Tg k n pc lv (.ref p :: st) (wl mi ml) :=
  E_get (ref := RX1) (T := TX1) (N := 15) rfl uX1 (by decide) fl_X1_9 rfl (wl_atO ht) (v := .int v) (by simp [List.getElem?_mapIdx, hz, cellV, hv]) hd kk
theorem pf_X1_9 {p : Nat} {fs : List Value} {z v : Int32} (ht : twl[p]? = some (.inr (1, fs))) (hz : fs[0]? = some (.int z)) (hd : decode cc pc = .ok (.putfield 9, 3))
    (kk : E l RX1 cc nL ret ini hh R w0 Tg k n (pc + 3) lv st (wl (u2 mi p 0 v) ml)) : E l RX1 cc nL ret ini hh R w0 Tg k n pc lv (.int v :: .ref p :: st) (wl mi ml) :=
  E_put (ref := RX1) (T := TX1) (N := 15) (ty := .int) tyX1 tyX1_ok nmX1 rfl uX1 (by decide) fl_X1_9 rfl rfl (by decide +kernel) (fun _ => rfl) (fun _ => rfl) (wl_atO ht) (by rw [List.length_mapIdx]; exact (List.getElem?_eq_some_iff.mp hz).1) hd (by rw [wl_puti ht hz]; exact kk)
theorem fl_X1_15 : Wd (.fieldLink RX1 15 RX1 (TX1 1).2.1 (TX1 1).2.2.1) := ⟨List.mem_of_getElem? (i := 103) (by decide +kernel), rfl⟩
theorem gf_X1_15 {p : Nat} {fs : List Value} {z : Int32} (v : Int32) (ht : twl[p]? = some (.inr (1, fs))) (hz : fs[1]? = some (.int z)) (hv : mi p 1 = v) (hd : decode cc pc = .ok (.getfield 15, 3))
    (kk : E l RX1 cc nL ret ini hh R w0 Tg k n (pc + 3) lv (.int v :: st) (wl mi ml)) : E l RX1 cc nL ret ini hh R w0 Tg k n pc lv (.ref p :: st) (wl mi ml) :=
  E_get (ref := RX1) (T := TX1) (N := 15) rfl uX1 (by decide) fl_X1_15 rfl (wl_atO ht) (v := .int v) (by simp [List.getElem?_mapIdx, hz, cellV, hv]) hd kk
theorem pf_X1_15 {p : Nat} {fs : List Value} {z v : Int32} (ht : twl[p]? = some (.inr (1, fs))) (hz : fs[1]? = some (.int z)) (hd : decode cc pc = .ok (.putfield 15, 3))
    (kk : E l RX1 cc nL ret ini hh R w0 Tg k n (pc + 3) lv st (wl (u2 mi p 1 v) ml)) : E l RX1 cc nL ret ini hh R w0 Tg k n pc lv (.int v :: .ref p :: st) (wl mi ml) :=
  E_put (ref := RX1) (T := TX1) (N := 15) (ty := .int) tyX1 tyX1_ok nmX1 rfl uX1 (by decide) fl_X1_15 rfl rfl (by decide +kernel) (fun _ => rfl) (fun _ => rfl) (wl_atO ht) (by rw [List.length_mapIdx]; exact (List.getElem?_eq_some_iff.mp hz).1) hd (by rw [wl_puti ht hz]; exact kk)
theorem fl_X1_18 : Wd (.fieldLink RX1 18 RX1 (TX1 2).2.1 (TX1 2).2.2.1) := ⟨List.mem_of_getElem? (i := 107) (by decide +kernel), rfl⟩
theorem gf_X1_18 {p : Nat} {fs : List Value} {z : Int32} (v : Int32) (ht : twl[p]? = some (.inr (1, fs))) (hz : fs[2]? = some (.int z)) (hv : mi p 2 = v) (hd : decode cc pc = .ok (.getfield 18, 3))
    (kk : E l RX1 cc nL ret ini hh R w0 Tg k n (pc + 3) lv (.int v :: st) (wl mi ml)) : E l RX1 cc nL ret ini hh R w0 Tg k n pc lv (.ref p :: st) (wl mi ml) :=
  E_get (ref := RX1) (T := TX1) (N := 15) rfl uX1 (by decide) fl_X1_18 rfl (wl_atO ht) (v := .int v) (by simp [List.getElem?_mapIdx, hz, cellV, hv]) hd kk
theorem pf_X1_18 {p : Nat} {fs : List Value} {z v : Int32} (ht : twl[p]? = some (.inr (1, fs))) (hz : fs[2]? = some (.int z)) (hd : decode cc pc = .ok (.putfield 18, 3))
    (kk : E l RX1 cc nL ret ini hh R w0 Tg k n (pc + 3) lv st (wl (u2 mi p 2 v) ml)) : E l RX1 cc nL ret ini hh R w0 Tg k n pc lv (.int v :: .ref p :: st) (wl mi ml) :=
  E_put (ref := RX1) (T := TX1) (N := 15) (ty := .int) tyX1 tyX1_ok nmX1 rfl uX1 (by decide) fl_X1_18 rfl rfl (by decide +kernel) (fun _ => rfl) (fun _ => rfl) (wl_atO ht) (by rw [List.length_mapIdx]; exact (List.getElem?_eq_some_iff.mp hz).1) hd (by rw [wl_puti ht hz]; exact kk)
theorem fl_X1_21 : Wd (.fieldLink RX1 21 RX1 (TX1 3).2.1 (TX1 3).2.2.1) := ⟨List.mem_of_getElem? (i := 111) (by decide +kernel), rfl⟩
theorem gf_X1_21 {p : Nat} {fs : List Value} {z : Int32} (v : Int32) (ht : twl[p]? = some (.inr (1, fs))) (hz : fs[3]? = some (.int z)) (hv : mi p 3 = v) (hd : decode cc pc = .ok (.getfield 21, 3))
    (kk : E l RX1 cc nL ret ini hh R w0 Tg k n (pc + 3) lv (.int v :: st) (wl mi ml)) : E l RX1 cc nL ret ini hh R w0 Tg k n pc lv (.ref p :: st) (wl mi ml) :=
  E_get (ref := RX1) (T := TX1) (N := 15) rfl uX1 (by decide) fl_X1_21 rfl (wl_atO ht) (v := .int v) (by simp [List.getElem?_mapIdx, hz, cellV, hv]) hd kk
theorem pf_X1_21 {p : Nat} {fs : List Value} {z v : Int32} (ht : twl[p]? = some (.inr (1, fs))) (hz : fs[3]? = some (.int z)) (hd : decode cc pc = .ok (.putfield 21, 3))
    (kk : E l RX1 cc nL ret ini hh R w0 Tg k n (pc + 3) lv st (wl (u2 mi p 3 v) ml)) : E l RX1 cc nL ret ini hh R w0 Tg k n pc lv (.int v :: .ref p :: st) (wl mi ml) :=
  E_put (ref := RX1) (T := TX1) (N := 15) (ty := .int) tyX1 tyX1_ok nmX1 rfl uX1 (by decide) fl_X1_21 rfl rfl (by decide +kernel) (fun _ => rfl) (fun _ => rfl) (wl_atO ht) (by rw [List.length_mapIdx]; exact (List.getElem?_eq_some_iff.mp hz).1) hd (by rw [wl_puti ht hz]; exact kk)
theorem fl_X1_24 : Wd (.fieldLink RX1 24 RX1 (TX1 4).2.1 (TX1 4).2.2.1) := ⟨List.mem_of_getElem? (i := 114) (by decide +kernel), rfl⟩
theorem gf_X1_24 {p : Nat} {fs : List Value} {z : Int32} (v : Int32) (ht : twl[p]? = some (.inr (1, fs))) (hz : fs[4]? = some (.int z)) (hv : mi p 4 = v) (hd : decode cc pc = .ok (.getfield 24, 3))
    (kk : E l RX1 cc nL ret ini hh R w0 Tg k n (pc + 3) lv (.int v :: st) (wl mi ml)) : E l RX1 cc nL ret ini hh R w0 Tg k n pc lv (.ref p :: st) (wl mi ml) :=
  E_get (ref := RX1) (T := TX1) (N := 15) rfl uX1 (by decide) fl_X1_24 rfl (wl_atO ht) (v := .int v) (by simp [List.getElem?_mapIdx, hz, cellV, hv]) hd kk
theorem pf_X1_24 {p : Nat} {fs : List Value} {z v : Int32} (ht : twl[p]? = some (.inr (1, fs))) (hz : fs[4]? = some (.int z)) (hd : decode cc pc = .ok (.putfield 24, 3))
    (kk : E l RX1 cc nL ret ini hh R w0 Tg k n (pc + 3) lv st (wl (u2 mi p 4 v) ml)) : E l RX1 cc nL ret ini hh R w0 Tg k n pc lv (.int v :: .ref p :: st) (wl mi ml) :=
  E_put (ref := RX1) (T := TX1) (N := 15) (ty := .int) tyX1 tyX1_ok nmX1 rfl uX1 (by decide) fl_X1_24 rfl rfl (by decide +kernel) (fun _ => rfl) (fun _ => rfl) (wl_atO ht) (by rw [List.length_mapIdx]; exact (List.getElem?_eq_some_iff.mp hz).1) hd (by rw [wl_puti ht hz]; exact kk)
theorem fl_X1_27 : Wd (.fieldLink RX1 27 RX1 (TX1 6).2.1 (TX1 6).2.2.1) := ⟨List.mem_of_getElem? (i := 121) (by decide +kernel), rfl⟩
theorem gf_X1_27 {p q : Nat} {fs : List Value} (ht : twl[p]? = some (.inr (1, fs))) (hz : fs[6]? = some (.ref q)) (hd : decode cc pc = .ok (.getfield 27, 3))
    (kk : E l RX1 cc nL ret ini hh R w0 Tg k n (pc + 3) lv (.ref q :: st) (wl mi ml)) : E l RX1 cc nL ret ini hh R w0 Tg k n pc lv (.ref p :: st) (wl mi ml) :=
  E_get (ref := RX1) (T := TX1) (N := 15) rfl uX1 (by decide) fl_X1_27 rfl (wl_atO ht) (v := .ref q) (by simp [List.getElem?_mapIdx, hz, cellV]) hd kk
theorem fl_X1_31 : Wd (.fieldLink RX1 31 RX1 (TX1 7).2.1 (TX1 7).2.2.1) := ⟨List.mem_of_getElem? (i := 122) (by decide +kernel), rfl⟩
theorem gf_X1_31 {p q : Nat} {fs : List Value} (ht : twl[p]? = some (.inr (1, fs))) (hz : fs[7]? = some (.ref q)) (hd : decode cc pc = .ok (.getfield 31, 3))
    (kk : E l RX1 cc nL ret ini hh R w0 Tg k n (pc + 3) lv (.ref q :: st) (wl mi ml)) : E l RX1 cc nL ret ini hh R w0 Tg k n pc lv (.ref p :: st) (wl mi ml) :=
  E_get (ref := RX1) (T := TX1) (N := 15) rfl uX1 (by decide) fl_X1_31 rfl (wl_atO ht) (v := .ref q) (by simp [List.getElem?_mapIdx, hz, cellV]) hd kk
theorem fl_X1_34 : Wd (.fieldLink RX1 34 RX1 (TX1 9).2.1 (TX1 9).2.2.1) := ⟨List.mem_of_getElem? (i := 126) (by decide +kernel), rfl⟩
theorem gf_X1_34 {p q : Nat} {fs : List Value} (ht : twl[p]? = some (.inr (1, fs))) (hz : fs[9]? = some (.ref q)) (hd : decode cc pc = .ok (.getfield 34, 3))
    (kk : E l RX1 cc nL ret ini hh R w0 Tg k n (pc + 3) lv (.ref q :: st) (wl mi ml)) : E l RX1 cc nL ret ini hh R w0 Tg k n pc lv (.ref p :: st) (wl mi ml) :=
  E_get (ref := RX1) (T := TX1) (N := 15) rfl uX1 (by decide) fl_X1_34 rfl (wl_atO ht) (v := .ref q) (by simp [List.getElem?_mapIdx, hz, cellV]) hd kk
theorem fl_X1_37 : Wd (.fieldLink RX1 37 RX1 (TX1 11).2.1 (TX1 11).2.2.1) := ⟨List.mem_of_getElem? (i := 129) (by decide +kernel), rfl⟩
theorem gf_X1_37 {p q : Nat} {fs : List Value} (ht : twl[p]? = some (.inr (1, fs))) (hz : fs[11]? = some (.ref q)) (hd : decode cc pc = .ok (.getfield 37, 3))
    (kk : E l RX1 cc nL ret ini hh R w0 Tg k n (pc + 3) lv (.ref q :: st) (wl mi ml)) : E l RX1 cc nL ret ini hh R w0 Tg k n pc lv (.ref p :: st) (wl mi ml) :=
  E_get (ref := RX1) (T := TX1) (N := 15) rfl uX1 (by decide) fl_X1_37 rfl (wl_atO ht) (v := .ref q) (by simp [List.getElem?_mapIdx, hz, cellV]) hd kk
theorem fl_X1_40 : Wd (.fieldLink RX1 40 RX1 (TX1 12).2.1 (TX1 12).2.2.1) := ⟨List.mem_of_getElem? (i := 130) (by decide +kernel), rfl⟩
theorem gf_X1_40 {p q : Nat} {fs : List Value} (ht : twl[p]? = some (.inr (1, fs))) (hz : fs[12]? = some (.ref q)) (hd : decode cc pc = .ok (.getfield 40, 3))
    (kk : E l RX1 cc nL ret ini hh R w0 Tg k n (pc + 3) lv (.ref q :: st) (wl mi ml)) : E l RX1 cc nL ret ini hh R w0 Tg k n pc lv (.ref p :: st) (wl mi ml) :=
  E_get (ref := RX1) (T := TX1) (N := 15) rfl uX1 (by decide) fl_X1_40 rfl (wl_atO ht) (v := .ref q) (by simp [List.getElem?_mapIdx, hz, cellV]) hd kk
theorem fl_X1_43 : Wd (.fieldLink RX1 43 RX1 (TX1 13).2.1 (TX1 13).2.2.1) := ⟨List.mem_of_getElem? (i := 131) (by decide +kernel), rfl⟩
theorem gf_X1_43 {p q : Nat} {fs : List Value} (ht : twl[p]? = some (.inr (1, fs))) (hz : fs[13]? = some (.ref q)) (hd : decode cc pc = .ok (.getfield 43, 3))
    (kk : E l RX1 cc nL ret ini hh R w0 Tg k n (pc + 3) lv (.ref q :: st) (wl mi ml)) : E l RX1 cc nL ret ini hh R w0 Tg k n pc lv (.ref p :: st) (wl mi ml) :=
  E_get (ref := RX1) (T := TX1) (N := 15) rfl uX1 (by decide) fl_X1_43 rfl (wl_atO ht) (v := .ref q) (by simp [List.getElem?_mapIdx, hz, cellV]) hd kk
theorem fl_X1_46 : Wd (.fieldLink RX1 46 RX1 (TX1 14).2.1 (TX1 14).2.2.1) := ⟨List.mem_of_getElem? (i := 132) (by decide +kernel), rfl⟩
theorem gf_X1_46 {p q : Nat} {fs : List Value} (ht : twl[p]? = some (.inr (1, fs))) (hz : fs[14]? = some (.ref q)) (hd : decode cc pc = .ok (.getfield 46, 3))
    (kk : E l RX1 cc nL ret ini hh R w0 Tg k n (pc + 3) lv (.ref q :: st) (wl mi ml)) : E l RX1 cc nL ret ini hh R w0 Tg k n pc lv (.ref p :: st) (wl mi ml) :=
  E_get (ref := RX1) (T := TX1) (N := 15) rfl uX1 (by decide) fl_X1_46 rfl (wl_atO ht) (v := .ref q) (by simp [List.getElem?_mapIdx, hz, cellV]) hd kk
theorem fl_X1_49 : Wd (.fieldLink RX1 49 RX1 (TX1 5).2.1 (TX1 5).2.2.1) := ⟨List.mem_of_getElem? (i := 117) (by decide +kernel), rfl⟩
theorem gf_X1_49 {p : Nat} {fs : List Value} {z : Int32} (v : Int32) (ht : twl[p]? = some (.inr (1, fs))) (hz : fs[5]? = some (.int z)) (hv : mi p 5 = v) (hd : decode cc pc = .ok (.getfield 49, 3))
    (kk : E l RX1 cc nL ret ini hh R w0 Tg k n (pc + 3) lv (.int v :: st) (wl mi ml)) : E l RX1 cc nL ret ini hh R w0 Tg k n pc lv (.ref p :: st) (wl mi ml) :=
  E_get (ref := RX1) (T := TX1) (N := 15) rfl uX1 (by decide) fl_X1_49 rfl (wl_atO ht) (v := .int v) (by simp [List.getElem?_mapIdx, hz, cellV, hv]) hd kk
theorem pf_X1_49 {p : Nat} {fs : List Value} {z v : Int32} (ht : twl[p]? = some (.inr (1, fs))) (hz : fs[5]? = some (.int z)) (hd : decode cc pc = .ok (.putfield 49, 3))
    (kk : E l RX1 cc nL ret ini hh R w0 Tg k n (pc + 3) lv st (wl (u2 mi p 5 v) ml)) : E l RX1 cc nL ret ini hh R w0 Tg k n pc lv (.int v :: .ref p :: st) (wl mi ml) :=
  E_put (ref := RX1) (T := TX1) (N := 15) (ty := .int) tyX1 tyX1_ok nmX1 rfl uX1 (by decide) fl_X1_49 rfl rfl (by decide +kernel) (fun _ => rfl) (fun _ => rfl) (wl_atO ht) (by rw [List.length_mapIdx]; exact (List.getElem?_eq_some_iff.mp hz).1) hd (by rw [wl_puti ht hz]; exact kk)
theorem fl_X1_52 : Wd (.fieldLink RX1 52 RX1 (TX1 8).2.1 (TX1 8).2.2.1) := ⟨List.mem_of_getElem? (i := 123) (by decide +kernel), rfl⟩
theorem gf_X1_52 {p : Nat} {fs : List Value} {z : Int32} (v : Int32) (ht : twl[p]? = some (.inr (1, fs))) (hz : fs[8]? = some (.int z)) (hv : mi p 8 = v) (hd : decode cc pc = .ok (.getfield 52, 3))
    (kk : E l RX1 cc nL ret ini hh R w0 Tg k n (pc + 3) lv (.int v :: st) (wl mi ml)) : E l RX1 cc nL ret ini hh R w0 Tg k n pc lv (.ref p :: st) (wl mi ml) :=
  E_get (ref := RX1) (T := TX1) (N := 15) rfl uX1 (by decide) fl_X1_52 rfl (wl_atO ht) (v := .int v) (by simp [List.getElem?_mapIdx, hz, cellV, hv]) hd kk
theorem pf_X1_52 {p : Nat} {fs : List Value} {z v : Int32} (ht : twl[p]? = some (.inr (1, fs))) (hz : fs[8]? = some (.int z)) (hd : decode cc pc = .ok (.putfield 52, 3))
    (kk : E l RX1 cc nL ret ini hh R w0 Tg k n (pc + 3) lv st (wl (u2 mi p 8 v) ml)) : E l RX1 cc nL ret ini hh R w0 Tg k n pc lv (.int v :: .ref p :: st) (wl mi ml) :=
  E_put (ref := RX1) (T := TX1) (N := 15) (ty := .int) tyX1 tyX1_ok nmX1 rfl uX1 (by decide) fl_X1_52 rfl rfl (by decide +kernel) (fun _ => rfl) (fun _ => rfl) (wl_atO ht) (by rw [List.length_mapIdx]; exact (List.getElem?_eq_some_iff.mp hz).1) hd (by rw [wl_puti ht hz]; exact kk)
theorem fl_X1_55 : Wd (.fieldLink RX1 55 RX1 (TX1 10).2.1 (TX1 10).2.2.1) := ⟨List.mem_of_getElem? (i := 127) (by decide +kernel), rfl⟩
theorem gf_X1_55 {p : Nat} {fs : List Value} {z : Int32} (v : Int32) (ht : twl[p]? = some (.inr (1, fs))) (hz : fs[10]? = some (.int z)) (hv : mi p 10 = v) (hd : decode cc pc = .ok (.getfield 55, 3))
    (kk : E l RX1 cc nL ret ini hh R w0 Tg k n (pc + 3) lv (.int v :: st) (wl mi ml)) : E l RX1 cc nL ret ini hh R w0 Tg k n pc lv (.ref p :: st) (wl mi ml) :=
  E_get (ref := RX1) (T := TX1) (N := 15) rfl uX1 (by decide) fl_X1_55 rfl (wl_atO ht) (v := .int v) (by simp [List.getElem?_mapIdx, hz, cellV, hv]) hd kk
theorem pf_X1_55 {p : Nat} {fs : List Value} {z v : Int32} (ht : twl[p]? = some (.inr (1, fs))) (hz : fs[10]? = some (.int z)) (hd : decode cc pc = .ok (.putfield 55, 3))
    (kk : E l RX1 cc nL ret ini hh R w0 Tg k n (pc + 3) lv st (wl (u2 mi p 10 v) ml)) : E l RX1 cc nL ret ini hh R w0 Tg k n pc lv (.int v :: .ref p :: st) (wl mi ml) :=
  E_put (ref := RX1) (T := TX1) (N := 15) (ty := .int) tyX1 tyX1_ok nmX1 rfl uX1 (by decide) fl_X1_55 rfl rfl (by decide +kernel) (fun _ => rfl) (fun _ => rfl) (wl_atO ht) (by rw [List.length_mapIdx]; exact (List.getElem?_eq_some_iff.mp hz).1) hd (by rw [wl_puti ht hz]; exact kk)
theorem fl_X2_11 : Wd (.fieldLink RX2 11 RX2 (TX2 0).2.1 (TX2 0).2.2.1) := ⟨List.mem_of_getElem? (i := 174) (by decide +kernel), rfl⟩
theorem gf_X2_11 {p q : Nat} {fs : List Value} (ht : twl[p]? = some (.inr (2, fs))) (hz : fs[0]? = some (.ref q)) (hd : decode cc pc = .ok (.getfield 11, 3))
    (kk : E l RX2 cc nL ret ini hh R w0 Tg k n (pc + 3) lv (.ref q :: st) (wl mi ml)) : E l RX2 cc nL ret ini hh R w0 Tg k n pc lv (.ref p :: st) (wl mi ml) :=
  E_get (ref := RX2) (T := TX2) (N := 3) rfl uX2 (by decide) fl_X2_11 rfl (wl_atO ht) (v := .ref q) (by simp [List.getElem?_mapIdx, hz, cellV]) hd kk
theorem fl_X2_18 : Wd (.fieldLink RX2 18 RX2 (TX2 1).2.1 (TX2 1).2.2.1) := ⟨List.mem_of_getElem? (i := 175) (by decide +kernel), rfl⟩
theorem gf_X2_18 {p : Nat} {fs : List Value} {z : Int32} (v : Int32) (ht : twl[p]? = some (.inr (2, fs))) (hz : fs[1]? = some (.int z)) (hv : mi p 1 = v) (hd : decode cc pc = .ok (.getfield 18, 3))
    (kk : E l RX2 cc nL ret ini hh R w0 Tg k n (pc + 3) lv (.int v :: st) (wl mi ml)) : E l RX2 cc nL ret ini hh R w0 Tg k n pc lv (.ref p :: st) (wl mi ml) :=
  E_get (ref := RX2) (T := TX2) (N := 3) rfl uX2 (by decide) fl_X2_18 rfl (wl_atO ht) (v := .int v) (by simp [List.getElem?_mapIdx, hz, cellV, hv]) hd kk
theorem pf_X2_18 {p : Nat} {fs : List Value} {z v : Int32} (ht : twl[p]? = some (.inr (2, fs))) (hz : fs[1]? = some (.int z)) (hd : decode cc pc = .ok (.putfield 18, 3))
    (kk : E l RX2 cc nL ret ini hh R w0 Tg k n (pc + 3) lv st (wl (u2 mi p 1 v) ml)) : E l RX2 cc nL ret ini hh R w0 Tg k n pc lv (.int v :: .ref p :: st) (wl mi ml) :=
  E_put (ref := RX2) (T := TX2) (N := 3) (ty := .int) tyX2 tyX2_ok nmX2 rfl uX2 (by decide) fl_X2_18 rfl rfl (by decide +kernel) (fun _ => rfl) (fun _ => rfl) (wl_atO ht) (by rw [List.length_mapIdx]; exact (List.getElem?_eq_some_iff.mp hz).1) hd (by rw [wl_puti ht hz]; exact kk)
theorem fl_X2_30 : Wd (.fieldLink RX2 30 RX2 (TX2 2).2.1 (TX2 2).2.2.1) := ⟨List.mem_of_getElem? (i := 176) (by decide +kernel), rfl⟩
theorem gf_X2_30 {p : Nat} {fs : List Value} {z : Int32} (v : Int32) (ht : twl[p]? = some (.inr (2, fs))) (hz : fs[2]? = some (.int z)) (hv : mi p 2 = v) (hd : decode cc pc = .ok (.getfield 30, 3))
    (kk : E l RX2 cc nL ret ini hh R w0 Tg k n (pc + 3) lv (.int v :: st) (wl mi ml)) : E l RX2 cc nL ret ini hh R w0 Tg k n pc lv (.ref p :: st) (wl mi ml) :=
  E_get (ref := RX2) (T := TX2) (N := 3) rfl uX2 (by decide) fl_X2_30 rfl (wl_atO ht) (v := .int v) (by simp [List.getElem?_mapIdx, hz, cellV, hv]) hd kk
theorem pf_X2_30 {p : Nat} {fs : List Value} {z v : Int32} (ht : twl[p]? = some (.inr (2, fs))) (hz : fs[2]? = some (.int z)) (hd : decode cc pc = .ok (.putfield 30, 3))
    (kk : E l RX2 cc nL ret ini hh R w0 Tg k n (pc + 3) lv st (wl (u2 mi p 2 v) ml)) : E l RX2 cc nL ret ini hh R w0 Tg k n pc lv (.int v :: .ref p :: st) (wl mi ml) :=
  E_put (ref := RX2) (T := TX2) (N := 3) (ty := .int) tyX2 tyX2_ok nmX2 rfl uX2 (by decide) fl_X2_30 rfl rfl (by decide +kernel) (fun _ => rfl) (fun _ => rfl) (wl_atO ht) (by rw [List.length_mapIdx]; exact (List.getElem?_eq_some_iff.mp hz).1) hd (by rw [wl_puti ht hz]; exact kk)
theorem fl_X3_11 : Wd (.fieldLink RX3 11 RX3 (TX3 0).2.1 (TX3 0).2.2.1) := ⟨List.mem_of_getElem? (i := 191) (by decide +kernel), rfl⟩
theorem gf_X3_11 {p q : Nat} {fs : List Value} (ht : twl[p]? = some (.inr (3, fs))) (hz : fs[0]? = some (.ref q)) (hd : decode cc pc = .ok (.getfield 11, 3))
    (kk : E l RX3 cc nL ret ini hh R w0 Tg k n (pc + 3) lv (.ref q :: st) (wl mi ml)) : E l RX3 cc nL ret ini hh R w0 Tg k n pc lv (.ref p :: st) (wl mi ml) :=
  E_get (ref := RX3) (T := TX3) (N := 2) rfl uX3 (by decide) fl_X3_11 rfl (wl_atO ht) (v := .ref q) (by simp [List.getElem?_mapIdx, hz, cellV]) hd kk
theorem fl_X3_15 : Wd (.fieldLink RX3 15 RX3 (TX3 1).2.1 (TX3 1).2.2.1) := ⟨List.mem_of_getElem? (i := 192) (by decide +kernel), rfl⟩
theorem gf_X3_15 {p : Nat} {fs : List Value} {z : Int32} (v : Int32) (ht : twl[p]? = some (.inr (3, fs))) (hz : fs[1]? = some (.int z)) (hv : mi p 1 = v) (hd : decode cc pc = .ok (.getfield 15, 3))
    (kk : E l RX3 cc nL ret ini hh R w0 Tg k n (pc + 3) lv (.int v :: st) (wl mi ml)) : E l RX3 cc nL ret ini hh R w0 Tg k n pc lv (.ref p :: st) (wl mi ml) :=
  E_get (ref := RX3) (T := TX3) (N := 2) rfl uX3 (by decide) fl_X3_15 rfl (wl_atO ht) (v := .int v) (by simp [List.getElem?_mapIdx, hz, cellV, hv]) hd kk
theorem pf_X3_15 {p : Nat} {fs : List Value} {z v : Int32} (ht : twl[p]? = some (.inr (3, fs))) (hz : fs[1]? = some (.int z)) (hd : decode cc pc = .ok (.putfield 15, 3))
    (kk : E l RX3 cc nL ret ini hh R w0 Tg k n (pc + 3) lv st (wl (u2 mi p 1 v) ml)) : E l RX3 cc nL ret ini hh R w0 Tg k n pc lv (.int v :: .ref p :: st) (wl mi ml) :=
  E_put (ref := RX3) (T := TX3) (N := 2) (ty := .int) tyX3 tyX3_ok nmX3 rfl uX3 (by decide) fl_X3_15 rfl rfl (by decide +kernel) (fun _ => rfl) (fun _ => rfl) (wl_atO ht) (by rw [List.length_mapIdx]; exact (List.getElem?_eq_some_iff.mp hz).1) hd (by rw [wl_puti ht hz]; exact kk)
theorem fl_X3_19 : Wd (.fieldLinkNest RX3 19 RX1 (TX1 0).2.1 (TX1 0).2.2.1 "ChannelSpacer") := ⟨List.mem_of_getElem? (i := 100) (by decide +kernel), rfl⟩
theorem gf_X3_19 {p : Nat} {fs : List Value} {z : Int32} (v : Int32) (ht : twl[p]? = some (.inr (1, fs))) (hz : fs[0]? = some (.int z)) (hv : mi p 0 = v) (hd : decode cc pc = .ok (.getfield 19, 3))
    (kk : E l RX3 cc nL ret ini hh R w0 Tg k n (pc + 3) lv (.int v :: st) (wl mi ml)) : E l RX3 cc nL ret ini hh R w0 Tg k n pc lv (.ref p :: st) (wl mi ml) :=
  E_getN (ref := RX1) (T := TX1) (N := 15) rfl uX1 (by decide) fl_X3_19 rfl (wl_atO ht) (v := .int v) (by simp [List.getElem?_mapIdx, hz, cellV, hv]) hd kk
theorem pf_X3_19 {p : Nat} {fs : List Value} {z v : Int32} (ht : twl[p]? = some (.inr (1, fs))) (hz : fs[0]? = some (.int z)) (hd : decode cc pc = .ok (.putfield 19, 3))
    (kk : E l RX3 cc nL ret ini hh R w0 Tg k n (pc + 3) lv st (wl (u2 mi p 0 v) ml)) : E l RX3 cc nL ret ini hh R w0 Tg k n pc lv (.int v :: .ref p :: st) (wl mi ml) :=
  E_putN (ref := RX1) (T := TX1) (N := 15) (ty := .int) tyX1 tyX1_ok nmX1 rfl uX1 (by decide) fl_X3_19 rfl rfl (by decide +kernel) (fun _ => rfl) (fun _ => rfl) (wl_atO ht) (by rw [List.length_mapIdx]; exact (List.getElem?_eq_some_iff.mp hz).1) hd (by rw [wl_puti ht hz]; exact kk)
theorem fl_X3_32 : Wd (.fieldLinkNest RX3 32 RX1 (TX1 1).2.1 (TX1 1).2.2.1 "ChannelSpacer") := ⟨List.mem_of_getElem? (i := 105) (by decide +kernel), rfl⟩
theorem gf_X3_32 {p : Nat} {fs : List Value} {z : Int32} (v : Int32) (ht : twl[p]? = some (.inr (1, fs))) (hz : fs[1]? = some (.int z)) (hv : mi p 1 = v) (hd : decode cc pc = .ok (.getfield 32, 3))
    (kk : E l RX3 cc nL ret ini hh R w0 Tg k n (pc + 3) lv (.int v :: st) (wl mi ml)) : E l RX3 cc nL ret ini hh R w0 Tg k n pc lv (.ref p :: st) (wl mi ml) :=
  E_getN (ref := RX1) (T := TX1) (N := 15) rfl uX1 (by decide) fl_X3_32 rfl (wl_atO ht) (v := .int v) (by simp [List.getElem?_mapIdx, hz, cellV, hv]) hd kk
theorem pf_X3_32 {p : Nat} {fs : List Value} {z v : Int32} (ht : twl[p]? = some (.inr (1, fs))) (hz : fs[1]? = some (.int z)) (hd : decode cc pc = .ok (.putfield 32, 3))
    (kk : E l RX3 cc nL ret ini hh R w0 Tg k n (pc + 3) lv st (wl (u2 mi p 1 v) ml)) : E l RX3 cc nL ret ini hh R w0 Tg k n pc lv (.int v :: .ref p :: st) (wl mi ml) :=
  E_putN (ref := RX1) (T := TX1) (N := 15) (ty := .int) tyX1 tyX1_ok nmX1 rfl uX1 (by decide) fl_X3_32 rfl rfl (by decide +kernel) (fun _ => rfl) (fun _ => rfl) (wl_atO ht) (by rw [List.length_mapIdx]; exact (List.getElem?_eq_some_iff.mp hz).1) hd (by rw [wl_puti ht hz]; exact kk)
theorem fl_X3_35 : Wd (.fieldLinkNest RX3 35 RX1 (TX1 2).2.1 (TX1 2).2.2.1 "ChannelSpacer") := ⟨List.mem_of_getElem? (i := 109) (by decide +kernel), rfl⟩
theorem gf_X3_35 {p : Nat} {fs : List Value} {z : Int32} (v : Int32) (ht : twl[p]? = some (.inr (1, fs))) (hz : fs[2]? = some (.int z)) (hv : mi p 2 = v) (hd : decode cc pc = .ok (.getfield 35, 3))
    (kk : E l RX3 cc nL ret ini hh R w0 Tg k n (pc + 3) lv (.int v :: st) (wl mi ml)) : E l RX3 cc nL ret ini hh R w0 Tg k n pc lv (.ref p :: st) (wl mi ml) :=
  E_getN (ref := RX1) (T := TX1) (N := 15) rfl uX1 (by decide) fl_X3_35 rfl (wl_atO ht) (v := .int v) (by simp [List.getElem?_mapIdx, hz, cellV, hv]) hd kk
theorem pf_X3_35 {p : Nat} {fs : List Value} {z v : Int32} (ht : twl[p]? = some (.inr (1, fs))) (hz : fs[2]? = some (.int z)) (hd : decode cc pc = .ok (.putfield 35, 3))
    (kk : E l RX3 cc nL ret ini hh R w0 Tg k n (pc + 3) lv st (wl (u2 mi p 2 v) ml)) : E l RX3 cc nL ret ini hh R w0 Tg k n pc lv (.int v :: .ref p :: st) (wl mi ml) :=
  E_putN (ref := RX1) (T := TX1) (N := 15) (ty := .int) tyX1 tyX1_ok nmX1 rfl uX1 (by decide) fl_X3_35 rfl rfl (by decide +kernel) (fun _ => rfl) (fun _ => rfl) (wl_atO ht) (by rw [List.length_mapIdx]; exact (List.getElem?_eq_some_iff.mp hz).1) hd (by rw [wl_puti ht hz]; exact kk)
theorem fl_X3_38 : Wd (.fieldLinkNest RX3 38 RX1 (TX1 5).2.1 (TX1 5).2.2.1 "ChannelSpacer") := ⟨List.mem_of_getElem? (i := 119) (by decide +kernel), rfl⟩
theorem gf_X3_38 {p : Nat} {fs : List Value} {z : Int32} (v : Int32) (ht : twl[p]? = some (.inr (1, fs))) (hz : fs[5]? = some (.int z)) (hv : mi p 5 = v) (hd : decode cc pc = .ok (.getfield 38, 3))
    (kk : E l RX3 cc nL ret ini hh R w0 Tg k n (pc + 3) lv (.int v :: st) (wl mi ml)) : E l RX3 cc nL ret ini hh R w0 Tg k n pc lv (.ref p :: st) (wl mi ml) :=
  E_getN (ref := RX1) (T := TX1) (N := 15) rfl uX1 (by decide) fl_X3_38 rfl (wl_atO ht) (v := .int v) (by simp [List.getElem?_mapIdx, hz, cellV, hv]) hd kk
theorem pf_X3_38 {p : Nat} {fs : List Value} {z v : Int32} (ht : twl[p]? = some (.inr (1, fs))) (hz : fs[5]? = some (.int z)) (hd : decode cc pc = .ok (.putfield 38, 3))
    (kk : E l RX3 cc nL ret ini hh R w0 Tg k n (pc + 3) lv st (wl (u2 mi p 5 v) ml)) : E l RX3 cc nL ret ini hh R w0 Tg k n pc lv (.int v :: .ref p :: st) (wl mi ml) :=
  E_putN (ref := RX1) (T := TX1) (N := 15) (ty := .int) tyX1 tyX1_ok nmX1 rfl uX1 (by decide) fl_X3_38 rfl rfl (by decide +kernel) (fun _ => rfl) (fun _ => rfl) (wl_atO ht) (by rw [List.length_mapIdx]; exact (List.getElem?_eq_some_iff.mp hz).1) hd (by rw [wl_puti ht hz]; exact kk)
theorem fl_X4_9 : Wd (.fieldLink RX4 9 RX4 (TX4 0).2.1 (TX4 0).2.2.1) := ⟨List.mem_of_getElem? (i := 244) (by decide +kernel), rfl⟩
theorem gf_X4_9 {p q : Nat} {fs : List Value} (ht : twl[p]? = some (.inr (4, fs))) (hz : fs[0]? = some (.ref q)) (hd : decode cc pc = .ok (.getfield 9, 3))
    (kk : E l RX4 cc nL ret ini hh R w0 Tg k n (pc + 3) lv (.ref q :: st) (wl mi ml)) : E l RX4 cc nL ret ini hh R w0 Tg k n pc lv (.ref p :: st) (wl mi ml) :=
  E_get (ref := RX4) (T := TX4) (N := 5) rfl uX4 (by decide) fl_X4_9 rfl (wl_atO ht) (v := .ref q) (by simp [List.getElem?_mapIdx, hz, cellV]) hd kk
theorem fl_X4_15 : Wd (.fieldLink RX4 15 RX4 (TX4 1).2.1 (TX4 1).2.2.1) := ⟨List.mem_of_getElem? (i := 245) (by decide +kernel), rfl⟩
theorem gf_X4_15 {p : Nat} {fs : List Value} {z : Int32} (v : Int32) (ht : twl[p]? = some (.inr (4, fs))) (hz : fs[1]? = some (.int z)) (hv : mi p 1 = v) (hd : decode cc pc = .ok (.getfield 15, 3))
    (kk : E l RX4 cc nL ret ini hh R w0 Tg k n (pc + 3) lv (.int v :: st) (wl mi ml)) : E l RX4 cc nL ret ini hh R w0 Tg k n pc lv (.ref p :: st) (wl mi ml) :=
  E_get (ref := RX4) (T := TX4) (N := 5) rfl uX4 (by decide) fl_X4_15 rfl (wl_atO ht) (v := .int v) (by simp [List.getElem?_mapIdx, hz, cellV, hv]) hd kk
theorem pf_X4_15 {p : Nat} {fs : List Value} {z v : Int32} (ht : twl[p]? = some (.inr (4, fs))) (hz : fs[1]? = some (.int z)) (hd : decode cc pc = .ok (.putfield 15, 3))
    (kk : E l RX4 cc nL ret ini hh R w0 Tg k n (pc + 3) lv st (wl (u2 mi p 1 v) ml)) : E l RX4 cc nL ret ini hh R w0 Tg k n pc lv (.int v :: .ref p :: st) (wl mi ml) :=
  E_put (ref := RX4) (T := TX4) (N := 5) (ty := .int) tyX4 tyX4_ok nmX4 rfl uX4 (by decide) fl_X4_15 rfl rfl (by decide +kernel) (fun _ => rfl) (fun _ => rfl) (wl_atO ht) (by rw [List.length_mapIdx]; exact (List.getElem?_eq_some_iff.mp hz).1) hd (by rw [wl_puti ht hz]; exact kk)
theorem fl_X4_19 : Wd (.fieldLink RX4 19 RX4 (TX4 2).2.1 (TX4 2).2.2.1) := ⟨List.mem_of_getElem? (i := 247) (by decide +kernel), rfl⟩
theorem gf_X4_19 {p : Nat} {fs : List Value} {z : Int32} (v : Int32) (ht : twl[p]? = some (.inr (4, fs))) (hz : fs[2]? = some (.int z)) (hv : mi p 2 = v) (hd : decode cc pc = .ok (.getfield 19, 3))
    (kk : E l RX4 cc nL ret ini hh R w0 Tg k n (pc + 3) lv (.int v :: st) (wl mi ml)) : E l RX4 cc nL ret ini hh R w0 Tg k n pc lv (.ref p :: st) (wl mi ml) :=
  E_get (ref := RX4) (T := TX4) (N := 5) rfl uX4 (by decide) fl_X4_19 rfl (wl_atO ht) (v := .int v) (by simp [List.getElem?_mapIdx, hz, cellV, hv]) hd kk
theorem pf_X4_19 {p : Nat} {fs : List Value} {z v : Int32} (ht : twl[p]? = some (.inr (4, fs))) (hz : fs[2]? = some (.int z)) (hd : decode cc pc = .ok (.putfield 19, 3))
    (kk : E l RX4 cc nL ret ini hh R w0 Tg k n (pc + 3) lv st (wl (u2 mi p 2 v) ml)) : E l RX4 cc nL ret ini hh R w0 Tg k n pc lv (.int v :: .ref p :: st) (wl mi ml) :=
  E_put (ref := RX4) (T := TX4) (N := 5) (ty := .int) tyX4 tyX4_ok nmX4 rfl uX4 (by decide) fl_X4_19 rfl rfl (by decide +kernel) (fun _ => rfl) (fun _ => rfl) (wl_atO ht) (by rw [List.length_mapIdx]; exact (List.getElem?_eq_some_iff.mp hz).1) hd (by rw [wl_puti ht hz]; exact kk)
theorem fl_X4_22 : Wd (.fieldLink RX4 22 RX4 (TX4 4).2.1 (TX4 4).2.2.1) := ⟨List.mem_of_getElem? (i := 249) (by decide +kernel), rfl⟩
theorem gf_X4_22 {p : Nat} {fs : List Value} {z : Int32} (v : Int32) (ht : twl[p]? = some (.inr (4, fs))) (hz : fs[4]? = some (.int z)) (hv : mi p 4 = v) (hd : decode cc pc = .ok (.getfield 22, 3))
    (kk : E l RX4 cc nL ret ini hh R w0 Tg k n (pc + 3) lv (.int v :: st) (wl mi ml)) : E l RX4 cc nL ret ini hh R w0 Tg k n pc lv (.ref p :: st) (wl mi ml) :=
  E_get (ref := RX4) (T := TX4) (N := 5) rfl uX4 (by decide) fl_X4_22 rfl (wl_atO ht) (v := .int v) (by simp [List.getElem?_mapIdx, hz, cellV, hv]) hd kk
theorem pf_X4_22 {p : Nat} {fs : List Value} {z v : Int32} (ht : twl[p]? = some (.inr (4, fs))) (hz : fs[4]? = some (.int z)) (hd : decode cc pc = .ok (.putfield 22, 3))
    (kk : E l RX4 cc nL ret ini hh R w0 Tg k n (pc + 3) lv st (wl (u2 mi p 4 v) ml)) : E l RX4 cc nL ret ini hh R w0 Tg k n pc lv (.int v :: .ref p :: st) (wl mi ml) :=
  E_put (ref := RX4) (T := TX4) (N := 5) (ty := .int) tyX4 tyX4_ok nmX4 rfl uX4 (by decide) fl_X4_22 rfl rfl (by decide +kernel) (fun _ => rfl) (fun _ => rfl) (wl_atO ht) (by rw [List.length_mapIdx]; exact (List.getElem?_eq_some_iff.mp hz).1) hd (by rw [wl_puti ht hz]; exact kk)
theorem fl_X4_33 : Wd (.fieldLinkNest RX4 33 RX1 (TX1 5).2.1 (TX1 5).2.2.1 "ChannelSpacer") := ⟨List.mem_of_getElem? (i := 120) (by decide +kernel), rfl⟩
theorem gf_X4_33 {p : Nat} {fs : List Value} {z : Int32} (v : Int32) (ht : twl[p]? = some (.inr (1, fs))) (hz : fs[5]? = some (.int z)) (hv : mi p 5 = v) (hd : decode cc pc = .ok (.getfield 33, 3))
    (kk : E l RX4 cc nL ret ini hh R w0 Tg k n (pc + 3) lv (.int v :: st) (wl mi ml)) : E l RX4 cc nL ret ini hh R w0 Tg k n pc lv (.ref p :: st) (wl mi ml) :=
  E_getN (ref := RX1) (T := TX1) (N := 15) rfl uX1 (by decide) fl_X4_33 rfl (wl_atO ht) (v := .int v) (by simp [List.getElem?_mapIdx, hz, cellV, hv]) hd kk
theorem pf_X4_33 {p : Nat} {fs : List Value} {z v : Int32} (ht : twl[p]? = some (.inr (1, fs))) (hz : fs[5]? = some (.int z)) (hd : decode cc pc = .ok (.putfield 33, 3))
    (kk : E l RX4 cc nL ret ini hh R w0 Tg k n (pc + 3) lv st (wl (u2 mi p 5 v) ml)) : E l RX4 cc nL ret ini hh R w0 Tg k n pc lv (.int v :: .ref p :: st) (wl mi ml) :=
  E_putN (ref := RX1) (T := TX1) (N := 15) (ty := .int) tyX1 tyX1_ok nmX1 rfl uX1 (by decide) fl_X4_33 rfl rfl (by decide +kernel) (fun _ => rfl) (fun _ => rfl) (wl_atO ht) (by rw [List.length_mapIdx]; exact (List.getElem?_eq_some_iff.mp hz).1) hd (by rw [wl_puti ht hz]; exact kk)
theorem fl_X4_41 : Wd (.fieldLinkNest RX4 41 RX1 (TX1 8).2.1 (TX1 8).2.2.1 "ChannelSpacer") := ⟨List.mem_of_getElem? (i := 124) (by decide +kernel), rfl⟩
theorem gf_X4_41 {p : Nat} {fs : List Value} {z : Int32} (v : Int32) (ht : twl[p]? = some (.inr (1, fs))) (hz : fs[8]? = some (.int z)) (hv : mi p 8 = v) (hd : decode cc pc = .ok (.getfield 41, 3))
    (kk : E l RX4 cc nL ret ini hh R w0 Tg k n (pc + 3) lv (.int v :: st) (wl mi ml)) : E l RX4 cc nL ret ini hh R w0 Tg k n pc lv (.ref p :: st) (wl mi ml) :=
  E_getN (ref := RX1) (T := TX1) (N := 15) rfl uX1 (by decide) fl_X4_41 rfl (wl_atO ht) (v := .int v) (by simp [List.getElem?_mapIdx, hz, cellV, hv]) hd kk
theorem pf_X4_41 {p : Nat} {fs : List Value} {z v : Int32} (ht : twl[p]? = some (.inr (1, fs))) (hz : fs[8]? = some (.int z)) (hd : decode cc pc = .ok (.putfield 41, 3))
    (kk : E l RX4 cc nL ret ini hh R w0 Tg k n (pc + 3) lv st (wl (u2 mi p 8 v) ml)) : E l RX4 cc nL ret ini hh R w0 Tg k n pc lv (.int v :: .ref p :: st) (wl mi ml) :=
  E_putN (ref := RX1) (T := TX1) (N := 15) (ty := .int) tyX1 tyX1_ok nmX1 rfl uX1 (by decide) fl_X4_41 rfl rfl (by decide +kernel) (fun _ => rfl) (fun _ => rfl) (wl_atO ht) (by rw [List.length_mapIdx]; exact (List.getElem?_eq_some_iff.mp hz).1) hd (by rw [wl_puti ht hz]; exact kk)
theorem fl_X4_87 : Wd (.fieldLink RX4 87 RX4 (TX4 3).2.1 (TX4 3).2.2.1) := ⟨List.mem_of_getElem? (i := 248) (by decide +kernel), rfl⟩
theorem gf_X4_87 {p : Nat} {fs : List Value} {z : Int32} (v : Int32) (ht : twl[p]? = some (.inr (4, fs))) (hz : fs[3]? = some (.int z)) (hv : mi p 3 = v) (hd : decode cc pc = .ok (.getfield 87, 3))
    (kk : E l RX4 cc nL ret ini hh R w0 Tg k n (pc + 3) lv (.int v :: st) (wl mi ml)) : E l RX4 cc nL ret ini hh R w0 Tg k n pc lv (.ref p :: st) (wl mi ml) :=
  E_get (ref := RX4) (T := TX4) (N := 5) rfl uX4 (by decide) fl_X4_87 rfl (wl_atO ht) (v := .int v) (by simp [List.getElem?_mapIdx, hz, cellV, hv]) hd kk
theorem pf_X4_87 {p : Nat} {fs : List Value} {z v : Int32} (ht : twl[p]? = some (.inr (4, fs))) (hz : fs[3]? = some (.int z)) (hd : decode cc pc = .ok (.putfield 87, 3))
    (kk : E l RX4 cc nL ret ini hh R w0 Tg k n (pc + 3) lv st (wl (u2 mi p 3 v) ml)) : E l RX4 cc nL ret ini hh R w0 Tg k n pc lv (.int v :: .ref p :: st) (wl mi ml) :=
  E_put (ref := RX4) (T := TX4) (N := 5) (ty := .int) tyX4 tyX4_ok nmX4 rfl uX4 (by decide) fl_X4_87 rfl rfl (by decide +kernel) (fun _ => rfl) (fun _ => rfl) (wl_atO ht) (by rw [List.length_mapIdx]; exact (List.getElem?_eq_some_iff.mp hz).1) hd (by rw [wl_puti ht hz]; exact kk)
theorem fl_X6_7 : Wd (.fieldLink RX6 7 RX6 (TX6 0).2.1 (TX6 0).2.2.1) := ⟨List.mem_of_getElem? (i := 961) (by decide +kernel), rfl⟩
theorem gf_X6_7 {p q : Nat} {fs : List Value} (ht : twl[p]? = some (.inr (6, fs))) (hz : fs[0]? = some (.ref q)) (hd : decode cc pc = .ok (.getfield 7, 3))
    (kk : E l RX6 cc nL ret ini hh R w0 Tg k n (pc + 3) lv (.ref q :: st) (wl mi ml)) : E l RX6 cc nL ret ini hh R w0 Tg k n pc lv (.ref p :: st) (wl mi ml) :=
  E_get (ref := RX6) (T := TX6) (N := 23) rfl uX6 (by decide) fl_X6_7 rfl (wl_atO ht) (v := .ref q) (by simp [List.getElem?_mapIdx, hz, cellV]) hd kk
theorem fl_X6_13 : Wd (.fieldLink RX6 13 RX6 (TX6 1).2.1 (TX6 1).2.2.1) := ⟨List.mem_of_getElem? (i := 962) (by decide +kernel), rfl⟩
theorem gf_X6_13 {p q : Nat} {fs : List Value} (ht : twl[p]? = some (.inr (6, fs))) (hz : fs[1]? = some (.ref q)) (hd : decode cc pc = .ok (.getfield 13, 3))
    (kk : E l RX6 cc nL ret ini hh R w0 Tg k n (pc + 3) lv (.ref q :: st) (wl mi ml)) : E l RX6 cc nL ret ini hh R w0 Tg k n pc lv (.ref p :: st) (wl mi ml) :=
  E_get (ref := RX6) (T := TX6) (N := 23) rfl uX6 (by decide) fl_X6_13 rfl (wl_atO ht) (v := .ref q) (by simp [List.getElem?_mapIdx, hz, cellV]) hd kk
theorem fl_X6_16 : Wd (.fieldLink RX6 16 RX6 (TX6 3).2.1 (TX6 3).2.2.1) := ⟨List.mem_of_getElem? (i := 964) (by decide +kernel), rfl⟩
theorem gf_X6_16 {p q : Nat} {fs : List Value} (ht : twl[p]? = some (.inr (6, fs))) (hz : fs[3]? = some (.ref q)) (hd : decode cc pc = .ok (.getfield 16, 3))
    (kk : E l RX6 cc nL ret ini hh R w0 Tg k n (pc + 3) lv (.ref q :: st) (wl mi ml)) : E l RX6 cc nL ret ini hh R w0 Tg k n pc lv (.ref p :: st) (wl mi ml) :=
  E_get (ref := RX6) (T := TX6) (N := 23) rfl uX6 (by decide) fl_X6_16 rfl (wl_atO ht) (v := .ref q) (by simp [List.getElem?_mapIdx, hz, cellV]) hd kk
theorem fl_X6_19 : Wd (.fieldLink RX6 19 RX6 (TX6 6).2.1 (TX6 6).2.2.1) := ⟨List.mem_of_getElem? (i := 967) (by decide +kernel), rfl⟩
theorem gf_X6_19 {p q : Nat} {fs : List Value} (ht : twl[p]? = some (.inr (6, fs))) (hz : fs[6]? = some (.ref q)) (hd : decode cc pc = .ok (.getfield 19, 3))
    (kk : E l RX6 cc nL ret ini hh R w0 Tg k n (pc + 3) lv (.ref q :: st) (wl mi ml)) : E l RX6 cc nL ret ini hh R w0 Tg k n pc lv (.ref p :: st) (wl mi ml) :=
  E_get (ref := RX6) (T := TX6) (N := 23) rfl uX6 (by decide) fl_X6_19 rfl (wl_atO ht) (v := .ref q) (by simp [List.getElem?_mapIdx, hz, cellV]) hd kk
theorem fl_X6_22 : Wd (.fieldLink RX6 22 RX6 (TX6 7).2.1 (TX6 7).2.2.1) := ⟨List.mem_of_getElem? (i := 968) (by decide +kernel), rfl⟩
theorem gf_X6_22 {p q : Nat} {fs : List Value} (ht : twl[p]? = some (.inr (6, fs))) (hz : fs[7]? = some (.ref q)) (hd : decode cc pc = .ok (.getfield 22, 3))
    (kk : E l RX6 cc nL ret ini hh R w0 Tg k n (pc + 3) lv (.ref q :: st) (wl mi ml)) : E l RX6 cc nL ret ini hh R w0 Tg k n pc lv (.ref p :: st) (wl mi ml) :=
  E_get (ref := RX6) (T := TX6) (N := 23) rfl uX6 (by decide) fl_X6_22 rfl (wl_atO ht) (v := .ref q) (by simp [List.getElem?_mapIdx, hz, cellV]) hd kk
theorem fl_X6_25 : Wd (.fieldLink RX6 25 RX6 (TX6 8).2.1 (TX6 8).2.2.1) := ⟨List.mem_of_getElem? (i := 969) (by decide +kernel), rfl⟩
theorem gf_X6_25 {p q : Nat} {fs : List Value} (ht : twl[p]? = some (.inr (6, fs))) (hz : fs[8]? = some (.ref q)) (hd : decode cc pc = .ok (.getfield 25, 3))
    (kk : E l RX6 cc nL ret ini hh R w0 Tg k n (pc + 3) lv (.ref q :: st) (wl mi ml)) : E l RX6 cc nL ret ini hh R w0 Tg k n pc lv (.ref p :: st) (wl mi ml) :=
  E_get (ref := RX6) (T := TX6) (N := 23) rfl uX6 (by decide) fl_X6_25 rfl (wl_atO ht) (v := .ref q) (by simp [List.getElem?_mapIdx, hz, cellV]) hd kk
theorem fl_X6_28 : Wd (.fieldLink RX6 28 RX6 (TX6 10).2.1 (TX6 10).2.2.1) := ⟨List.mem_of_getElem? (i := 971) (by decide +kernel), rfl⟩
theorem gf_X6_28 {p q : Nat} {fs : List Value} (ht : twl[p]? = some (.inr (6, fs))) (hz : fs[10]? = some (.ref q)) (hd : decode cc pc = .ok (.getfield 28, 3))
    (kk : E l RX6 cc nL ret ini hh R w0 Tg k n (pc + 3) lv (.ref q :: st) (wl mi ml)) : E l RX6 cc nL ret ini hh R w0 Tg k n pc lv (.ref p :: st) (wl mi ml) :=
  E_get (ref := RX6) (T := TX6) (N := 23) rfl uX6 (by decide) fl_X6_28 rfl (wl_atO ht) (v := .ref q) (by simp [List.getElem?_mapIdx, hz, cellV]) hd kk
theorem fl_X6_31 : Wd (.fieldLink RX6 31 RX6 (TX6 12).2.1 (TX6 12).2.2.1) := ⟨List.mem_of_getElem? (i := 973) (by decide +kernel), rfl⟩
theorem gf_X6_31 {p q : Nat} {fs : List Value} (ht : twl[p]? = some (.inr (6, fs))) (hz : fs[12]? = some (.ref q)) (hd : decode cc pc = .ok (.getfield 31, 3))
    (kk : E l RX6 cc nL ret ini hh R w0 Tg k n (pc + 3) lv (.ref q :: st) (wl mi ml)) : E l RX6 cc nL ret ini hh R w0 Tg k n pc lv (.ref p :: st) (wl mi ml) :=
  E_get (ref := RX6) (T := TX6) (N := 23) rfl uX6 (by decide) fl_X6_31 rfl (wl_atO ht) (v := .ref q) (by simp [List.getElem?_mapIdx, hz, cellV]) hd kk
theorem fl_X6_34 : Wd (.fieldLink RX6 34 RX6 (TX6 13).2.1 (TX6 13).2.2.1) := ⟨List.mem_of_getElem? (i := 974) (by decide +kernel), rfl⟩
theorem gf_X6_34 {p q : Nat} {fs : List Value} (ht : twl[p]? = some (.inr (6, fs))) (hz : fs[13]? = some (.ref q)) (hd : decode cc pc = .ok (.getfield 34, 3))
    (kk : E l RX6 cc nL ret ini hh R w0 Tg k n (pc + 3) lv (.ref q :: st) (wl mi ml)) : E l RX6 cc nL ret ini hh R w0 Tg k n pc lv (.ref p :: st) (wl mi ml) :=
  E_get (ref := RX6) (T := TX6) (N := 23) rfl uX6 (by decide) fl_X6_34 rfl (wl_atO ht) (v := .ref q) (by simp [List.getElem?_mapIdx, hz, cellV]) hd kk
theorem fl_X6_37 : Wd (.fieldLink RX6 37 RX6 (TX6 17).2.1 (TX6 17).2.2.1) := ⟨List.mem_of_getElem? (i := 978) (by decide +kernel), rfl⟩
theorem gf_X6_37 {p q : Nat} {fs : List Value} (ht : twl[p]? = some (.inr (6, fs))) (hz : fs[17]? = some (.ref q)) (hd : decode cc pc = .ok (.getfield 37, 3))
    (kk : E l RX6 cc nL ret ini hh R w0 Tg k n (pc + 3) lv (.ref q :: st) (wl mi ml)) : E l RX6 cc nL ret ini hh R w0 Tg k n pc lv (.ref p :: st) (wl mi ml) :=
  E_get (ref := RX6) (T := TX6) (N := 23) rfl uX6 (by decide) fl_X6_37 rfl (wl_atO ht) (v := .ref q) (by simp [List.getElem?_mapIdx, hz, cellV]) hd kk
theorem fl_X6_40 : Wd (.fieldLink RX6 40 RX6 (TX6 19).2.1 (TX6 19).2.2.1) := ⟨List.mem_of_getElem? (i := 980) (by decide +kernel), rfl⟩
theorem gf_X6_40 {p q : Nat} {fs : List Value} (ht : twl[p]? = some (.inr (6, fs))) (hz : fs[19]? = some (.ref q)) (hd : decode cc pc = .ok (.getfield 40, 3))
    (kk : E l RX6 cc nL ret ini hh R w0 Tg k n (pc + 3) lv (.ref q :: st) (wl mi ml)) : E l RX6 cc nL ret ini hh R w0 Tg k n pc lv (.ref p :: st) (wl mi ml) :=
  E_get (ref := RX6) (T := TX6) (N := 23) rfl uX6 (by decide) fl_X6_40 rfl (wl_atO ht) (v := .ref q) (by simp [List.getElem?_mapIdx, hz, cellV]) hd kk
theorem fl_X6_43 : Wd (.fieldLink RX6 43 RX6 (TX6 5).2.1 (TX6 5).2.2.1) := ⟨List.mem_of_getElem? (i := 966) (by decide +kernel), rfl⟩
theorem gf_X6_43 {p : Nat} {fs : List Value} {z : Int32} (v : Int32) (ht : twl[p]? = some (.inr (6, fs))) (hz : fs[5]? = some (.int z)) (hv : mi p 5 = v) (hd : decode cc pc = .ok (.getfield 43, 3))
    (kk : E l RX6 cc nL ret ini hh R w0 Tg k n (pc + 3) lv (.int v :: st) (wl mi ml)) : E l RX6 cc nL ret ini hh R w0 Tg k n pc lv (.ref p :: st) (wl mi ml) :=
  E_get (ref := RX6) (T := TX6) (N := 23) rfl uX6 (by decide) fl_X6_43 rfl (wl_atO ht) (v := .int v) (by simp [List.getElem?_mapIdx, hz, cellV, hv]) hd kk
theorem pf_X6_43 {p : Nat} {fs : List Value} {z v : Int32} (ht : twl[p]? = some (.inr (6, fs))) (hz : fs[5]? = some (.int z)) (hd : decode cc pc = .ok (.putfield 43, 3))
    (kk : E l RX6 cc nL ret ini hh R w0 Tg k n (pc + 3) lv st (wl (u2 mi p 5 v) ml)) : E l RX6 cc nL ret ini hh R w0 Tg k n pc lv (.int v :: .ref p :: st) (wl mi ml) :=
  E_put (ref := RX6) (T := TX6) (N := 23) (ty := .int) tyX6 tyX6_ok nmX6 rfl uX6 (by decide) fl_X6_43 rfl rfl (by decide +kernel) (fun _ => rfl) (fun _ => rfl) (wl_atO ht) (by rw [List.length_mapIdx]; exact (List.getElem?_eq_some_iff.mp hz).1) hd (by rw [wl_puti ht hz]; exact kk)
theorem fl_X6_47 : Wd (.fieldLink RX6 47 RX6 (TX6 2).2.1 (TX6 2).2.2.1) := ⟨List.mem_of_getElem? (i := 963) (by decide +kernel), rfl⟩
theorem gf_X6_47 {p : Nat} {fs : List Value} {z : Int32} (v : Int32) (ht : twl[p]? = some (.inr (6, fs))) (hz : fs[2]? = some (.int z)) (hv : mi p 2 = v) (hd : decode cc pc = .ok (.getfield 47, 3))
    (kk : E l RX6 cc nL ret ini hh R w0 Tg k n (pc + 3) lv (.int v :: st) (wl mi ml)) : E l RX6 cc nL ret ini hh R w0 Tg k n pc lv (.ref p :: st) (wl mi ml) :=
  E_get (ref := RX6) (T := TX6) (N := 23) rfl uX6 (by decide) fl_X6_47 rfl (wl_atO ht) (v := .int v) (by simp [List.getElem?_mapIdx, hz, cellV, hv]) hd kk
theorem pf_X6_47 {p : Nat} {fs : List Value} {z v : Int32} (ht : twl[p]? = some (.inr (6, fs))) (hz : fs[2]? = some (.int z)) (hd : decode cc pc = .ok (.putfield 47, 3))
    (kk : E l RX6 cc nL ret ini hh R w0 Tg k n (pc + 3) lv st (wl (u2 mi p 2 v) ml)) : E l RX6 cc nL ret ini hh R w0 Tg k n pc lv (.int v :: .ref p :: st) (wl mi ml) :=
  E_put (ref := RX6) (T := TX6) (N := 23) (ty := .int) tyX6 tyX6_ok nmX6 rfl uX6 (by decide) fl_X6_47 rfl rfl (by decide +kernel) (fun _ => rfl) (fun _ => rfl) (wl_atO ht) (by rw [List.length_mapIdx]; exact (List.getElem?_eq_some_iff.mp hz).1) hd (by rw [wl_puti ht hz]; exact kk)
theorem fl_X6_95 : Wd (.fieldLink RX6 95 RX6 (TX6 9).2.1 (TX6 9).2.2.1) := ⟨List.mem_of_getElem? (i := 970) (by decide +kernel), rfl⟩
theorem gf_X6_95 {p : Nat} {fs : List Value} {z : Int32} (v : Int32) (ht : twl[p]? = some (.inr (6, fs))) (hz : fs[9]? = some (.int z)) (hv : mi p 9 = v) (hd : decode cc pc = .ok (.getfield 95, 3))
    (kk : E l RX6 cc nL ret ini hh R w0 Tg k n (pc + 3) lv (.int v :: st) (wl mi ml)) : E l RX6 cc nL ret ini hh R w0 Tg k n pc lv (.ref p :: st) (wl mi ml) :=
  E_get (ref := RX6) (T := TX6) (N := 23) rfl uX6 (by decide) fl_X6_95 rfl (wl_atO ht) (v := .int v) (by simp [List.getElem?_mapIdx, hz, cellV, hv]) hd kk
theorem pf_X6_95 {p : Nat} {fs : List Value} {z v : Int32} (ht : twl[p]? = some (.inr (6, fs))) (hz : fs[9]? = some (.int z)) (hd : decode cc pc = .ok (.putfield 95, 3))
    (kk : E l RX6 cc nL ret ini hh R w0 Tg k n (pc + 3) lv st (wl (u2 mi p 9 v) ml)) : E l RX6 cc nL ret ini hh R w0 Tg k n pc lv (.int v :: .ref p :: st) (wl mi ml) :=
  E_put (ref := RX6) (T := TX6) (N := 23) (ty := .int) tyX6 tyX6_ok nmX6 rfl uX6 (by decide) fl_X6_95 rfl rfl (by decide +kernel) (fun _ => rfl) (fun _ => rfl) (wl_atO ht) (by rw [List.length_mapIdx]; exact (List.getElem?_eq_some_iff.mp hz).1) hd (by rw [wl_puti ht hz]; exact kk)
theorem fl_X6_141 : Wd (.fieldLink RX6 141 RX6 (TX6 11).2.1 (TX6 11).2.2.1) := ⟨List.mem_of_getElem? (i := 972) (by decide +kernel), rfl⟩
theorem gf_X6_141 {p : Nat} {fs : List Value} {z : Int64} (v : Int64) (ht : twl[p]? = some (.inr (6, fs))) (hz : fs[11]? = some (.long z)) (hv : ml p 11 = v) (hd : decode cc pc = .ok (.getfield 141, 3))
    (kk : E l RX6 cc nL ret ini hh R w0 Tg k n (pc + 3) lv (.long v :: st) (wl mi ml)) : E l RX6 cc nL ret ini hh R w0 Tg k n pc lv (.ref p :: st) (wl mi ml) :=
  E_get (ref := RX6) (T := TX6) (N := 23) rfl uX6 (by decide) fl_X6_141 rfl (wl_atO ht) (v := .long v) (by simp [List.getElem?_mapIdx, hz, cellV, hv]) hd kk
theorem pf_X6_141 {p : Nat} {fs : List Value} {z v : Int64} (ht : twl[p]? = some (.inr (6, fs))) (hz : fs[11]? = some (.long z)) (hd : decode cc pc = .ok (.putfield 141, 3))
    (kk : E l RX6 cc nL ret ini hh R w0 Tg k n (pc + 3) lv st (wl mi (u2 ml p 11 v))) : E l RX6 cc nL ret ini hh R w0 Tg k n pc lv (.long v :: .ref p :: st) (wl mi ml) :=
  E_put (ref := RX6) (T := TX6) (N := 23) (ty := .long) tyX6 tyX6_ok nmX6 rfl uX6 (by decide) fl_X6_141 rfl rfl (by decide +kernel) (fun _ => rfl) (fun _ => rfl) (wl_atO ht) (by rw [List.length_mapIdx]; exact (List.getElem?_eq_some_iff.mp hz).1) hd (by rw [wl_putj ht hz]; exact kk)
theorem fl_X6_165 : Wd (.fieldLink RX6 165 RX6 (TX6 14).2.1 (TX6 14).2.2.1) := ⟨List.mem_of_getElem? (i := 975) (by decide +kernel), rfl⟩
theorem gf_X6_165 {p : Nat} {fs : List Value} {z : Int32} (v : Int32) (ht : twl[p]? = some (.inr (6, fs))) (hz : fs[14]? = some (.int z)) (hv : mi p 14 = v) (hd : decode cc pc = .ok (.getfield 165, 3))
    (kk : E l RX6 cc nL ret ini hh R w0 Tg k n (pc + 3) lv (.int v :: st) (wl mi ml)) : E l RX6 cc nL ret ini hh R w0 Tg k n pc lv (.ref p :: st) (wl mi ml) :=
  E_get (ref := RX6) (T := TX6) (N := 23) rfl uX6 (by decide) fl_X6_165 rfl (wl_atO ht) (v := .int v) (by simp [List.getElem?_mapIdx, hz, cellV, hv]) hd kk
theorem pf_X6_165 {p : Nat} {fs : List Value} {z v : Int32} (ht : twl[p]? = some (.inr (6, fs))) (hz : fs[14]? = some (.int z)) (hd : decode cc pc = .ok (.putfield 165, 3))
    (kk : E l RX6 cc nL ret ini hh R w0 Tg k n (pc + 3) lv st (wl (u2 mi p 14 v) ml)) : E l RX6 cc nL ret ini hh R w0 Tg k n pc lv (.int v :: .ref p :: st) (wl mi ml) :=
  E_put (ref := RX6) (T := TX6) (N := 23) (ty := .int) tyX6 tyX6_ok nmX6 rfl uX6 (by decide) fl_X6_165 rfl rfl (by decide +kernel) (fun _ => rfl) (fun _ => rfl) (wl_atO ht) (by rw [List.length_mapIdx]; exact (List.getElem?_eq_some_iff.mp hz).1) hd (by rw [wl_puti ht hz]; exact kk)
theorem fl_X6_174 : Wd (.fieldLink RX6 174 RX6 (TX6 4).2.1 (TX6 4).2.2.1) := ⟨List.mem_of_getElem? (i := 965) (by decide +kernel), rfl⟩
theorem gf_X6_174 {p : Nat} {fs : List Value} {z : Int32} (v : Int32) (ht : twl[p]? = some (.inr (6, fs))) (hz : fs[4]? = some (.int z)) (hv : mi p 4 = v) (hd : decode cc pc = .ok (.getfield 174, 3))
    (kk : E l RX6 cc nL ret ini hh R w0 Tg k n (pc + 3) lv (.int v :: st) (wl mi ml)) : E l RX6 cc nL ret ini hh R w0 Tg k n pc lv (.ref p :: st) (wl mi ml) :=
  E_get (ref := RX6) (T := TX6) (N := 23) rfl uX6 (by decide) fl_X6_174 rfl (wl_atO ht) (v := .int v) (by simp [List.getElem?_mapIdx, hz, cellV, hv]) hd kk
theorem pf_X6_174 {p : Nat} {fs : List Value} {z v : Int32} (ht : twl[p]? = some (.inr (6, fs))) (hz : fs[4]? = some (.int z)) (hd : decode cc pc = .ok (.putfield 174, 3))
    (kk : E l RX6 cc nL ret ini hh R w0 Tg k n (pc + 3) lv st (wl (u2 mi p 4 v) ml)) : E l RX6 cc nL ret ini hh R w0 Tg k n pc lv (.int v :: .ref p :: st) (wl mi ml) :=
  E_put (ref := RX6) (T := TX6) (N := 23) (ty := .int) tyX6 tyX6_ok nmX6 rfl uX6 (by decide) fl_X6_174 rfl rfl (by decide +kernel) (fun _ => rfl) (fun _ => rfl) (wl_atO ht) (by rw [List.length_mapIdx]; exact (List.getElem?_eq_some_iff.mp hz).1) hd (by rw [wl_puti ht hz]; exact kk)
theorem fl_X6_177 : Wd (.fieldLink RX6 177 RX6 (TX6 15).2.1 (TX6 15).2.2.1) := ⟨List.mem_of_getElem? (i := 976) (by decide +kernel), rfl⟩
theorem gf_X6_177 {p : Nat} {fs : List Value} {z : Int32} (v : Int32) (ht : twl[p]? = some (.inr (6, fs))) (hz : fs[15]? = some (.int z)) (hv : mi p 15 = v) (hd : decode cc pc = .ok (.getfield 177, 3))
    (kk : E l RX6 cc nL ret ini hh R w0 Tg k n (pc + 3) lv (.int v :: st) (wl mi ml)) : E l RX6 cc nL ret ini hh R w0 Tg k n pc lv (.ref p :: st) (wl mi ml) :=
  E_get (ref := RX6) (T := TX6) (N := 23) rfl uX6 (by decide) fl_X6_177 rfl (wl_atO ht) (v := .int v) (by simp [List.getElem?_mapIdx, hz, cellV, hv]) hd kk
theorem pf_X6_177 {p : Nat} {fs : List Value} {z v : Int32} (ht : twl[p]? = some (.inr (6, fs))) (hz : fs[15]? = some (.int z)) (hd : decode cc pc = .ok (.putfield 177, 3))
    (kk : E l RX6 cc nL ret ini hh R w0 Tg k n (pc + 3) lv st (wl (u2 mi p 15 v) ml)) : E l RX6 cc nL ret ini hh R w0 Tg k n pc lv (.int v :: .ref p :: st) (wl mi ml) :=
  E_put (ref := RX6) (T := TX6) (N := 23) (ty := .int) tyX6 tyX6_ok nmX6 rfl uX6 (by decide) fl_X6_177 rfl rfl (by decide +kernel) (fun _ => rfl) (fun _ => rfl) (wl_atO ht) (by rw [List.length_mapIdx]; exact (List.getElem?_eq_some_iff.mp hz).1) hd (by rw [wl_puti ht hz]; exact kk)
theorem fl_X6_183 : Wd (.fieldLink RX6 183 RX6 (TX6 21).2.1 (TX6 21).2.2.1) := ⟨List.mem_of_getElem? (i := 982) (by decide +kernel), rfl⟩
theorem gf_X6_183 {p : Nat} {fs : List Value} {z : Int32} (v : Int32) (ht : twl[p]? = some (.inr (6, fs))) (hz : fs[21]? = some (.int z)) (hv : mi p 21 = v) (hd : decode cc pc = .ok (.getfield 183, 3))
    (kk : E l RX6 cc nL ret ini hh R w0 Tg k n (pc + 3) lv (.int v :: st) (wl mi ml)) : E l RX6 cc nL ret ini hh R w0 Tg k n pc lv (.ref p :: st) (wl mi ml) :=
  E_get (ref := RX6) (T := TX6) (N := 23) rfl uX6 (by decide) fl_X6_183 rfl (wl_atO ht) (v := .int v) (by simp [List.getElem?_mapIdx, hz, cellV, hv]) hd kk
theorem pf_X6_183 {p : Nat} {fs : List Value} {z v : Int32} (ht : twl[p]? = some (.inr (6, fs))) (hz : fs[21]? = some (.int z)) (hd : decode cc pc = .ok (.putfield 183, 3))
    (kk : E l RX6 cc nL ret ini hh R w0 Tg k n (pc + 3) lv st (wl (u2 mi p 21 v) ml)) : E l RX6 cc nL ret ini hh R w0 Tg k n pc lv (.int v :: .ref p :: st) (wl mi ml) :=
  E_put (ref := RX6) (T := TX6) (N := 23) (ty := .int) tyX6 tyX6_ok nmX6 rfl uX6 (by decide) fl_X6_183 rfl rfl (by decide +kernel) (fun _ => rfl) (fun _ => rfl) (wl_atO ht) (by rw [List.length_mapIdx]; exact (List.getElem?_eq_some_iff.mp hz).1) hd (by rw [wl_puti ht hz]; exact kk)
theorem fl_X6_186 : Wd (.fieldLink RX6 186 RX6 (TX6 16).2.1 (TX6 16).2.2.1) := ⟨List.mem_of_getElem? (i := 977) (by decide +kernel), rfl⟩
theorem gf_X6_186 {p : Nat} {fs : List Value} {z : Int32} (v : Int32) (ht : twl[p]? = some (.inr (6, fs))) (hz : fs[16]? = some (.int z)) (hv : mi p 16 = v) (hd : decode cc pc = .ok (.getfield 186, 3))
    (kk : E l RX6 cc nL ret ini hh R w0 Tg k n (pc + 3) lv (.int v :: st) (wl mi ml)) : E l RX6 cc nL ret ini hh R w0 Tg k n pc lv (.ref p :: st) (wl mi ml) :=
  E_get (ref := RX6) (T := TX6) (N := 23) rfl uX6 (by decide) fl_X6_186 rfl (wl_atO ht) (v := .int v) (by simp [List.getElem?_mapIdx, hz, cellV, hv]) hd kk
theorem pf_X6_186 {p : Nat} {fs : List Value} {z v : Int32} (ht : twl[p]? = some (.inr (6, fs))) (hz : fs[16]? = some (.int z)) (hd : decode cc pc = .ok (.putfield 186, 3))
    (kk : E l RX6 cc nL ret ini hh R w0 Tg k n (pc + 3) lv st (wl (u2 mi p 16 v) ml)) : E l RX6 cc nL ret ini hh R w0 Tg k n pc lv (.int v :: .ref p :: st) (wl mi ml) :=
  E_put (ref := RX6) (T := TX6) (N := 23) (ty := .int) tyX6 tyX6_ok nmX6 rfl uX6 (by decide) fl_X6_186 rfl rfl (by decide +kernel) (fun _ => rfl) (fun _ => rfl) (wl_atO ht) (by rw [List.length_mapIdx]; exact (List.getElem?_eq_some_iff.mp hz).1) hd (by rw [wl_puti ht hz]; exact kk)
theorem fl_X6_189 : Wd (.fieldLink RX6 189 RX6 (TX6 18).2.1 (TX6 18).2.2.1) := ⟨List.mem_of_getElem? (i := 979) (by decide +kernel), rfl⟩
theorem gf_X6_189 {p : Nat} {fs : List Value} {z : Int32} (v : Int32) (ht : twl[p]? = some (.inr (6, fs))) (hz : fs[18]? = some (.int z)) (hv : mi p 18 = v) (hd : decode cc pc = .ok (.getfield 189, 3))
    (kk : E l RX6 cc nL ret ini hh R w0 Tg k n (pc + 3) lv (.int v :: st) (wl mi ml)) : E l RX6 cc nL ret ini hh R w0 Tg k n pc lv (.ref p :: st) (wl mi ml) :=
  E_get (ref := RX6) (T := TX6) (N := 23) rfl uX6 (by decide) fl_X6_189 rfl (wl_atO ht) (v := .int v) (by simp [List.getElem?_mapIdx, hz, cellV, hv]) hd kk
theorem pf_X6_189 {p : Nat} {fs : List Value} {z v : Int32} (ht : twl[p]? = some (.inr (6, fs))) (hz : fs[18]? = some (.int z)) (hd : decode cc pc = .ok (.putfield 189, 3))
    (kk : E l RX6 cc nL ret ini hh R w0 Tg k n (pc + 3) lv st (wl (u2 mi p 18 v) ml)) : E l RX6 cc nL ret ini hh R w0 Tg k n pc lv (.int v :: .ref p :: st) (wl mi ml) :=
  E_put (ref := RX6) (T := TX6) (N := 23) (ty := .int) tyX6 tyX6_ok nmX6 rfl uX6 (by decide) fl_X6_189 rfl rfl (by decide +kernel) (fun _ => rfl) (fun _ => rfl) (wl_atO ht) (by rw [List.length_mapIdx]; exact (List.getElem?_eq_some_iff.mp hz).1) hd (by rw [wl_puti ht hz]; exact kk)
theorem fl_X6_203 : Wd (.fieldLink RX6 203 RX6 (TX6 20).2.1 (TX6 20).2.2.1) := ⟨List.mem_of_getElem? (i := 981) (by decide +kernel), rfl⟩
theorem gf_X6_203 {p : Nat} {fs : List Value} {z : Int32} (v : Int32) (ht : twl[p]? = some (.inr (6, fs))) (hz : fs[20]? = some (.int z)) (hv : mi p 20 = v) (hd : decode cc pc = .ok (.getfield 203, 3))
    (kk : E l RX6 cc nL ret ini hh R w0 Tg k n (pc + 3) lv (.int v :: st) (wl mi ml)) : E l RX6 cc nL ret ini hh R w0 Tg k n pc lv (.ref p :: st) (wl mi ml) :=
  E_get (ref := RX6) (T := TX6) (N := 23) rfl uX6 (by decide) fl_X6_203 rfl (wl_atO ht) (v := .int v) (by simp [List.getElem?_mapIdx, hz, cellV, hv]) hd kk
theorem pf_X6_203 {p : Nat} {fs : List Value} {z v : Int32} (ht : twl[p]? = some (.inr (6, fs))) (hz : fs[20]? = some (.int z)) (hd : decode cc pc = .ok (.putfield 203, 3))
    (kk : E l RX6 cc nL ret ini hh R w0 Tg k n (pc + 3) lv st (wl (u2 mi p 20 v) ml)) : E l RX6 cc nL ret ini hh R w0 Tg k n pc lv (.int v :: .ref p :: st) (wl mi ml) :=
  E_put (ref := RX6) (T := TX6) (N := 23) (ty := .int) tyX6 tyX6_ok nmX6 rfl uX6 (by decide) fl_X6_203 rfl rfl (by decide +kernel) (fun _ => rfl) (fun _ => rfl) (wl_atO ht) (by rw [List.length_mapIdx]; exact (List.getElem?_eq_some_iff.mp hz).1) hd (by rw [wl_puti ht hz]; exact kk)
theorem fl_X6_217 : Wd (.fieldLink RX6 217 RX6 (TX6 22).2.1 (TX6 22).2.2.1) := ⟨List.mem_of_getElem? (i := 983) (by decide +kernel), rfl⟩
theorem gf_X6_217 {p : Nat} {fs : List Value} {z : Int64} (v : Int64) (ht : twl[p]? = some (.inr (6, fs))) (hz : fs[22]? = some (.long z)) (hv : ml p 22 = v) (hd : decode cc pc = .ok (.getfield 217, 3))
    (kk : E l RX6 cc nL ret ini hh R w0 Tg k n (pc + 3) lv (.long v :: st) (wl mi ml)) : E l RX6 cc nL ret ini hh R w0 Tg k n pc lv (.ref p :: st) (wl mi ml) :=
  E_get (ref := RX6) (T := TX6) (N := 23) rfl uX6 (by decide) fl_X6_217 rfl (wl_atO ht) (v := .long v) (by simp [List.getElem?_mapIdx, hz, cellV, hv]) hd kk
theorem pf_X6_217 {p : Nat} {fs : List Value} {z v : Int64} (ht : twl[p]? = some (.inr (6, fs))) (hz : fs[22]? = some (.long z)) (hd : decode cc pc = .ok (.putfield 217, 3))
    (kk : E l RX6 cc nL ret ini hh R w0 Tg k n (pc + 3) lv st (wl mi (u2 ml p 22 v))) : E l RX6 cc nL ret ini hh R w0 Tg k n pc lv (.long v :: .ref p :: st) (wl mi ml) :=
  E_put (ref := RX6) (T := TX6) (N := 23) (ty := .long) tyX6 tyX6_ok nmX6 rfl uX6 (by decide) fl_X6_217 rfl rfl (by decide +kernel) (fun _ => rfl) (fun _ => rfl) (wl_atO ht) (by rw [List.length_mapIdx]; exact (List.getElem?_eq_some_iff.mp hz).1) hd (by rw [wl_putj ht hz]; exact kk)
end rows
/-- the six desks -/
def isD (h : Nat) : Prop := h = 1 ∨ h = 9 ∨ h = 19 ∨ h = 27 ∨ h = 35 ∨ h = 43
theorem isD.t {h : Nat} (hd : isD h) : twl[h]? = some (.inr (1, dkF h)) := by rcases hd with rfl | rfl | rfl | rfl | rfl | rfl <;> rfl
theorem isD.a1 {h : Nat} (hd : isD h) : twl[h + 1]? = some (.inl (0, 10, .inl (fun _ => 0))) := by rcases hd with rfl | rfl | rfl | rfl | rfl | rfl <;> rfl
theorem isD.a2 {h : Nat} (hd : isD h) : twl[h + 2]? = some (.inl (0, 10, .inl (fun _ => 0))) := by rcases hd with rfl | rfl | rfl | rfl | rfl | rfl <;> rfl
theorem isD.a3 {h : Nat} (hd : isD h) : twl[h + 3]? = some (.inl (0, 5, .inl (fun _ => 0))) := by rcases hd with rfl | rfl | rfl | rfl | rfl | rfl <;> rfl
theorem isD.a4 {h : Nat} (hd : isD h) : twl[h + 4]? = some (.inl (0, 16, .inl (fun _ => 0))) := by rcases hd with rfl | rfl | rfl | rfl | rfl | rfl <;> rfl
theorem isD.a5 {h : Nat} (hd : isD h) : twl[h + 5]? = some (.inl (0, 16, .inl (fun _ => 0))) := by rcases hd with rfl | rfl | rfl | rfl | rfl | rfl <;> rfl
theorem isD.a6 {h : Nat} (hd : isD h) : twl[h + 6]? = some (.inl (0, 16, .inl (fun _ => 0))) := by rcases hd with rfl | rfl | rfl | rfl | rfl | rfl <;> rfl
theorem isD.a7 {h : Nat} (hd : isD h) : twl[h + 7]? = some (.inl (0, 16, .inl (fun _ => 0))) := by rcases hd with rfl | rfl | rfl | rfl | rfl | rfl <;> rfl
theorem isD_1 : isD 1 := by unfold isD; omega
theorem isD_9 : isD 9 := by unfold isD; omega
theorem isD_19 : isD 19 := by unfold isD; omega
theorem isD_27 : isD 27 := by unfold isD; omega
theorem isD_35 : isD 35 := by unfold isD; omega
theorem isD_43 : isD 43 := by unfold isD; omega
theorem tw_0 : twl[0]? = some (.inr (5, xF)) := rfl
theorem tw_17 : twl[17]? = some (.inr (2, hF)) := rfl
theorem tw_51 : twl[51]? = some (.inr (3, mxF)) := rfl
theorem tw_53 : twl[53]? = some (.inr (0, csF)) := rfl
theorem tw_58 : twl[58]? = some (.inr (4, plF)) := rfl
theorem tw_61 : twl[61]? = some (.inr (6, moF)) := rfl
theorem tw_52 : twl[52]? = some (.inl (0, 3240, .inl (fun _ => 0))) := rfl
theorem tw_54 : twl[54]? = some (.inl (0, 11, .inl (fun _ => 0))) := rfl
theorem tw_55 : twl[55]? = some (.inl (0, 11, .inl (fun _ => 0))) := rfl
theorem tw_59 : twl[59]? = some (.inl (0, 120, .inl (fun _ => 0))) := rfl
theorem tw_62 : twl[62]? = some (.inl (0, 81, .inl (fun _ => 0))) := rfl
theorem tw_63 : twl[63]? = some (.inl (0, 324, .inl (fun _ => 0))) := rfl
theorem tw_64 : twl[64]? = some (.inl (0, 120, .inl (fun _ => 0))) := rfl
theorem tw_65 : twl[65]? = some (.inl (0, 12, .inl (fun _ => 0))) := rfl
theorem tw_66 : twl[66]? = some (.inl (0, 12, .inl (fun _ => 0))) := rfl
theorem tw_67 : twl[67]? = some (.inl (0, 3300, .inl (fun _ => 0))) := rfl
theorem tw_68 : twl[68]? = some (.inl (0, 8, .inl (fun _ => 0))) := rfl
theorem tw_69 : twl[69]? = some (.inl (0, 17, .inl (fun _ => 0))) := rfl
theorem tw_70 : twl[70]? = some (.inl (0, 32, .inl (fun _ => 0))) := rfl
theorem tw_71 : twl[71]? = some (.inl (0, 20, .inl (fun _ => 0))) := rfl
theorem tw_72 : twl[72]? = some (.inl (0, 5, .inl (fun _ => 0))) := rfl
theorem tw_56 : twl[56]? = some (.inl (1, 12, .inr (.inl (fun _ => 0)))) := rfl
theorem tw_57 : twl[57]? = some (.inl (1, 12, .inr (.inl (fun _ => 0)))) := rfl
theorem tw_60 : twl[60]? = some (.inl (1, 5, .inr (.inl (fun _ => 0)))) := rfl
theorem tw_73 : twl[73]? = some (.inl (1, 1, .inr (.inl (fun _ => 0)))) := rfl
theorem tw_18 : twl[18]? = some (.inl (2, 4, .inr (.inr (.inr (.inr svF))))) := rfl
end MEM
