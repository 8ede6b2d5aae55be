section CPY
variable {l : Launch} {own : String} {cc : ByteArray} {nL : Nat} {ret : Option FieldType} {ini : Bool} {hh : List ExceptionTableEntry} {R : Room} {w0 : AW} {Tg : TgT} {k n pc : Nat} {lv : List (Nat × Value)} {st : List Value}
theorem wst_copy : Wd (.static arraycopyName) := ⟨List.mem_of_getElem? (i := 455) (by decide +kernel), rfl⟩
theorem wnt_copy : Wd (.native arraycopyName) := ⟨List.mem_of_getElem? (i := 456) (by decide +kernel), rfl⟩
theorem E_copyi {w : AW} {idx i0 i1 z0 z1 : Nat} {f h : Nat → Int32} {sp dp q : Int32} (hlk : Wd (.methodLink own idx arraycopyName)) (hw0 : w[i0]? = some (.inl (0, z0, .inl f))) (hw1 : w[i1]? = some (.inl (0, z1, .inl h))) (h1 : ¬ sp < 0) (h2 : ¬ dp < 0) (h3 : ¬ q < 0) (h4 : sp.toNatClampNeg + q.toNatClampNeg ≤ z0) (h5 : dp.toNatClampNeg + q.toNatClampNeg ≤ z1)
    (hR : 1 ≤ R.frames ∧ (st.map fun v => v.category).sum + (nativeFrameWords "java/lang/System" "arraycopy" 5 + 11) ≤ R.locals) (hd : decode cc pc = .ok (.invokestatic idx, 3))
    (kk : E l own cc nL ret ini hh R w0 Tg k n (pc + 3) lv st (w.set i1 (.inl (0, z1, .inl (va_cpy f h sp.toNatClampNeg dp.toNatClampNeg q.toNatClampNeg))))) : E l own cc nL ret ini hh R w0 Tg k n pc lv (.int q :: .int dp :: .ref i1 :: .int sp :: .ref i0 :: st) w := by
  intro p e s m args below meth c g ad H locs ls hc hP hD hS hl
  have hT := hc.2.2.2.2.2.2.2.2.2.1
  refine va_copyi hc.1 hc.2.1 (by rw [hc.2.2.1]; exact hl.1.symm) hc.2.2.2.2.1 (hT.1.use hlk) (hT.1.use wnt_copy) (hT.1.use wst_copy) (hT.1.use wz_System) hT.2.2.2 hP hD hS i0 i1 0 0 (cW_at hw0) (cW_at hw1) rfl rfl rfl h1 h2 h3 h4 h5 (fun _ _ => rfl) hR.1 (by rw [cV_sum]; exact hR.2) hd (fun H1 locs1 hP1 hD1 hS1 => ?_)
  rw [show (Sum.inl (g.2 0, z1, Sum.inl (va_cpy f h sp.toNatClampNeg dp.toNatClampNeg q.toNatClampNeg)) : va_E) = cE g ad (.inl (0, z1, .inl (va_cpy f h sp.toNatClampNeg dp.toNatClampNeg q.toNatClampNeg))) from rfl, cW_set] at hP1 hD1
  exact kk p e s m args below meth c g ad H1 locs1 ls hc hP1 hD1 hS1 hl
/-- one place's numbers, all at once -/
def uR (mi : MI) (p : Nat) (r : Nat → Int32) : MI := fun q => if q = p then r else mi q
theorem uR_s {mi : MI} {p : Nat} {r : Nat → Int32} : uR mi p r p = r := by unfold uR; rw [if_pos rfl]
theorem uR_n {mi : MI} {p q : Nat} {r : Nat → Int32} (h : q ≠ p) : uR mi p r q = mi q := by unfold uR; rw [if_neg h]
theorem cellM_oR {mi : MI} {ml : MJ} {p : Nat} {r : Nat → Int32} {j : Nat} (hj : j ≠ p) (e : va_E) : cellM (uR mi p r) ml j e = cellM mi ml j e := by
  obtain ⟨t, n, f⟩ | ⟨ci, fs⟩ := e
  · rcases f with f | f | f | f | f <;> simp [cellM, uR_n hj]
  · have h9 : (fun k' v' => cellV (uR mi p r) ml j k' v') = fun k' v' => cellV mi ml j k' v' := by
      funext k' v'
      cases v' <;> simp [cellV, uR_n hj]
    simp only [cellM, h9]
theorem wl_setR {mi : MI} {ml : MJ} {p : Nat} {r : Nat → Int32} {e e' : va_E} (h : twl[p]? = some e) (he : cellM (uR mi p r) ml p e = e') : (wl mi ml).set p e' = wl (uR mi p r) ml := by
  apply List.ext_getElem?
  intro j
  rw [List.getElem?_set]
  by_cases hj : p = j
  · subst hj
    have hl : p < (wl mi ml).length := by
      simp only [wl, List.length_mapIdx]
      exact (List.getElem?_eq_some_iff.mp h).1
    rw [if_pos rfl, if_pos hl, wl_at h, he]
  · rw [if_neg hj]
    simp only [wl, List.getElem?_mapIdx]
    cases twl[j]? with
    | none => rfl
    | some x => simp only [Option.map_some, cellM_oR (Ne.symm hj)]
def cpR (a b : Nat → Int32) (q : Nat) : Nat → Int32 := fun k => if k < q then a k else b k
theorem cpR_y {a b : Nat → Int32} {q k : Nat} (h : k < q) : cpR a b q k = a k := by unfold cpR; rw [if_pos h]
theorem S_copyi {mi : MI} {ml : MJ} {idx i0 i1 z0 z1 : Nat} {f0 f1 : Nat → Int32} {q : Int32} (qn : Nat) (hlk : Wd (.methodLink own idx arraycopyName)) (ht0 : twl[i0]? = some (.inl (0, z0, .inl f0))) (ht1 : twl[i1]? = some (.inl (0, z1, .inl f1))) (hq : q.toInt = (qn : Int)) (h4 : qn ≤ z0) (h5 : qn ≤ z1)
    (hR : 1 ≤ R.frames ∧ (st.map fun v => v.category).sum + (nativeFrameWords "java/lang/System" "arraycopy" 5 + 11) ≤ R.locals) (hd : decode cc pc = .ok (.invokestatic idx, 3))
    (kk : E l own cc nL ret ini hh R w0 Tg k n (pc + 3) lv st (wl (uR mi i1 (cpR (mi i0) (mi i1) qn)) ml)) : E l own cc nL ret ini hh R w0 Tg k n pc lv (.int q :: .int 0 :: .ref i1 :: .int 0 :: .ref i0 :: st) (wl mi ml) := by
  have hq2 : q.toNatClampNeg = qn := tNC q hq
  have hq3 : ¬ q < 0 := fun z => by
    have := Int32.lt_iff_toInt_lt.mp z
    rw [hq] at this
    exact absurd this (by simp)
  refine E_copyi (f := mi i0) (h := mi i1) hlk (wl_at ht0) (wl_at ht1) (by decide) (by decide) hq3 (by rw [hq2]; show 0 + qn ≤ z0; omega) (by rw [hq2]; show 0 + qn ≤ z1; omega) hR hd ?_
  rw [hq2]
  have e : va_cpy (mi i0) (mi i1) (0 : Int32).toNatClampNeg (0 : Int32).toNatClampNeg qn = cpR (mi i0) (mi i1) qn := by
    funext j
    show (if 0 ≤ j ∧ j < 0 + qn then mi i0 (0 + (j - 0)) else mi i1 j) = if j < qn then mi i0 j else mi i1 j
    by_cases h : j < qn
    · rw [if_pos ⟨Nat.zero_le _, by omega⟩, if_pos h]
      congr 1; omega
    · rw [if_neg (fun z => h (by omega)), if_neg h]
  rw [e, wl_setR (r := cpR (mi i0) (mi i1) qn) ht1 (by simp only [cellM, uR_s])]
  exact kk
end CPY
