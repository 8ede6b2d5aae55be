section MO16
/-- Int64 by its bits -/
def lb (x : Int64) (i : Nat) : Bool := x.toBitVec.getLsbD i
theorem lb_ext {x y : Int64} (h : ∀ i, i < 64 → lb x i = lb y i) : x = y := Int64.toBitVec_inj.mp (BitVec.eq_of_getLsbD_eq (fun i hi => h i hi))
theorem lb_or (x y : Int64) (i : Nat) : lb (x ||| y) i = (lb x i || lb y i) := by unfold lb; rw [Int64.toBitVec_or, BitVec.getLsbD_or]
theorem lb_and (x y : Int64) (i : Nat) : lb (x &&& y) i = (lb x i && lb y i) := by unfold lb; rw [Int64.toBitVec_and, BitVec.getLsbD_and]
theorem lb_0 (i : Nat) : lb 0 i = false := BitVec.getLsbD_zero
theorem lb_1 : ∀ i, i < 64 → lb 1 i = decide (i = 0) := by decide +kernel
theorem lb_s : ∀ c, c < 64 → (((nI c).toInt64 &&& 63).toBitVec.smod 64).toNat = c := by decide +kernel
theorem lb_shr (c : Nat) (hc : c < 64) (x : Int64) {i : Nat} (hi : i < 64) : lb (x >>> ((nI c).toInt64 &&& 63)) i = if c + i < 64 then lb x (c + i) else lb x 63 := by
  unfold lb
  rw [Int64.toBitVec_shiftRight]
  show (x.toBitVec.sshiftRight (((nI c).toInt64 &&& 63).toBitVec.smod 64).toNat).getLsbD i = _
  rw [lb_s c hc, BitVec.getLsbD_sshiftRight, BitVec.msb_eq_getLsbD_last, decide_eq_false (show ¬ 64 ≤ i by omega)]
  rfl
theorem lb_shl (c : Nat) (hc : c < 64) (x : Int64) {i : Nat} (hi : i < 64) : lb (x <<< ((nI c).toInt64 &&& 63)) i = (decide (c ≤ i) && lb x (i - c)) := by
  unfold lb
  rw [Int64.toBitVec_shiftLeft]
  show (x.toBitVec <<< (((nI c).toInt64 &&& 63).toBitVec.smod 64).toNat).getLsbD i = _
  rw [lb_s c hc, BitVec.getLsbD_shiftLeft]
  have e : (!decide (i < c)) = decide (c ≤ i) := by
    rcases Nat.lt_or_ge i c with h | h
    · rw [decide_eq_true h, decide_eq_false (show ¬ c ≤ i by omega)]; rfl
    · rw [decide_eq_false (show ¬ i < c by omega), decide_eq_true h]; rfl
  rw [e, decide_eq_true hi, Bool.true_and]
theorem lb_one {c i : Nat} (hc : c < 64) (hi : i < 64) : lb ((1 : Int64) <<< ((nI c).toInt64 &&& 63)) i = decide (i = c) := by
  rw [lb_shl c hc 1 hi, lb_1 _ (by omega)]
  rcases Nat.lt_or_ge i c with h | h
  · rw [decide_eq_false (by omega), decide_eq_false (p := i = c) (by omega)]; rfl
  · rw [decide_eq_true h, Bool.true_and]
    congr 1
    exact propext ⟨fun q => by omega, fun q => by omega⟩
theorem lb_bit {c : Nat} (hc : c < 64) (x : Int64) : ((x >>> ((nI c).toInt64 &&& 63)) &&& 1) = 0 ↔ lb x c = false := by
  constructor
  · intro h
    have h1 := congrArg (fun y => lb y 0) h
    change lb ((x >>> ((nI c).toInt64 &&& 63)) &&& 1) 0 = lb 0 0 at h1
    rw [lb_and, lb_shr c hc x (by omega), lb_1 0 (by omega), lb_0, if_pos (by omega)] at h1
    simpa using h1
  · intro h
    refine lb_ext (fun i hi => ?_)
    rw [lb_and, lb_1 i hi, lb_0]
    rcases Nat.eq_zero_or_pos i with q | q
    · subst q
      rw [lb_shr c hc x hi, if_pos (by omega)]
      simpa using h
    · rw [decide_eq_false (by omega), Bool.and_false]
theorem opS_b {V : Nat → Int32} {n c : Nat} {l : Int} (hc : c < 64) : ∀ k, k ≤ 64 → (lb (opS V n l k) c = true ↔ c < k ∧ opP V n l c)
  | 0, _ => ⟨fun h => by rw [opS, lb_0] at h; exact absurd h (by decide), fun h => absurd h.1 (Nat.not_lt_zero c)⟩
  | k + 1, hk => by
    have ih := opS_b (V := V) (n := n) (l := l) hc k (by omega)
    rw [opS, lb_or, Bool.or_eq_true, ih]
    rcases Classical.em (opP V n l k) with q | q
    · rw [ifp_t q, lb_one (by omega) hc, decide_eq_true_iff]
      constructor
      · rintro (h | h)
        · exact ⟨by omega, h.2⟩
        · subst h; exact ⟨by omega, q⟩
      · intro h
        rcases Nat.lt_or_ge c k with z | z
        · exact Or.inl ⟨z, h.2⟩
        · exact Or.inr (by omega)
    · rw [ifp_f q, lb_0]
      constructor
      · rintro (h | h)
        · exact ⟨by omega, h.2⟩
        · exact absurd h (by decide)
      · intro h
        refine Or.inl ⟨?_, h.2⟩
        rcases Nat.lt_or_ge c k with z | z
        · exact z
        · have e : c = k := by omega
          subst e; exact absurd h.2 q
theorem op_bit {V : Nat → Int32} {n c : Nat} {l : Int} {x : Int32} {w : Int64} (hw : w = opS V n l 64) (hx : x.toInt = (c : Int)) (hc : c < 64) : ((w >>> (x.toInt64 &&& 63)) &&& 1) = 0 ↔ ¬ opP V n l c := by
  rw [tI_nIx hx, lb_bit hc, hw]
  have h := opS_b (V := V) (n := n) (l := l) hc 64 (by omega)
  constructor
  · intro h1 h2
    rw [h.mpr ⟨hc, h2⟩] at h1; exact absurd h1 (by decide)
  · intro h1
    rw [← Bool.not_eq_true]
    exact fun q => h1 (h.mp q).2
theorem op_0 {V : Nat → Int32} {n : Nat} {l : Int} {w : Int64} (hw : w = opS V n l 64) : w = 0 ↔ ∀ c, c < 64 → ¬ opP V n l c := by
  subst hw
  constructor
  · intro h c hc q
    have h1 := (opS_b (V := V) (n := n) (l := l) hc 64 (by omega)).mpr ⟨hc, q⟩
    rw [h, lb_0] at h1; exact absurd h1 (by decide)
  · intro h
    refine lb_ext (fun i hi => ?_)
    rw [lb_0, ← Bool.not_eq_true]
    exact fun q => h i hi ((opS_b (V := V) (n := n) (l := l) hi 64 (by omega)).mp q).2
theorem op_e {V : Nat → Int32} {n : Nat} {l : Int} {w : Int64} (hw : w = opS V n l 64) (h : w ≠ 0) : ∃ c, c < 64 ∧ opP V n l c :=
  Classical.byContradiction (fun q => h ((op_0 hw).mpr (fun c hc hp => q ⟨c, hc, hp⟩)))
theorem xB_t {x : Int32} {P : Prop} (h : x = bI P) (c : x.toInt ≠ 0) : P := Classical.byContradiction (fun q => c (by rw [h, ← b0 q]; rfl))
theorem xB_f {x : Int32} {P : Prop} (h : x = bI P) (c : x.toInt = 0) : ¬ P := fun q => by rw [h, ← b1 q] at c; exact absurd c (by decide)
theorem SM_o {mi mj : MI} {c : Int32} (h : Fr [65, 66] (u2 mi 61 5 c) mj) : SM c mi mj :=
  ⟨Fr.trans (F := [61]) (Fr.rfl'.u (by decide)) h (by decide) (by decide), by rw [h 61 (by decide), u2_n (by omega)], by rw [h 61 (by decide), u2_n (by omega)], by rw [h 61 (by decide), u2_s]⟩
end MO16
