section WLK
theorem bmI {x : Int} (h : -2147483648 ≤ x ∧ x ≤ 2147483647) : x.bmod (2 ^ 32) = x := by
  rw [Int.bmod_def]
  omega
theorem tI_add {a b : Int32} {x y : Int} (ha : a.toInt = x) (hb : b.toInt = y) (h : -2147483648 ≤ x + y ∧ x + y ≤ 2147483647) : (a + b).toInt = x + y := by
  rw [Int32.toInt_add, ha, hb]
  exact bmI h
theorem tI_sub {a b : Int32} {x y : Int} (ha : a.toInt = x) (hb : b.toInt = y) (h : -2147483648 ≤ x - y ∧ x - y ≤ 2147483647) : (a - b).toInt = x - y := by
  rw [Int32.toInt_sub, ha, hb]
  exact bmI h
theorem tI_mul {a b : Int32} {x y : Int} (ha : a.toInt = x) (hb : b.toInt = y) (h : -2147483648 ≤ x * y ∧ x * y ≤ 2147483647) : (a * b).toInt = x * y := by
  rw [Int32.toInt_mul, ha, hb]
  exact bmI h
theorem tI_neg {a : Int32} {x : Int} (ha : a.toInt = x) (h : -2147483648 ≤ 0 - x ∧ 0 - x ≤ 2147483647) : (0 - a).toInt = 0 - x := tI_sub (show (0 : Int32).toInt = 0 from rfl) ha h
theorem tI_nI {n : Nat} (h : n < 2147483648) : (nI n).toInt = (n : Int) := nI_toInt (by omega)
theorem tI_eq {a b : Int32} {x y : Int} (ha : a.toInt = x) (hb : b.toInt = y) (h : x = y) : a = b := Int32.toInt_inj.mp (by rw [ha, hb, h])
theorem tI_rng (a : Int32) : -2147483648 ≤ a.toInt ∧ a.toInt ≤ 2147483647 := by
  have h1 := Int32.le_toInt a
  have h2 := Int32.toInt_lt a
  omega
theorem tI_nIx {a : Int32} {n : Nat} (h : a.toInt = (n : Int)) : a = nI n := by
  have h3 := tI_rng a
  exact tI_eq h (tI_nI (by omega)) rfl
noncomputable def bI (P : Prop) : Int32 := @ite _ P (Classical.propDecidable P) 1 0
theorem bI_t {P : Prop} (h : P) : bI P = 1 := by unfold bI; rw [if_pos h]
theorem bI_f {P : Prop} (h : ¬ P) : bI P = 0 := by unfold bI; rw [if_neg h]
theorem b1 {P : Prop} (h : P) : (1 : Int32) = bI P := (bI_t h).symm
theorem b0 {P : Prop} (h : ¬ P) : (0 : Int32) = bI P := (bI_f h).symm
theorem bI_iff {P P' : Prop} (h : P ↔ P') : bI P = bI P' := by rw [propext h]
theorem bI_or (P : Prop) : bI P = 0 ∨ bI P = 1 := by
  rcases Classical.em P with h | h
  · exact Or.inr (bI_t h)
  · exact Or.inl (bI_f h)
theorem nbI {P : Prop} : narrow .boolean (.int (bI P)) = .int (bI P) := by
  rcases bI_or P with h | h <;> rw [h] <;> rfl
theorem nb01 {x : Int32} (h : x = 0 ∨ x = 1) : narrow .boolean (.int x) = .int x := by
  rcases h with rfl | rfl <;> rfl
theorem okI {v F : Int32} {w w' : AW} (h : v = F) (hw : w = w') : some (Value.int v) = some (Value.int F) ∧ w = w' := ⟨by rw [h], hw⟩
theorem okJ {v F : Int64} {w w' : AW} (h : v = F) (hw : w = w') : some (Value.long v) = some (Value.long F) ∧ w = w' := ⟨by rw [h], hw⟩
section rows
variable {l : Launch} {own : String} {cc : ByteArray} {nL : Nat} {ret : Option FieldType} {ini : Bool} {hh : List ExceptionTableEntry} {R : Room} {w0 : AW} {Tg : TgT} {k n pc : Nat} {lv : List (Nat × Value)} {st : List Value} {w : AW}
theorem Z_lt {x y : Int32} {off : Int} (X Y : Int) (hx : x.toInt = X) (hy : y.toInt = Y) (tgt : Nat) (hd : decode cc pc = .ok (.if_icmp .lt off, 3)) (ht : (pc : Int) + off = (tgt : Int))
    (kt : X < Y → E l own cc nL ret ini hh R w0 Tg k n tgt lv st w) (kf : Y ≤ X → E l own cc nL ret ini hh R w0 Tg k n (pc + 3) lv st w) : E l own cc nL ret ini hh R w0 Tg k n pc lv (.int y :: .int x :: st) w := by
  subst hx; subst hy
  exact E_icmp_lt tgt hd ht (fun h => kt (Int32.lt_iff_toInt_lt.mp h)) (fun h => kf (Int32.le_iff_toInt_le.mp (Int32.not_lt.mp h)))
theorem Z_ge {x y : Int32} {off : Int} (X Y : Int) (hx : x.toInt = X) (hy : y.toInt = Y) (tgt : Nat) (hd : decode cc pc = .ok (.if_icmp .ge off, 3)) (ht : (pc : Int) + off = (tgt : Int))
    (kt : Y ≤ X → E l own cc nL ret ini hh R w0 Tg k n tgt lv st w) (kf : X < Y → E l own cc nL ret ini hh R w0 Tg k n (pc + 3) lv st w) : E l own cc nL ret ini hh R w0 Tg k n pc lv (.int y :: .int x :: st) w := by
  subst hx; subst hy
  exact E_icmp_ge tgt hd ht (fun h => kt (Int32.le_iff_toInt_le.mp h)) (fun h => kf (Int32.lt_iff_toInt_lt.mp (Int32.not_le.mp h)))
theorem Z_gt {x y : Int32} {off : Int} (X Y : Int) (hx : x.toInt = X) (hy : y.toInt = Y) (tgt : Nat) (hd : decode cc pc = .ok (.if_icmp .gt off, 3)) (ht : (pc : Int) + off = (tgt : Int))
    (kt : Y < X → E l own cc nL ret ini hh R w0 Tg k n tgt lv st w) (kf : X ≤ Y → E l own cc nL ret ini hh R w0 Tg k n (pc + 3) lv st w) : E l own cc nL ret ini hh R w0 Tg k n pc lv (.int y :: .int x :: st) w := by
  subst hx; subst hy
  exact E_icmp_gt tgt hd ht (fun h => kt (Int32.lt_iff_toInt_lt.mp h)) (fun h => kf (Int32.le_iff_toInt_le.mp (Int32.not_lt.mp h)))
theorem Z_le {x y : Int32} {off : Int} (X Y : Int) (hx : x.toInt = X) (hy : y.toInt = Y) (tgt : Nat) (hd : decode cc pc = .ok (.if_icmp .le off, 3)) (ht : (pc : Int) + off = (tgt : Int))
    (kt : X ≤ Y → E l own cc nL ret ini hh R w0 Tg k n tgt lv st w) (kf : Y < X → E l own cc nL ret ini hh R w0 Tg k n (pc + 3) lv st w) : E l own cc nL ret ini hh R w0 Tg k n pc lv (.int y :: .int x :: st) w := by
  subst hx; subst hy
  exact E_icmp_le tgt hd ht (fun h => kt (Int32.le_iff_toInt_le.mp h)) (fun h => kf (Int32.lt_iff_toInt_lt.mp (Int32.not_le.mp h)))
theorem Z_eq {x y : Int32} {off : Int} (X Y : Int) (hx : x.toInt = X) (hy : y.toInt = Y) (tgt : Nat) (hd : decode cc pc = .ok (.if_icmp .eq off, 3)) (ht : (pc : Int) + off = (tgt : Int))
    (kt : X = Y → E l own cc nL ret ini hh R w0 Tg k n tgt lv st w) (kf : X ≠ Y → E l own cc nL ret ini hh R w0 Tg k n (pc + 3) lv st w) : E l own cc nL ret ini hh R w0 Tg k n pc lv (.int y :: .int x :: st) w := by
  subst hx; subst hy
  exact E_icmp_eq tgt hd ht (fun h => kt (congrArg Int32.toInt h)) (fun h => kf (fun q => h (Int32.toInt_inj.mp q)))
theorem Z_ne {x y : Int32} {off : Int} (X Y : Int) (hx : x.toInt = X) (hy : y.toInt = Y) (tgt : Nat) (hd : decode cc pc = .ok (.if_icmp .ne off, 3)) (ht : (pc : Int) + off = (tgt : Int))
    (kt : X ≠ Y → E l own cc nL ret ini hh R w0 Tg k n tgt lv st w) (kf : X = Y → E l own cc nL ret ini hh R w0 Tg k n (pc + 3) lv st w) : E l own cc nL ret ini hh R w0 Tg k n pc lv (.int y :: .int x :: st) w := by
  subst hx; subst hy
  exact E_icmp_ne tgt hd ht (fun h => kt (fun q => h (Int32.toInt_inj.mp q))) (fun h => kf (congrArg Int32.toInt h))
theorem Y_lt {x : Int32} {off : Int} (X : Int) (hx : x.toInt = X) (tgt : Nat) (hd : decode cc pc = .ok (.ifCond .lt off, 3)) (ht : (pc : Int) + off = (tgt : Int))
    (kt : X < 0 → E l own cc nL ret ini hh R w0 Tg k n tgt lv st w) (kf : 0 ≤ X → E l own cc nL ret ini hh R w0 Tg k n (pc + 3) lv st w) : E l own cc nL ret ini hh R w0 Tg k n pc lv (.int x :: st) w := by
  subst hx
  exact E_if_lt tgt hd ht (fun h => kt (Int32.lt_iff_toInt_lt.mp h)) (fun h => kf (Int32.le_iff_toInt_le.mp (Int32.not_lt.mp h)))
theorem Y_ge {x : Int32} {off : Int} (X : Int) (hx : x.toInt = X) (tgt : Nat) (hd : decode cc pc = .ok (.ifCond .ge off, 3)) (ht : (pc : Int) + off = (tgt : Int))
    (kt : 0 ≤ X → E l own cc nL ret ini hh R w0 Tg k n tgt lv st w) (kf : X < 0 → E l own cc nL ret ini hh R w0 Tg k n (pc + 3) lv st w) : E l own cc nL ret ini hh R w0 Tg k n pc lv (.int x :: st) w := by
  subst hx
  exact E_if_ge tgt hd ht (fun h => kt (Int32.le_iff_toInt_le.mp h)) (fun h => kf (Int32.lt_iff_toInt_lt.mp (Int32.not_le.mp h)))
theorem Y_gt {x : Int32} {off : Int} (X : Int) (hx : x.toInt = X) (tgt : Nat) (hd : decode cc pc = .ok (.ifCond .gt off, 3)) (ht : (pc : Int) + off = (tgt : Int))
    (kt : 0 < X → E l own cc nL ret ini hh R w0 Tg k n tgt lv st w) (kf : X ≤ 0 → E l own cc nL ret ini hh R w0 Tg k n (pc + 3) lv st w) : E l own cc nL ret ini hh R w0 Tg k n pc lv (.int x :: st) w := by
  subst hx
  exact E_if_gt tgt hd ht (fun h => kt (Int32.lt_iff_toInt_lt.mp h)) (fun h => kf (Int32.le_iff_toInt_le.mp (Int32.not_lt.mp h)))
theorem Y_le {x : Int32} {off : Int} (X : Int) (hx : x.toInt = X) (tgt : Nat) (hd : decode cc pc = .ok (.ifCond .le off, 3)) (ht : (pc : Int) + off = (tgt : Int))
    (kt : X ≤ 0 → E l own cc nL ret ini hh R w0 Tg k n tgt lv st w) (kf : 0 < X → E l own cc nL ret ini hh R w0 Tg k n (pc + 3) lv st w) : E l own cc nL ret ini hh R w0 Tg k n pc lv (.int x :: st) w := by
  subst hx
  exact E_if_le tgt hd ht (fun h => kt (Int32.le_iff_toInt_le.mp h)) (fun h => kf (Int32.lt_iff_toInt_lt.mp (Int32.not_le.mp h)))
theorem Y_eq {x : Int32} {off : Int} (X : Int) (hx : x.toInt = X) (tgt : Nat) (hd : decode cc pc = .ok (.ifCond .eq off, 3)) (ht : (pc : Int) + off = (tgt : Int))
    (kt : X = 0 → E l own cc nL ret ini hh R w0 Tg k n tgt lv st w) (kf : X ≠ 0 → E l own cc nL ret ini hh R w0 Tg k n (pc + 3) lv st w) : E l own cc nL ret ini hh R w0 Tg k n pc lv (.int x :: st) w := by
  subst hx
  exact E_if_eq tgt hd ht (fun h => kt (congrArg Int32.toInt h)) (fun h => kf (fun q => h (Int32.toInt_inj.mp q)))
theorem Y_ne {x : Int32} {off : Int} (X : Int) (hx : x.toInt = X) (tgt : Nat) (hd : decode cc pc = .ok (.ifCond .ne off, 3)) (ht : (pc : Int) + off = (tgt : Int))
    (kt : X ≠ 0 → E l own cc nL ret ini hh R w0 Tg k n tgt lv st w) (kf : X = 0 → E l own cc nL ret ini hh R w0 Tg k n (pc + 3) lv st w) : E l own cc nL ret ini hh R w0 Tg k n pc lv (.int x :: st) w := by
  subst hx
  exact E_if_ne tgt hd ht (fun h => kt (fun q => h (Int32.toInt_inj.mp q))) (fun h => kf (congrArg Int32.toInt h))
theorem B_eq {P : Prop} {off : Int} (tgt : Nat) (hd : decode cc pc = .ok (.ifCond .eq off, 3)) (ht : (pc : Int) + off = (tgt : Int))
    (kt : ¬ P → E l own cc nL ret ini hh R w0 Tg k n tgt lv st w) (kf : P → E l own cc nL ret ini hh R w0 Tg k n (pc + 3) lv st w) : E l own cc nL ret ini hh R w0 Tg k n pc lv (.int (bI P) :: st) w :=
  E_if_eq tgt hd ht (fun h => kt (fun q => by rw [bI_t q] at h; exact absurd h (by decide))) (fun h => kf (Classical.byContradiction fun q => h (bI_f q)))
theorem B_ne {P : Prop} {off : Int} (tgt : Nat) (hd : decode cc pc = .ok (.ifCond .ne off, 3)) (ht : (pc : Int) + off = (tgt : Int))
    (kt : P → E l own cc nL ret ini hh R w0 Tg k n tgt lv st w) (kf : ¬ P → E l own cc nL ret ini hh R w0 Tg k n (pc + 3) lv st w) : E l own cc nL ret ini hh R w0 Tg k n pc lv (.int (bI P) :: st) w :=
  E_if_ne tgt hd ht (fun h => kt (Classical.byContradiction fun q => h (bI_f q))) (fun h => kf (fun q => by rw [bI_t q] at h; exact absurd h (by decide)))
end rows
/-- nothing is thrown -/
def noX : String → AW → Prop := fun _ _ => False
/-- the forms of a contract's end -/
def QP (v : Option Value) (w1 : AW) : Option Value → AW → Prop := fun rv w => rv = v ∧ w = w1
def QI (P : Int32 → MI → MJ → Prop) : Option Value → AW → Prop := fun rv w => ∃ (r : Int32) (mi : MI) (ml : MJ), rv = some (.int r) ∧ w = wl mi ml ∧ P r mi ml
def QJ (P : Int64 → MI → MJ → Prop) : Option Value → AW → Prop := fun rv w => ∃ (r : Int64) (mi : MI) (ml : MJ), rv = some (.long r) ∧ w = wl mi ml ∧ P r mi ml
def QV (P : MI → MJ → Prop) : Option Value → AW → Prop := fun rv w => ∃ (mi : MI) (ml : MJ), rv = none ∧ w = wl mi ml ∧ P mi ml
def XP (x : String → Prop) (w1 : AW) : String → AW → Prop := fun En w => x En ∧ w = w1
section forms
variable {l : Launch} {own : String} {cc : ByteArray} {nL : Nat} {ret : Option FieldType} {ini : Bool} {hh : List ExceptionTableEntry} {R : Room} {w0 : AW} {Tg : TgT} {k n pc : Nat} {lv : List (Nat × Value)} {st : List Value} {w1 : AW}
theorem kE {v : Value} (h : E l own cc nL ret ini hh R w0 Tg k n pc lv (v :: st) w1) : ∀ (rv : Option Value) (w : AW), QP (some v) w1 rv w → E l own cc nL ret ini hh R w0 Tg k n pc lv (rv.toList ++ st) w := by
  rintro _ _ ⟨rfl, rfl⟩
  exact h
theorem kE0 (h : E l own cc nL ret ini hh R w0 Tg k n pc lv st w1) : ∀ (rv : Option Value) (w : AW), QP none w1 rv w → E l own cc nL ret ini hh R w0 Tg k n pc lv (rv.toList ++ st) w := by
  rintro _ _ ⟨rfl, rfl⟩
  exact h
theorem kI {P : Int32 → MI → MJ → Prop} (h : ∀ (r : Int32) (mi : MI) (ml : MJ), P r mi ml → E l own cc nL ret ini hh R w0 Tg k n pc lv (.int r :: st) (wl mi ml)) : ∀ (rv : Option Value) (w : AW), QI P rv w → E l own cc nL ret ini hh R w0 Tg k n pc lv (rv.toList ++ st) w := by
  intro rv w hq
  obtain ⟨r, mi, ml, h1, h2, h3⟩ := hq
  rw [h1, h2]
  exact h r mi ml h3
theorem kJ {P : Int64 → MI → MJ → Prop} (h : ∀ (r : Int64) (mi : MI) (ml : MJ), P r mi ml → E l own cc nL ret ini hh R w0 Tg k n pc lv (.long r :: st) (wl mi ml)) : ∀ (rv : Option Value) (w : AW), QJ P rv w → E l own cc nL ret ini hh R w0 Tg k n pc lv (rv.toList ++ st) w := by
  intro rv w hq
  obtain ⟨r, mi, ml, h1, h2, h3⟩ := hq
  rw [h1, h2]
  exact h r mi ml h3
theorem kV {P : MI → MJ → Prop} (h : ∀ (mi : MI) (ml : MJ), P mi ml → E l own cc nL ret ini hh R w0 Tg k n pc lv st (wl mi ml)) : ∀ (rv : Option Value) (w : AW), QV P rv w → E l own cc nL ret ini hh R w0 Tg k n pc lv (rv.toList ++ st) w := by
  intro rv w hq
  obtain ⟨mi, ml, h1, h2, h3⟩ := hq
  rw [h1, h2]
  exact h mi ml h3
end forms
theorem okP {v F : Int32} {w1 : AW} (h : v = F) : QP (some (.int F)) w1 (some (.int v)) w1 := ⟨by rw [h], rfl⟩
theorem okPJ {v F : Int64} {w1 : AW} (h : v = F) : QP (some (.long F)) w1 (some (.long v)) w1 := ⟨by rw [h], rfl⟩
theorem okPw {v F : Int32} {w1 w2 : AW} (h : v = F) (hw : w1 = w2) : QP (some (.int F)) w2 (some (.int v)) w1 := ⟨by rw [h], hw⟩
theorem okQI {P : Int32 → MI → MJ → Prop} {r : Int32} {mi : MI} {ml : MJ} (h : P r mi ml) : QI P (some (.int r)) (wl mi ml) := ⟨r, mi, ml, rfl, rfl, h⟩
theorem okQJ {P : Int64 → MI → MJ → Prop} {r : Int64} {mi : MI} {ml : MJ} (h : P r mi ml) : QJ P (some (.long r)) (wl mi ml) := ⟨r, mi, ml, rfl, rfl, h⟩
theorem okQV {P : MI → MJ → Prop} {mi : MI} {ml : MJ} (h : P mi ml) : QV P none (wl mi ml) := ⟨mi, ml, rfl, rfl, h⟩
end WLK
theorem pn_X0 : plainName RX0 = true := by decide +kernel
theorem pn_X1 : plainName RX1 = true := by decide +kernel
theorem pn_X2 : plainName RX2 = true := by decide +kernel
theorem pn_X3 : plainName RX3 = true := by decide +kernel
theorem pn_X4 : plainName RX4 = true := by decide +kernel
theorem pn_X5 : plainName RX5 = true := by decide +kernel
theorem pn_L : plainName RL = true := by decide +kernel
theorem pn_J6 : plainName RJ6 = true := by decide +kernel
