section PAR
def pV (mi : MI) : Nat := (mi 17 1).toInt.toNat
def zV (mi : MI) : Nat := (mi 17 2).toInt.toNat
def NV (mi : MI) : Nat := (mi 58 1).toInt.toNat
/-- the numbers of a relation -/
theorem Rel.nums {mi : MI} {ml : MJ} (R : Rel mi ml) : ((mi 17 1).toInt = (pV mi : Int) ∧ pV mi < 4) ∧ ((mi 17 2).toInt = (zV mi : Int) ∧ zV mi ≤ 4) ∧ (mi 61 2).toInt = (zV mi : Int) ∧ ((mi 58 1).toInt = (NV mi : Int) ∧ NV mi ≤ 120) ∧ (mi 61 4).toInt = (NV mi : Int) ∧ ∀ k, k < NV mi → mi 59 k = mi 64 k := by
  obtain ⟨p, sz, a1, a2, a3, a4, a5, _⟩ := R.2.2.1
  obtain ⟨N, b1, b2, b3, b4⟩ := R.2.2.2.1
  have e1 : pV mi = p := by unfold pV; omega
  have e2 : zV mi = sz := by unfold zV; omega
  have e3 : NV mi = N := by unfold NV; omega
  rw [e1, e2, e3]
  exact ⟨⟨a3, a1⟩, ⟨a4, a2⟩, a5, ⟨b2, b1⟩, b3, b4⟩
theorem Rel.hist {mi : MI} {ml : MJ} (R : Rel mi ml) : ∀ j, j < zV mi → WFV (blk mi (zV mi - 1 - j)) ∧ DR (19 + 8 * ((pV mi + 4 - j) % 4)) mi (blk mi (zV mi - 1 - j)) := by
  obtain ⟨p, sz, a1, a2, a3, a4, a5, a6⟩ := R.2.2.1
  have e1 : pV mi = p := by unfold pV; omega
  have e2 : zV mi = sz := by unfold zV; omega
  rw [e1, e2]; exact a6
theorem q_n {mi mi1 mi2 : MI} {ml mk ml1 ml2 : MJ} {r : Int32} {x y : Int64} (R : Rel mi ml) (F : Fr [51, 52, 53, 54, 55] mi mi1) (hz : mk 56 0 = 0 ∧ mk 57 0 = 0) (e : u2 mk 73 0 x = ml1) (S : SM 0 mi1 mi2) (J : ∀ p, p ≠ 61 → ml2 p = ml1 p) (hv : x = y) (hr : r = 0) : Rel mi2 ml2 ∧ mi2 61 5 = r ∧ (r = 0 → ml2 73 0 = y) := by
  subst e
  have h := q_end R F (ml1 := u2 mk 73 0 x) (by rw [u2_p (show (56 : Nat) ≠ 73 by decide), u2_p (show (57 : Nat) ≠ 73 by decide)]; exact hz) S J
  exact ⟨h.1, h.2.trans hr.symm, fun _ => by rw [J 73 (by decide), u2_s, hv]⟩
theorem q_x {mi mi1 mi2 : MI} {ml ml1 ml2 : MJ} {r c : Int32} {y : Int64} (R : Rel mi ml) (F : Fr [51, 52, 53, 54, 55] mi mi1) (hz : ml1 56 0 = 0 ∧ ml1 57 0 = 0) (S : SM c mi1 mi2) (J : ∀ p, p ≠ 61 → ml2 p = ml1 p) (hr : r = c) (hc : c ≠ 0) : Rel mi2 ml2 ∧ mi2 61 5 = r ∧ (r = 0 → ml2 73 0 = y) := by
  have h := q_end R F hz S J
  exact ⟨h.1, h.2.trans hr.symm, fun z => absurd (hr.symm.trans z) hc⟩
theorem J_e {a b : MJ} (h : a = b) : ∀ p, p ≠ 61 → b p = a p := fun p _ => by rw [h]
theorem J_F {a b : MJ} (h : FJ a b) : ∀ p, p ≠ 61 → b p = a p := fun p hp => funext (fun k => h p k (Or.inl hp))
theorem J_K {a b : MJ} (h : FK a b) : ∀ p, p ≠ 61 → b p = a p := fun p hp => funext (fun k => h p k (Or.inl hp))
theorem f52 {mi mj : MI} (h : Fr [51, 52] mi mj) : Fr [51, 52, 53, 54, 55] mi mj := Fr.w h (by decide)
theorem f53 {mi mj : MI} (h : Fr [53, 54, 55] mi mj) : Fr [51, 52, 53, 54, 55] mi mj := Fr.w h (by decide)
theorem g60 {mi mj : MI} (h : Fr [51, 52, 53, 54, 55] mi mj) : ∀ g, 60 ≤ g → mj g = mi g := fun g hg => h g (by simp only [List.mem_cons, List.not_mem_nil, or_false, not_or]; omega)
theorem z60 {ml mk : MJ} (h : FL60 ml mk) (hz : ml 56 0 = 0 ∧ ml 57 0 = 0) : mk 56 0 = 0 ∧ mk 57 0 = 0 := by rw [h 56 (by decide), h 57 (by decide)]; exact hz
theorem cdA_A : cdA xIA = 1 := rfl
theorem cdA_S : cdA xIS = 2 := by decide
theorem cdO_O : cdO xIO = 1 := rfl
theorem cdO_A : cdO xIA = 2 := by decide
theorem enc_eq {D : RD} {r r' : Nat → Int32} {L : List Q4} {i j : Nat} (h : encd D r L) (h' : encd D r' L) (hi : i < L.length) (hj : j < 6) : r (6 * i + j) = r' (6 * i + j) := by
  have hq : L[i]? = some L[i] := List.getElem?_eq_getElem hi
  have a := h i _ hq
  have b := h' i _ hq
  apply Int32.toInt_inj.mp
  rcases (show j = 0 ∨ j = 1 ∨ j = 2 ∨ j = 3 ∨ j = 4 ∨ j = 5 by omega) with e | e | e | e | e | e <;> subst e
  · exact a.1.trans b.1.symm
  · exact a.2.1.trans b.2.1.symm
  · exact a.2.2.1.trans b.2.2.1.symm
  · exact a.2.2.2.1.trans b.2.2.2.1.symm
  · exact a.2.2.2.2.1.trans b.2.2.2.2.1.symm
  · exact a.2.2.2.2.2.trans b.2.2.2.2.2.symm

set_option maxRecDepth 100000 in
theorem b_size (l : Launch) (hfl : l.stackTraces = false) {mi mi1 : MI} {ml ml1 : MJ} (R : Rel mi ml) (a : Int32) (A : Int) (hA : a.toInt = A) (r : Int32) (h : (r = 0 ∧ ∃ (ans : Int32) (mk : MJ), (fun r mi9 ml9 => mi = mi9 ∧ ml = ml9 ∧ (0 ≤ A ∧ A ≤ 2) ∧ ((A = 0 ∧ r = (mi 62) 5) ∨ (A = 1 ∧ r = (mi 62) 26) ∨ (A = 2 ∧ r = (mi 62) 32))) ans mi1 mk ∧ u2 mk 73 0 ans.toInt64 = ml1) ∨ ∃ En, (fun En mi9 ml9 => mi = mi9 ∧ ml = ml9 ∧ En = xIA ∧ ¬ (0 ≤ A ∧ A ≤ 2)) En mi1 ml1 ∧ r = cd1 En) : Ct l yX6_size (.code yX6_size cX6_size 2 (some .int)) 1 0 0 [.ref 61, .int a] (wl mi1 ml1) (QI (fun b mi2 ml2 => Rel mi2 ml2 ∧ mi2 61 5 = r ∧ (r = 0 → ml2 73 0 = b.toInt64))) noX := by
  have f : ∀ g, 60 ≤ g → mi1 g = mi g := by
    rcases h with ⟨_, v, mk, hv, _⟩ | ⟨En, hx, _⟩
    · exact fun g _ => by rw [← hv.1]
    · exact fun g _ => by rw [← hx.1]
  have e62 := f 62 (by decide)
  have wn := wf_n R.1
  have wm := wf_m R.1
  have wt := wf_t R.1
  obtain ⟨np, nz, nz2, nN, nN2, nT⟩ := R.nums
  have hn1 : (mi1 62 5).toInt = (nV (mi 62) : Int) := by rw [e62]; exact wn.1
  have hm1 : (mi1 62 26).toInt = (mV (mi 62) : Int) := by rw [e62]; exact wm.1
  have ht1 : (mi1 62 32).toInt = (tV (mi 62) : Int) := by rw [e62]; exact wt.1
  have hw1 : WFV (mi1 62) := by rw [e62]; exact R.1
  have hs1 : (mi1 61 2).toInt = (zV mi : Int) := by rw [f 61 (by decide)]; exact nz2
  have hN1 : (mi1 61 4).toInt = (NV mi : Int) := by rw [f 61 (by decide)]; exact nN2
  refine Ct.mono (c_X6_size l hfl mi1 ml1 a A hA) (fun rv w hm => ?_)
  obtain ⟨b9, mi2, ml2, e1, e2, hm⟩ := hm
  refine ⟨b9, mi2, ml2, e1, e2, ?_⟩
  rcases h with ⟨hr, v, mk, ⟨rfl, rfl, ha, hv⟩, he⟩ | ⟨En, ⟨rfl, rfl, rfl, ha⟩, hr⟩
  · rcases hm.2 with ⟨q, _⟩ | ⟨_, rfl, q⟩
    · exact absurd ha q
    · exact q_n R Fr_r R.2.2.2.2 he SM_0 (J_e hm.1) (congrArg Int32.toInt64 (by rcases hv with a | a | a <;> rcases q with q | q | q <;> first | omega | rw [a.2, q.2])) hr
  · rcases hm.2 with ⟨_, rfl⟩ | ⟨q, _⟩
    · exact q_x R Fr_r R.2.2.2.2 SM_0 (J_e hm.1) hr (by decide)
    · exact absurd q ha
set_option maxRecDepth 100000 in
theorem b_carrier (l : Launch) (hfl : l.stackTraces = false) {mi mi1 : MI} {ml ml1 : MJ} (R : Rel mi ml) (a : Int32) (A : Int) (hA : a.toInt = A) (xb : Int32) (P : Prop) (hxb : xb = bI P) (r : Int32) (h : (r = 0 ∧ ∃ (ans : Int32) (mk : MJ), (fun r mi9 ml9 => mi = mi9 ∧ ml = ml9 ∧ ∃ b : Nat, b < (nV (mi 62)) ∧ A = (b : Int) ∧ ((P ∧ r = (mi 62) (7 + 2 * b)) ∨ (¬ P ∧ r = (mi 62) (6 + 2 * b)))) ans mi1 mk ∧ u2 mk 73 0 ans.toInt64 = ml1) ∨ ∃ En, (fun En mi9 ml9 => mi = mi9 ∧ ml = ml9 ∧ En = xIO ∧ ¬ (0 ≤ A ∧ A < ((nV (mi 62)) : Int))) En mi1 ml1 ∧ r = cd1 En) : Ct l yX6_carrier (.code yX6_carrier cX6_carrier 3 (some .int)) 2 0 0 [.ref 61, .int a, .int xb] (wl mi1 ml1) (QI (fun b mi2 ml2 => Rel mi2 ml2 ∧ mi2 61 5 = r ∧ (r = 0 → ml2 73 0 = b.toInt64))) noX := by
  subst hxb
  have f : ∀ g, 60 ≤ g → mi1 g = mi g := by
    rcases h with ⟨_, v, mk, hv, _⟩ | ⟨En, hx, _⟩
    · exact fun g _ => by rw [← hv.1]
    · exact fun g _ => by rw [← hx.1]
  have e62 := f 62 (by decide)
  have wn := wf_n R.1
  have wm := wf_m R.1
  have wt := wf_t R.1
  obtain ⟨np, nz, nz2, nN, nN2, nT⟩ := R.nums
  have hn1 : (mi1 62 5).toInt = (nV (mi 62) : Int) := by rw [e62]; exact wn.1
  have hm1 : (mi1 62 26).toInt = (mV (mi 62) : Int) := by rw [e62]; exact wm.1
  have ht1 : (mi1 62 32).toInt = (tV (mi 62) : Int) := by rw [e62]; exact wt.1
  have hw1 : WFV (mi1 62) := by rw [e62]; exact R.1
  have hs1 : (mi1 61 2).toInt = (zV mi : Int) := by rw [f 61 (by decide)]; exact nz2
  have hN1 : (mi1 61 4).toInt = (NV mi : Int) := by rw [f 61 (by decide)]; exact nN2
  refine Ct.mono (c_X6_carrier l hfl mi1 ml1 _ hn1 (by omega) a A hA P) (fun rv w hm => ?_)
  obtain ⟨b9, mi2, ml2, e1, e2, hm⟩ := hm
  refine ⟨b9, mi2, ml2, e1, e2, ?_⟩
  rcases h with ⟨hr, v, mk, ⟨rfl, rfl, b1, hb1, hb2, hv⟩, he⟩ | ⟨En, ⟨rfl, rfl, rfl, ha⟩, hr⟩
  · rcases hm.2 with ⟨q, _⟩ | ⟨rfl, b2, hb3, hb4, q⟩
    · exact absurd (show 0 ≤ A ∧ A ≤ (nV (mi 62) : Int) - 1 by omega) q
    · obtain rfl : b1 = b2 := by omega
      exact q_n R Fr_r R.2.2.2.2 he SM_0 (J_e hm.1) (congrArg Int32.toInt64 (by rcases hv with a | a <;> rcases q with q | q <;> first | exact absurd a.1 q.1 | exact absurd q.1 a.1 | rw [a.2, q.2])) hr
  · rcases hm.2 with ⟨_, rfl⟩ | ⟨_, b2, hb3, hb4, q⟩
    · exact q_x R Fr_r R.2.2.2.2 SM_0 (J_e hm.1) hr (by decide)
    · exact absurd (show 0 ≤ A ∧ A < (nV (mi 62) : Int) by omega) ha
set_option maxRecDepth 100000 in
theorem b_mixer (l : Launch) (hfl : l.stackTraces = false) {mi mi1 : MI} {ml ml1 : MJ} (R : Rel mi ml) (a : Int32) (A : Int) (hA : a.toInt = A) (r : Int32) (h : (r = 0 ∧ ∃ (ans : Int32) (mk : MJ), (fun r mi9 ml9 => mi = mi9 ∧ ml = ml9 ∧ ∃ b : Nat, b < (mV (mi 62)) ∧ A = (b : Int) ∧ r = (mi 62) (27 + b)) ans mi1 mk ∧ u2 mk 73 0 ans.toInt64 = ml1) ∨ ∃ En, (fun En mi9 ml9 => mi = mi9 ∧ ml = ml9 ∧ En = xIO ∧ ¬ (0 ≤ A ∧ A < ((mV (mi 62)) : Int))) En mi1 ml1 ∧ r = cd1 En) : Ct l yX6_mixer (.code yX6_mixer cX6_mixer 2 (some .int)) 2 0 0 [.ref 61, .int a] (wl mi1 ml1) (QI (fun b mi2 ml2 => Rel mi2 ml2 ∧ mi2 61 5 = r ∧ (r = 0 → ml2 73 0 = b.toInt64))) noX := by
  have f : ∀ g, 60 ≤ g → mi1 g = mi g := by
    rcases h with ⟨_, v, mk, hv, _⟩ | ⟨En, hx, _⟩
    · exact fun g _ => by rw [← hv.1]
    · exact fun g _ => by rw [← hx.1]
  have e62 := f 62 (by decide)
  have wn := wf_n R.1
  have wm := wf_m R.1
  have wt := wf_t R.1
  obtain ⟨np, nz, nz2, nN, nN2, nT⟩ := R.nums
  have hn1 : (mi1 62 5).toInt = (nV (mi 62) : Int) := by rw [e62]; exact wn.1
  have hm1 : (mi1 62 26).toInt = (mV (mi 62) : Int) := by rw [e62]; exact wm.1
  have ht1 : (mi1 62 32).toInt = (tV (mi 62) : Int) := by rw [e62]; exact wt.1
  have hw1 : WFV (mi1 62) := by rw [e62]; exact R.1
  have hs1 : (mi1 61 2).toInt = (zV mi : Int) := by rw [f 61 (by decide)]; exact nz2
  have hN1 : (mi1 61 4).toInt = (NV mi : Int) := by rw [f 61 (by decide)]; exact nN2
  refine Ct.mono (c_X6_mixer l hfl mi1 ml1 _ hm1 (by omega) a A hA) (fun rv w hm => ?_)
  obtain ⟨b9, mi2, ml2, e1, e2, hm⟩ := hm
  refine ⟨b9, mi2, ml2, e1, e2, ?_⟩
  rcases h with ⟨hr, v, mk, ⟨rfl, rfl, b1, hb1, hb2, hv⟩, he⟩ | ⟨En, ⟨rfl, rfl, rfl, ha⟩, hr⟩
  · rcases hm.2 with ⟨q, _⟩ | ⟨rfl, b2, hb3, hb4, q⟩
    · exact absurd (show 0 ≤ A ∧ A ≤ (mV (mi 62) : Int) - 1 by omega) q
    · obtain rfl : b1 = b2 := by omega
      exact q_n R Fr_r R.2.2.2.2 he SM_0 (J_e hm.1) (congrArg Int32.toInt64 (by rw [hv, q])) hr
  · rcases hm.2 with ⟨_, rfl⟩ | ⟨_, b2, hb3, hb4, q⟩
    · exact q_x R Fr_r R.2.2.2.2 SM_0 (J_e hm.1) hr (by decide)
    · exact absurd (show 0 ≤ A ∧ A < (mV (mi 62) : Int) by omega) ha
set_option maxRecDepth 100000 in
theorem b_test (l : Launch) (hfl : l.stackTraces = false) {mi mi1 : MI} {ml ml1 : MJ} (R : Rel mi ml) (a : Int32) (A : Int) (hA : a.toInt = A) (b : Int32) (B : Int) (hB : b.toInt = B) (r : Int32) (h : (r = 0 ∧ ∃ (ans : Int32) (mk : MJ), (fun r mi9 ml9 => mi = mi9 ∧ ml = ml9 ∧ ∃ (j q : Nat), j < (tV (mi 62)) ∧ q < 3 ∧ A = (j : Int) ∧ B = (q : Int) ∧ r = (mi 62) ((33 : Nat) + 3 * j + q)) ans mi1 mk ∧ u2 mk 73 0 ans.toInt64 = ml1) ∨ ∃ En, (fun En mi9 ml9 => mi = mi9 ∧ ml = ml9 ∧ ((En = xIO ∧ ¬ (0 ≤ A ∧ A < ((tV (mi 62)) : Int))) ∨ (En = xIA ∧ (0 ≤ A ∧ A < ((tV (mi 62)) : Int)) ∧ ¬ (0 ≤ B ∧ B ≤ 2)))) En mi1 ml1 ∧ r = cdO En) : Ct l yX6_test (.code yX6_test cX6_test 3 (some .int)) 1 0 0 [.ref 61, .int a, .int b] (wl mi1 ml1) (QI (fun b mi2 ml2 => Rel mi2 ml2 ∧ mi2 61 5 = r ∧ (r = 0 → ml2 73 0 = b.toInt64))) noX := by
  have f : ∀ g, 60 ≤ g → mi1 g = mi g := by
    rcases h with ⟨_, v, mk, hv, _⟩ | ⟨En, hx, _⟩
    · exact fun g _ => by rw [← hv.1]
    · exact fun g _ => by rw [← hx.1]
  have e62 := f 62 (by decide)
  have wn := wf_n R.1
  have wm := wf_m R.1
  have wt := wf_t R.1
  obtain ⟨np, nz, nz2, nN, nN2, nT⟩ := R.nums
  have hn1 : (mi1 62 5).toInt = (nV (mi 62) : Int) := by rw [e62]; exact wn.1
  have hm1 : (mi1 62 26).toInt = (mV (mi 62) : Int) := by rw [e62]; exact wm.1
  have ht1 : (mi1 62 32).toInt = (tV (mi 62) : Int) := by rw [e62]; exact wt.1
  have hw1 : WFV (mi1 62) := by rw [e62]; exact R.1
  have hs1 : (mi1 61 2).toInt = (zV mi : Int) := by rw [f 61 (by decide)]; exact nz2
  have hN1 : (mi1 61 4).toInt = (NV mi : Int) := by rw [f 61 (by decide)]; exact nN2
  refine Ct.mono (c_X6_test l hfl mi1 ml1 _ ht1 (by omega) a b A B hA hB) (fun rv w hm => ?_)
  obtain ⟨b9, mi2, ml2, e1, e2, hm⟩ := hm
  refine ⟨b9, mi2, ml2, e1, e2, ?_⟩
  rcases h with ⟨hr, v, mk, ⟨rfl, rfl, j1, q1, hj1, hq1, hj2, hq2, hv⟩, he⟩ | ⟨En, ⟨rfl, rfl, ha⟩, hr⟩
  · rcases hm.2 with ⟨q, _⟩ | ⟨_, q, _⟩ | ⟨rfl, j2, q2, hj3, hq3, hj4, hq4, q⟩
    · exact absurd (show 0 ≤ A ∧ A ≤ (tV (mi 62) : Int) - 1 by omega) q
    · exact absurd (show 0 ≤ B ∧ B ≤ 2 by omega) q
    · obtain rfl : j1 = j2 := by omega
      obtain rfl : q1 = q2 := by omega
      exact q_n R Fr_r R.2.2.2.2 he SM_0 (J_e hm.1) (congrArg Int32.toInt64 (by rw [hv, q])) hr
  · rcases ha with ⟨rfl, ha⟩ | ⟨rfl, ha, hb⟩
    · rcases hm.2 with ⟨_, rfl⟩ | ⟨q, _, _⟩ | ⟨_, j2, q2, hj3, hq3, hj4, hq4, q⟩
      · exact q_x R Fr_r R.2.2.2.2 SM_0 (J_e hm.1) (hr.trans cdO_O) (by decide)
      · exact absurd (show 0 ≤ A ∧ A < (tV (mi 62) : Int) by omega) ha
      · exact absurd (show 0 ≤ A ∧ A < (tV (mi 62) : Int) by omega) ha
    · rcases hm.2 with ⟨q, _⟩ | ⟨_, _, rfl⟩ | ⟨_, j2, q2, hj3, hq3, hj4, hq4, q⟩
      · exact absurd (show 0 ≤ A ∧ A ≤ (tV (mi 62) : Int) - 1 by omega) q
      · exact q_x R Fr_r R.2.2.2.2 SM_0 (J_e hm.1) (hr.trans cdO_A) (by decide)
      · exact absurd (show 0 ≤ B ∧ B ≤ 2 by omega) hb
set_option maxRecDepth 100000 in
theorem b_product (l : Launch) (hfl : l.stackTraces = false) {mi mi1 : MI} {ml ml1 : MJ} (R : Rel mi ml) (x : Int32) (a : Int32) (X : Int) (A : Int) (hX : x.toInt = X) (hA : a.toInt = A) (r : Int32) (h : (r = 0 ∧ ∃ (ans : Int32) (mk : MJ), (fun r mi9 ml9 => ml = ml9 ∧ Fr [51, 52] mi mi9 ∧ ∃ (i j : Nat) (row : Nat → Int32), X = (i : Int) ∧ i < (prV (mi 62) (2 ^ (nV (mi 62)) - 1) (nV (mi 62))).length ∧ A = (j : Int) ∧ j < 6 ∧ encd (DV (mi 62)) row (prV (mi 62) (2 ^ (nV (mi 62)) - 1) (nV (mi 62))) ∧ r = row (6 * i + j)) ans mi1 mk ∧ u2 mk 73 0 ans.toInt64 = ml1) ∨ ∃ En, (fun En mi9 ml9 => ml = ml9 ∧ Fr [51, 52] mi mi9 ∧ ((En = xIO ∧ ¬ (0 ≤ X ∧ X < ((prV (mi 62) (2 ^ (nV (mi 62)) - 1) (nV (mi 62))).length : Int))) ∨ (En = xIA ∧ (0 ≤ X ∧ X < ((prV (mi 62) (2 ^ (nV (mi 62)) - 1) (nV (mi 62))).length : Int)) ∧ ¬ (0 ≤ A ∧ A ≤ 5)))) En mi1 ml1 ∧ r = cdO En) : Ct l yX6_product (.code yX6_product cX6_product 3 (some .int)) 5 0 0 [.ref 61, .int x, .int a] (wl mi1 ml1) (QI (fun b mi2 ml2 => Rel mi2 ml2 ∧ mi2 61 5 = r ∧ (r = 0 → ml2 73 0 = b.toInt64))) noX := by
  have f : ∀ g, 60 ≤ g → mi1 g = mi g := by
    rcases h with ⟨_, v, mk, hv, _⟩ | ⟨En, hx, _⟩
    · exact g60 (f52 hv.2.1)
    · first | exact g60 (f52 hx.2.1) | exact fun g _ => by rw [← hx.2.1]
  have e62 := f 62 (by decide)
  have wn := wf_n R.1
  have wm := wf_m R.1
  have wt := wf_t R.1
  obtain ⟨np, nz, nz2, nN, nN2, nT⟩ := R.nums
  have hn1 : (mi1 62 5).toInt = (nV (mi 62) : Int) := by rw [e62]; exact wn.1
  have hm1 : (mi1 62 26).toInt = (mV (mi 62) : Int) := by rw [e62]; exact wm.1
  have ht1 : (mi1 62 32).toInt = (tV (mi 62) : Int) := by rw [e62]; exact wt.1
  have hw1 : WFV (mi1 62) := by rw [e62]; exact R.1
  have hs1 : (mi1 61 2).toInt = (zV mi : Int) := by rw [f 61 (by decide)]; exact nz2
  have hN1 : (mi1 61 4).toInt = (NV mi : Int) := by rw [f 61 (by decide)]; exact nN2
  refine Ct.mono (c_X6_product l hfl mi1 ml1 _ hn1 (by omega) hw1 x a X A hX hA) (fun rv w hm => ?_)
  obtain ⟨b9, mi2, ml2, e1, e2, hm⟩ := hm
  refine ⟨b9, mi2, ml2, e1, e2, ?_⟩
  rw [e62] at hm
  rcases h with ⟨hr, v, mk, ⟨rfl, hF, i1, j1, row1, hi1, hi2, hj1, hj2, hE, hv⟩, he⟩ | ⟨En, ⟨rfl, hF, ha⟩, hr⟩
  · rcases hm.2 with ⟨q, _⟩ | ⟨_, q, _⟩ | ⟨i2, j2, row2, hi3, hi4, hj3, hj4, S, hE2, q⟩
    · exact absurd (by omega) q
    · exact absurd (show 0 ≤ A ∧ A ≤ 5 by omega) q
    · obtain rfl : i1 = i2 := by omega
      obtain rfl : j1 = j2 := by omega
      exact q_n R (f52 hF) R.2.2.2.2 he S (J_e hm.1) (congrArg Int32.toInt64 (by rw [hv, q]; exact enc_eq hE hE2 hi2 hj2)) hr
  · rcases ha with ⟨rfl, ha⟩ | ⟨rfl, ha, hb⟩
    · rcases hm.2 with ⟨_, S⟩ | ⟨q, _, _⟩ | ⟨i2, j2, row2, hi3, hi4, hj3, hj4, S, hE2, q⟩
      · exact q_x R (f52 hF) R.2.2.2.2 S (J_e hm.1) (hr.trans cdO_O) (by decide)
      · exact absurd q ha
      · exact absurd (by omega) ha
    · rcases hm.2 with ⟨q, _⟩ | ⟨_, _, S⟩ | ⟨i2, j2, row2, hi3, hi4, hj3, hj4, S, hE2, q⟩
      · exact absurd ha q
      · exact q_x R (f52 hF) R.2.2.2.2 S (J_e hm.1) (hr.trans cdO_A) (by decide)
      · exact absurd (show 0 ≤ A ∧ A ≤ 5 by omega) hb
set_option maxRecDepth 100000 in
theorem b_fallout (l : Launch) (hfl : l.stackTraces = false) {mi mi1 : MI} {ml ml1 : MJ} (R : Rel mi ml) (a : Int32) (A : Int) (hA : a.toInt = A) (r : Int32) (h : (r = 0 ∧ ∃ (ans : Int64) (mk : MJ), (fun r mi9 ml9 => ml = ml9 ∧ Fr [51, 52] mi mi9 ∧ (0 ≤ A ∧ A ≤ ((2 ^ (nV (mi 62)) - 1 : Nat) : Int)) ∧ ∃ s : Nat, A = (s : Int) ∧ r = foA (DV (mi 62)) (prV (mi 62) s (nV (mi 62))) (prV (mi 62) s (nV (mi 62))).length) ans mi1 mk ∧ u2 mk 73 0 ans = ml1) ∨ ∃ En, (fun En mi9 ml9 => ml = ml9 ∧ mi = mi9 ∧ En = xIA ∧ ¬ (0 ≤ A ∧ A ≤ ((2 ^ (nV (mi 62)) - 1 : Nat) : Int))) En mi1 ml1 ∧ r = cd1 En) : Ct l yX6_fallout (.code yX6_fallout cX6_fallout 2 (some .long)) 6 0 0 [.ref 61, .int a] (wl mi1 ml1) (QJ (fun b mi2 ml2 => Rel mi2 ml2 ∧ mi2 61 5 = r ∧ (r = 0 → ml2 73 0 = b))) noX := by
  have f : ∀ g, 60 ≤ g → mi1 g = mi g := by
    rcases h with ⟨_, v, mk, hv, _⟩ | ⟨En, hx, _⟩
    · exact g60 (f52 hv.2.1)
    · first | exact g60 (f52 hx.2.1) | exact fun g _ => by rw [← hx.2.1]
  have e62 := f 62 (by decide)
  have wn := wf_n R.1
  have wm := wf_m R.1
  have wt := wf_t R.1
  obtain ⟨np, nz, nz2, nN, nN2, nT⟩ := R.nums
  have hn1 : (mi1 62 5).toInt = (nV (mi 62) : Int) := by rw [e62]; exact wn.1
  have hm1 : (mi1 62 26).toInt = (mV (mi 62) : Int) := by rw [e62]; exact wm.1
  have ht1 : (mi1 62 32).toInt = (tV (mi 62) : Int) := by rw [e62]; exact wt.1
  have hw1 : WFV (mi1 62) := by rw [e62]; exact R.1
  have hs1 : (mi1 61 2).toInt = (zV mi : Int) := by rw [f 61 (by decide)]; exact nz2
  have hN1 : (mi1 61 4).toInt = (NV mi : Int) := by rw [f 61 (by decide)]; exact nN2
  refine Ct.mono (c_X6_fallout l hfl mi1 ml1 _ hn1 (by omega) hw1 a A hA) (fun rv w hm => ?_)
  obtain ⟨b9, mi2, ml2, e1, e2, hm⟩ := hm
  refine ⟨b9, mi2, ml2, e1, e2, ?_⟩
  rw [e62] at hm
  rcases h with ⟨hr, v, mk, ⟨rfl, hF, ha, s1, hs2, hv⟩, he⟩ | ⟨En, ⟨rfl, rfl, rfl, ha⟩, hr⟩
  · rcases hm.2 with ⟨q, _⟩ | ⟨_, s2, hs3, S, q⟩
    · exact absurd ha q
    · obtain rfl : s1 = s2 := by omega
      exact q_n R (f52 hF) R.2.2.2.2 he S (J_e hm.1) (by rw [hv, q]) hr
  · rcases hm.2 with ⟨_, S⟩ | ⟨q, _⟩
    · exact q_x R Fr_r R.2.2.2.2 S (J_e hm.1) hr (by decide)
    · exact absurd q ha
set_option maxRecDepth 100000 in
theorem b_hitsOn (l : Launch) (hfl : l.stackTraces = false) {mi mi1 : MI} {ml ml1 : MJ} (R : Rel mi ml) (a : Int32) (A : Int) (hA : a.toInt = A) (r : Int32) (h : (r = 0 ∧ ∃ (ans : Int32) (mk : MJ), (fun r mi9 ml9 => ml = ml9 ∧ Fr [51, 52] mi mi9 ∧ ∃ b : Nat, b < (nV (mi 62)) ∧ A = (b : Int) ∧ r.toInt = (hcA (DV (mi 62)) ((mi 62) 3).toInt ((mi 62) (6 + 2 * b)).toInt (prV (mi 62) (2 ^ (nV (mi 62)) - 1) (nV (mi 62))) (prV (mi 62) (2 ^ (nV (mi 62)) - 1) (nV (mi 62))).length : Int)) ans mi1 mk ∧ u2 mk 73 0 ans.toInt64 = ml1) ∨ ∃ En, (fun En mi9 ml9 => ml = ml9 ∧ mi = mi9 ∧ En = xIO ∧ ¬ (0 ≤ A ∧ A < ((nV (mi 62)) : Int))) En mi1 ml1 ∧ r = cd1 En) : Ct l yX6_hitsOn (.code yX6_hitsOn cX6_hitsOn 2 (some .int)) 5 0 0 [.ref 61, .int a] (wl mi1 ml1) (QI (fun b mi2 ml2 => Rel mi2 ml2 ∧ mi2 61 5 = r ∧ (r = 0 → ml2 73 0 = b.toInt64))) noX := by
  have f : ∀ g, 60 ≤ g → mi1 g = mi g := by
    rcases h with ⟨_, v, mk, hv, _⟩ | ⟨En, hx, _⟩
    · exact g60 (f52 hv.2.1)
    · first | exact g60 (f52 hx.2.1) | exact fun g _ => by rw [← hx.2.1]
  have e62 := f 62 (by decide)
  have wn := wf_n R.1
  have wm := wf_m R.1
  have wt := wf_t R.1
  obtain ⟨np, nz, nz2, nN, nN2, nT⟩ := R.nums
  have hn1 : (mi1 62 5).toInt = (nV (mi 62) : Int) := by rw [e62]; exact wn.1
  have hm1 : (mi1 62 26).toInt = (mV (mi 62) : Int) := by rw [e62]; exact wm.1
  have ht1 : (mi1 62 32).toInt = (tV (mi 62) : Int) := by rw [e62]; exact wt.1
  have hw1 : WFV (mi1 62) := by rw [e62]; exact R.1
  have hs1 : (mi1 61 2).toInt = (zV mi : Int) := by rw [f 61 (by decide)]; exact nz2
  have hN1 : (mi1 61 4).toInt = (NV mi : Int) := by rw [f 61 (by decide)]; exact nN2
  refine Ct.mono (c_X6_hitsOn l hfl mi1 ml1 _ hn1 (by omega) hw1 a A hA) (fun rv w hm => ?_)
  obtain ⟨b9, mi2, ml2, e1, e2, hm⟩ := hm
  refine ⟨b9, mi2, ml2, e1, e2, ?_⟩
  rw [e62] at hm
  rcases h with ⟨hr, v, mk, ⟨rfl, hF, b1, hb1, hb2, hv⟩, he⟩ | ⟨En, ⟨rfl, rfl, rfl, ha⟩, hr⟩
  · rcases hm.2 with ⟨q, _⟩ | ⟨b2, hb3, hb4, S, q⟩
    · exact absurd (by omega) q
    · obtain rfl : b1 = b2 := by omega
      exact q_n R (f52 hF) R.2.2.2.2 he S (J_e hm.1) (congrArg Int32.toInt64 (tI_eq hv q rfl)) hr
  · rcases hm.2 with ⟨_, S⟩ | ⟨b2, hb3, hb4, S, q⟩
    · exact q_x R Fr_r R.2.2.2.2 S (J_e hm.1) hr (by decide)
    · exact absurd (show 0 ≤ A ∧ A < (nV (mi 62) : Int) by omega) ha
set_option maxRecDepth 100000 in
theorem b_heard (l : Launch) (hfl : l.stackTraces = false) {mi mi1 : MI} {ml ml1 : MJ} (R : Rel mi ml) (a : Int32) (c : Int32) (A : Int) (C : Int) (hA : a.toInt = A) (hC : c.toInt = C) (r : Int32) (h : (r = 0 ∧ ∃ (ans : Int32) (mk : MJ), (fun r mi9 ml9 => Fr [51, 52] mi mi9 ∧ FL60 ml ml9 ∧ (0 ≤ A ∧ A ≤ ((2 ^ (nV (mi 62)) - 1 : Nat) : Int)) ∧ (0 ≤ C ∧ C < 64) ∧ ∃ act ch : Nat, A = (act : Int) ∧ C = (ch : Int) ∧ r.toInt = (hbS (mi 62) (nV (mi 62)) act ch (mV (mi 62)) : Int)) ans mi1 mk ∧ u2 mk 73 0 ans.toInt64 = ml1) ∨ ∃ En, (fun En mi9 ml9 => mi = mi9 ∧ ml = ml9 ∧ En = xIA ∧ ¬ ((0 ≤ A ∧ A ≤ ((2 ^ (nV (mi 62)) - 1 : Nat) : Int)) ∧ (0 ≤ C ∧ C < 64))) En mi1 ml1 ∧ r = cd1 En) : Ct l yX6_heard (.code yX6_heard cX6_heard 3 (some .int)) 7 0 0 [.ref 61, .int a, .int c] (wl mi1 ml1) (QI (fun b mi2 ml2 => Rel mi2 ml2 ∧ mi2 61 5 = r ∧ (r = 0 → ml2 73 0 = b.toInt64))) noX := by
  have f : ∀ g, 60 ≤ g → mi1 g = mi g := by
    rcases h with ⟨_, v, mk, hv, _⟩ | ⟨En, hx, _⟩
    · exact g60 (f52 hv.1)
    · exact fun g _ => by rw [← hx.1]
  have e62 := f 62 (by decide)
  have wn := wf_n R.1
  have wm := wf_m R.1
  have wt := wf_t R.1
  obtain ⟨np, nz, nz2, nN, nN2, nT⟩ := R.nums
  have hn1 : (mi1 62 5).toInt = (nV (mi 62) : Int) := by rw [e62]; exact wn.1
  have hm1 : (mi1 62 26).toInt = (mV (mi 62) : Int) := by rw [e62]; exact wm.1
  have ht1 : (mi1 62 32).toInt = (tV (mi 62) : Int) := by rw [e62]; exact wt.1
  have hw1 : WFV (mi1 62) := by rw [e62]; exact R.1
  have hs1 : (mi1 61 2).toInt = (zV mi : Int) := by rw [f 61 (by decide)]; exact nz2
  have hN1 : (mi1 61 4).toInt = (NV mi : Int) := by rw [f 61 (by decide)]; exact nN2
  refine Ct.mono (c_X6_heard l hfl mi1 ml1 _ hn1 (by omega) hw1 _ hm1 (by omega) a c A C hA hC) (fun rv w hm => ?_)
  obtain ⟨b9, mi2, ml2, e1, e2, hm⟩ := hm
  refine ⟨b9, mi2, ml2, e1, e2, ?_⟩
  rw [e62] at hm
  rcases h with ⟨hr, v, mk, ⟨hF, hL, ha, hc, s1, h1, hs1_, hh1, hv⟩, he⟩ | ⟨En, ⟨rfl, rfl, rfl, ha⟩, hr⟩
  · rcases hm.2 with ⟨q, _⟩ | ⟨_, s2, h2, hs3, hh3, hh4, S, q⟩
    · exact absurd ⟨ha, by omega⟩ q
    · obtain rfl : s1 = s2 := by omega
      obtain rfl : h1 = h2 := by omega
      exact q_n R (f52 hF) (z60 hL R.2.2.2.2) he S (J_e hm.1) (congrArg Int32.toInt64 (tI_eq hv q rfl)) hr
  · rcases hm.2 with ⟨_, S⟩ | ⟨q, s2, h2, hs3, hh3, hh4, S, _⟩
    · exact q_x R Fr_r R.2.2.2.2 S (J_e hm.1) hr (by decide)
    · exact absurd ⟨q, by omega⟩ ha
set_option maxRecDepth 100000 in
theorem b_bestTest (l : Launch) (hfl : l.stackTraces = false) {mi mi1 : MI} {ml ml1 : MJ} (R : Rel mi ml) (a : Int32) (A : Int) (hA : a.toInt = A) (r : Int32) (h : (r = 0 ∧ ∃ (ans : Int32) (mk : MJ), (fun r mi9 ml9 => Fr [51, 52] mi mi9 ∧ FL60 ml ml9 ∧ (0 ≤ A ∧ A ≤ ((2 ^ (nV (mi 62)) - 1 : Nat) : Int)) ∧ ∃ act : Nat, A = (act : Int) ∧ r.toInt = ((btS (mi 62) (nV (mi 62)) (mV (mi 62)) act (fitL (mi 62) (nV (mi 62)) (mV (mi 62)) (tV (mi 62)) (2 ^ (mV (mi 62)))) 64).1 : Int)) ans mi1 mk ∧ u2 mk 73 0 ans.toInt64 = ml1) ∨ ∃ En, (fun En mi9 ml9 => mi = mi9 ∧ ml = ml9 ∧ En = xIA ∧ ¬ (0 ≤ A ∧ A ≤ ((2 ^ (nV (mi 62)) - 1 : Nat) : Int))) En mi1 ml1 ∧ r = cd1 En) : Ct l yX6_bestTest (.code yX6_bestTest cX6_bestTest 8 (some .int)) 8 0 0 [.ref 61, .int a] (wl mi1 ml1) (QI (fun b mi2 ml2 => Rel mi2 ml2 ∧ mi2 61 5 = r ∧ (r = 0 → ml2 73 0 = b.toInt64))) noX := by
  have f : ∀ g, 60 ≤ g → mi1 g = mi g := by
    rcases h with ⟨_, v, mk, hv, _⟩ | ⟨En, hx, _⟩
    · exact g60 (f52 hv.1)
    · exact fun g _ => by rw [← hx.1]
  have e62 := f 62 (by decide)
  have wn := wf_n R.1
  have wm := wf_m R.1
  have wt := wf_t R.1
  obtain ⟨np, nz, nz2, nN, nN2, nT⟩ := R.nums
  have hn1 : (mi1 62 5).toInt = (nV (mi 62) : Int) := by rw [e62]; exact wn.1
  have hm1 : (mi1 62 26).toInt = (mV (mi 62) : Int) := by rw [e62]; exact wm.1
  have ht1 : (mi1 62 32).toInt = (tV (mi 62) : Int) := by rw [e62]; exact wt.1
  have hw1 : WFV (mi1 62) := by rw [e62]; exact R.1
  have hs1 : (mi1 61 2).toInt = (zV mi : Int) := by rw [f 61 (by decide)]; exact nz2
  have hN1 : (mi1 61 4).toInt = (NV mi : Int) := by rw [f 61 (by decide)]; exact nN2
  refine Ct.mono (c_X6_bestTest l hfl mi1 ml1 _ hn1 (by omega) hw1 _ hm1 (by omega) _ ht1 a A hA) (fun rv w hm => ?_)
  obtain ⟨b9, mi2, ml2, e1, e2, hm⟩ := hm
  refine ⟨b9, mi2, ml2, e1, e2, ?_⟩
  rw [e62] at hm
  rcases h with ⟨hr, v, mk, ⟨hF, hL, ha, s1, hs1_, hv⟩, he⟩ | ⟨En, ⟨rfl, rfl, rfl, ha⟩, hr⟩
  · rcases hm.2 with ⟨q, _⟩ | ⟨_, s2, hs3, S, q⟩
    · exact absurd ha q
    · obtain rfl : s1 = s2 := by omega
      exact q_n R (f52 hF) (z60 hL R.2.2.2.2) he S (J_e hm.1) (congrArg Int32.toInt64 (tI_eq hv q rfl)) hr
  · rcases hm.2 with ⟨_, S⟩ | ⟨q, _⟩
    · exact q_x R Fr_r R.2.2.2.2 S (J_e hm.1) hr (by decide)
    · exact absurd q ha
set_option maxRecDepth 100000 in
theorem b_openings (l : Launch) (hfl : l.stackTraces = false) {mi mi1 : MI} {ml ml1 : MJ} (R : Rel mi ml) (a : Int32) (A : Int) (hA : a.toInt = A) (r : Int32) (h : (r = 0 ∧ ∃ (ans : Int64) (mk : MJ), (fun r mi9 ml9 => Fr [53, 54, 55] mi mi9 ∧ FLc ml ml9 ∧ (ml9 56 0 = 0 ∧ ml9 57 0 = 0) ∧ (0 ≤ A ∧ A ≤ 60) ∧ r = opS (mi 62) (nV (mi 62)) A 64) ans mi1 mk ∧ u2 mk 73 0 ans = ml1) ∨ ∃ En, (fun En mi9 ml9 => mi = mi9 ∧ ml = ml9 ∧ En = xIA ∧ ¬ (0 ≤ A ∧ A ≤ 60)) En mi1 ml1 ∧ r = cd1 En) : Ct l yX6_openings (.code yX6_openings cX6_openings 2 (some .long)) 5 0 0 [.ref 61, .int a] (wl mi1 ml1) (QJ (fun b mi2 ml2 => Rel mi2 ml2 ∧ mi2 61 5 = r ∧ (r = 0 → ml2 73 0 = b))) noX := by
  have f : ∀ g, 60 ≤ g → mi1 g = mi g := by
    rcases h with ⟨_, v, mk, hv, _⟩ | ⟨En, hx, _⟩
    · exact g60 (f53 hv.1)
    · exact fun g _ => by rw [← hx.1]
  have e62 := f 62 (by decide)
  have wn := wf_n R.1
  have wm := wf_m R.1
  have wt := wf_t R.1
  obtain ⟨np, nz, nz2, nN, nN2, nT⟩ := R.nums
  have hn1 : (mi1 62 5).toInt = (nV (mi 62) : Int) := by rw [e62]; exact wn.1
  have hm1 : (mi1 62 26).toInt = (mV (mi 62) : Int) := by rw [e62]; exact wm.1
  have ht1 : (mi1 62 32).toInt = (tV (mi 62) : Int) := by rw [e62]; exact wt.1
  have hw1 : WFV (mi1 62) := by rw [e62]; exact R.1
  have hs1 : (mi1 61 2).toInt = (zV mi : Int) := by rw [f 61 (by decide)]; exact nz2
  have hN1 : (mi1 61 4).toInt = (NV mi : Int) := by rw [f 61 (by decide)]; exact nN2
  refine Ct.mono (c_X6_openings l hfl mi1 ml1 _ hn1 (by omega) hw1 a A hA) (fun rv w hm => ?_)
  obtain ⟨b9, mi2, ml2, e1, e2, hm⟩ := hm
  refine ⟨b9, mi2, ml2, e1, e2, ?_⟩
  rw [e62] at hm
  rcases h with ⟨hr, v, mk, ⟨hF, hL, hz9, ha, hv⟩, he⟩ | ⟨En, ⟨rfl, rfl, rfl, ha⟩, hr⟩
  · rcases hm.2 with ⟨q, _⟩ | ⟨_, S, q⟩
    · exact absurd ha q
    · exact q_n R (f53 hF) hz9 he S (J_e hm.1) (by rw [hv, q]) hr
  · rcases hm.2 with ⟨_, S⟩ | ⟨q, _⟩
    · exact q_x R Fr_r R.2.2.2.2 S (J_e hm.1) hr (by decide)
    · exact absurd q ha
theorem ls_eq {V : Nat → Int32} {m : Nat} {x y : Int32} {w : Int64} {mi : MI} {ml : MJ} (h : BrE V m x mi ml) (h2 : lsE V m y w) : x = y := by
  rcases h with ⟨s, R, a1, a2, a3, a4, _⟩ | ⟨a1, a2⟩
  · rcases h2 with ⟨s', R', b1, b2, b3, b4, b5⟩ | ⟨b1, b2⟩
    · rcases Nat.lt_trichotomy s s' with q | q | q
      · rw [b5 s q] at a3; cases a3
      · exact tI_eq a2 b2 (by rw [q])
      · rw [a4 s' q] at b3; cases b3
    · rw [b2 s a1] at a3; cases a3
  · rcases h2 with ⟨s', R', b1, b2, b3, b4, b5⟩ | ⟨b1, b2⟩
    · rw [a2 s' b1] at b3; cases b3
    · rw [a1, b1]
set_option maxRecDepth 100000 in
theorem b_leastSpan (l : Launch) (hfl : l.stackTraces = false) {mi mi1 : MI} {ml ml1 : MJ} (R : Rel mi ml) (a : Int32) (A : Int) (hA : a.toInt = A) (r : Int32) (h : (r = 0 ∧ ∃ (ans : Int32) (mk : MJ), (fun r mi9 ml9 => Fr [53, 54, 55] mi mi9 ∧ FLc ml ml9 ∧ (ml9 56 0 = 0 ∧ ml9 57 0 = 0) ∧ (1 ≤ A ∧ A ≤ 6) ∧ ∃ m : Nat, A = (m : Int) ∧ BrE (mi 62) m r mi9 ml9) ans mi1 mk ∧ u2 mk 73 0 ans.toInt64 = ml1) ∨ ∃ En, (fun En mi9 ml9 => mi = mi9 ∧ ml = ml9 ∧ En = xIA ∧ ¬ (1 ≤ A ∧ A ≤ 6)) En mi1 ml1 ∧ r = cd1 En) : Ct l yX6_leastSpan (.code yX6_leastSpan cX6_leastSpan 2 (some .int)) 6 0 0 [.ref 61, .int a] (wl mi1 ml1) (QI (fun b mi2 ml2 => Rel mi2 ml2 ∧ mi2 61 5 = r ∧ (r = 0 → ml2 73 0 = b.toInt64))) noX := by
  have f : ∀ g, 60 ≤ g → mi1 g = mi g := by
    rcases h with ⟨_, v, mk, hv, _⟩ | ⟨En, hx, _⟩
    · exact g60 (f53 hv.1)
    · exact fun g _ => by rw [← hx.1]
  have e62 := f 62 (by decide)
  have wn := wf_n R.1
  have wm := wf_m R.1
  have wt := wf_t R.1
  obtain ⟨np, nz, nz2, nN, nN2, nT⟩ := R.nums
  have hn1 : (mi1 62 5).toInt = (nV (mi 62) : Int) := by rw [e62]; exact wn.1
  have hm1 : (mi1 62 26).toInt = (mV (mi 62) : Int) := by rw [e62]; exact wm.1
  have ht1 : (mi1 62 32).toInt = (tV (mi 62) : Int) := by rw [e62]; exact wt.1
  have hw1 : WFV (mi1 62) := by rw [e62]; exact R.1
  have hs1 : (mi1 61 2).toInt = (zV mi : Int) := by rw [f 61 (by decide)]; exact nz2
  have hN1 : (mi1 61 4).toInt = (NV mi : Int) := by rw [f 61 (by decide)]; exact nN2
  refine Ct.mono (c_X6_leastSpan l hfl mi1 ml1 _ hn1 (by omega) hw1 a A hA) (fun rv w hm => ?_)
  obtain ⟨b9, mi2, ml2, e1, e2, hm⟩ := hm
  refine ⟨b9, mi2, ml2, e1, e2, ?_⟩
  rw [e62] at hm
  rcases h with ⟨hr, v, mk, ⟨hF, hL, hz9, ha, m1, hm1_, hv⟩, he⟩ | ⟨En, ⟨rfl, rfl, rfl, ha⟩, hr⟩
  · rcases hm.2 with ⟨q, _⟩ | ⟨_, m2, hm2, S, q⟩
    · exact absurd ha q
    · obtain rfl : m1 = m2 := by omega
      exact q_n R (f53 hF) hz9 he S (J_F hm.1) (congrArg Int32.toInt64 (ls_eq hv q)) hr
  · rcases hm.2 with ⟨_, S⟩ | ⟨q, _⟩
    · exact q_x R Fr_r R.2.2.2.2 S (J_F hm.1) hr (by decide)
    · exact absurd q ha
theorem br_eq {V : Nat → Int32} {m : Nat} {x : Int32} {v b w : Int64} (h : (v = 0 ∧ ∀ t, t ≤ 40 → skFA V m t = none) ∨ (∃ (s : Nat) (R : List Nat), s ≤ 40 ∧ skFA V m s = some R ∧ (∀ t, t < s → skFA V m t = none) ∧ v = rbF R)) (h2 : lsE V m x w) (h3 : (x.toInt = -1 ∧ b = 0) ∨ (x.toInt ≠ -1 ∧ b = w)) : v = b := by
  rcases h with ⟨a1, a2⟩ | ⟨s, R, a1, a3, a4, a5⟩
  · rcases h2 with ⟨s', R', b1, b2, b3, b4, b5⟩ | ⟨b1, b2⟩
    · rw [a2 s' b1] at b3; cases b3
    · rcases h3 with ⟨_, c⟩ | ⟨c, _⟩
      · rw [a1, c]
      · exact absurd (by rw [b1]; rfl) c
  · rcases h2 with ⟨s', R', b1, b2, b3, b4, b5⟩ | ⟨b1, b2⟩
    · rcases Nat.lt_trichotomy s s' with q | q | q
      · rw [b5 s q] at a3; cases a3
      · subst q
        rw [a3] at b3
        cases b3
        rcases h3 with ⟨c, _⟩ | ⟨_, c⟩
        · omega
        · rw [a5, c, b4]
      · rw [a4 s' q] at b3; cases b3
    · rw [b2 s a1] at a3; cases a3
set_option maxRecDepth 100000 in
theorem b_bestRuler (l : Launch) (hfl : l.stackTraces = false) {mi mi1 : MI} {ml ml1 : MJ} (R : Rel mi ml) (a : Int32) (A : Int) (hA : a.toInt = A) (r : Int32) (h : (r = 0 ∧ ∃ (ans : Int64) (mk : MJ), (fun r mi9 ml9 => Fr [53, 54, 55] mi mi9 ∧ FLc ml ml9 ∧ (ml9 56 0 = 0 ∧ ml9 57 0 = 0) ∧ (1 ≤ A ∧ A ≤ 6) ∧ ∃ m : Nat, A = (m : Int) ∧ ((r = 0 ∧ ∀ t, t ≤ 40 → skFA (mi 62) m t = none) ∨ (∃ (s : Nat) (R : List Nat), s ≤ 40 ∧ skFA (mi 62) m s = some R ∧ (∀ t, t < s → skFA (mi 62) m t = none) ∧ r = rbF R))) ans mi1 mk ∧ u2 mk 73 0 ans = ml1) ∨ ∃ En, (fun En mi9 ml9 => mi = mi9 ∧ ml = ml9 ∧ En = xIA ∧ ¬ (1 ≤ A ∧ A ≤ 6)) En mi1 ml1 ∧ r = cd1 En) : Ct l yX6_bestRuler (.code yX6_bestRuler cX6_bestRuler 2 (some .long)) 6 0 0 [.ref 61, .int a] (wl mi1 ml1) (QJ (fun b mi2 ml2 => Rel mi2 ml2 ∧ mi2 61 5 = r ∧ (r = 0 → ml2 73 0 = b))) noX := by
  have f : ∀ g, 60 ≤ g → mi1 g = mi g := by
    rcases h with ⟨_, v, mk, hv, _⟩ | ⟨En, hx, _⟩
    · exact g60 (f53 hv.1)
    · exact fun g _ => by rw [← hx.1]
  have e62 := f 62 (by decide)
  have wn := wf_n R.1
  have wm := wf_m R.1
  have wt := wf_t R.1
  obtain ⟨np, nz, nz2, nN, nN2, nT⟩ := R.nums
  have hn1 : (mi1 62 5).toInt = (nV (mi 62) : Int) := by rw [e62]; exact wn.1
  have hm1 : (mi1 62 26).toInt = (mV (mi 62) : Int) := by rw [e62]; exact wm.1
  have ht1 : (mi1 62 32).toInt = (tV (mi 62) : Int) := by rw [e62]; exact wt.1
  have hw1 : WFV (mi1 62) := by rw [e62]; exact R.1
  have hs1 : (mi1 61 2).toInt = (zV mi : Int) := by rw [f 61 (by decide)]; exact nz2
  have hN1 : (mi1 61 4).toInt = (NV mi : Int) := by rw [f 61 (by decide)]; exact nN2
  refine Ct.mono (c_X6_bestRuler l hfl mi1 ml1 _ hn1 (by omega) hw1 a A hA) (fun rv w hm => ?_)
  obtain ⟨b9, mi2, ml2, e1, e2, hm⟩ := hm
  refine ⟨b9, mi2, ml2, e1, e2, ?_⟩
  rw [e62] at hm
  rcases h with ⟨hr, v, mk, ⟨hF, hL, hz9, ha, m1, hm1_, hv⟩, he⟩ | ⟨En, ⟨rfl, rfl, rfl, ha⟩, hr⟩
  · rcases hm.2 with ⟨q, _⟩ | ⟨_, m2, hm2, S, x, q, q2⟩
    · exact absurd ha q
    · obtain rfl : m1 = m2 := by omega
      exact q_n R (f53 hF) hz9 he S (J_F hm.1) (br_eq hv q q2) hr
  · rcases hm.2 with ⟨_, S⟩ | ⟨q, _⟩
    · exact q_x R Fr_r R.2.2.2.2 S (J_F hm.1) hr (by decide)
    · exact absurd q ha
set_option maxRecDepth 100000 in
theorem b_rulers (l : Launch) (hfl : l.stackTraces = false) {mi mi1 : MI} {ml ml1 : MJ} (R : Rel mi ml) (a : Int32) (A : Int) (hA : a.toInt = A) (b : Int32) (B : Int) (hB : b.toInt = B) (r : Int32) (h : (r = 0 ∧ ∃ (ans : Int32) (mk : MJ), (fun r mi9 ml9 => Fr [53, 54, 55] mi mi9 ∧ FLc ml ml9 ∧ (ml9 56 0 = 0 ∧ ml9 57 0 = 0) ∧ ((1 ≤ A ∧ A ≤ 5) ∧ (0 ≤ B ∧ B ≤ 40)) ∧ ∃ m S : Nat, A = (m : Int) ∧ B = (S : Int) ∧ CrE (mi 62) m S 10000 r.toInt mi9 ml9) ans mi1 mk ∧ u2 mk 73 0 ans.toInt64 = ml1) ∨ ∃ En, (fun En mi9 ml9 => mi = mi9 ∧ ml = ml9 ∧ En = xIA ∧ ¬ ((1 ≤ A ∧ A ≤ 5) ∧ (0 ≤ B ∧ B ≤ 40))) En mi1 ml1 ∧ r = cd1 En) : Ct l yX6_rulers (.code yX6_rulers cX6_rulers 3 (some .int)) 5 0 0 [.ref 61, .int a, .int b] (wl mi1 ml1) (QI (fun b mi2 ml2 => Rel mi2 ml2 ∧ mi2 61 5 = r ∧ (r = 0 → ml2 73 0 = b.toInt64))) noX := by
  have f : ∀ g, 60 ≤ g → mi1 g = mi g := by
    rcases h with ⟨_, v, mk, hv, _⟩ | ⟨En, hx, _⟩
    · exact g60 (f53 hv.1)
    · exact fun g _ => by rw [← hx.1]
  have e62 := f 62 (by decide)
  have wn := wf_n R.1
  have wm := wf_m R.1
  have wt := wf_t R.1
  obtain ⟨np, nz, nz2, nN, nN2, nT⟩ := R.nums
  have hn1 : (mi1 62 5).toInt = (nV (mi 62) : Int) := by rw [e62]; exact wn.1
  have hm1 : (mi1 62 26).toInt = (mV (mi 62) : Int) := by rw [e62]; exact wm.1
  have ht1 : (mi1 62 32).toInt = (tV (mi 62) : Int) := by rw [e62]; exact wt.1
  have hw1 : WFV (mi1 62) := by rw [e62]; exact R.1
  have hs1 : (mi1 61 2).toInt = (zV mi : Int) := by rw [f 61 (by decide)]; exact nz2
  have hN1 : (mi1 61 4).toInt = (NV mi : Int) := by rw [f 61 (by decide)]; exact nN2
  refine Ct.mono (c_X6_rulers l hfl mi1 ml1 _ hn1 (by omega) hw1 a b A B hA hB) (fun rv w hm => ?_)
  obtain ⟨b9, mi2, ml2, e1, e2, hm⟩ := hm
  refine ⟨b9, mi2, ml2, e1, e2, ?_⟩
  rw [e62] at hm
  rcases h with ⟨hr, v, mk, ⟨hF, hL, hz9, ha, m1, S1, hm1_, hS1, hv⟩, he⟩ | ⟨En, ⟨rfl, rfl, rfl, ha⟩, hr⟩
  · rcases hm.2 with ⟨q, _⟩ | ⟨_, m2, S2, hm2, hS2, S, q⟩
    · exact absurd ha q
    · obtain rfl : m1 = m2 := by omega
      obtain rfl : S1 = S2 := by omega
      have hb9 := skCA_b (V := mi 62) (m := m1) (S := S1) (by omega) (by omega)
      exact q_n R (f53 hF) hz9 he S (J_F hm.1) (congrArg Int32.toInt64 (hv.elim (fun z => tI_eq z.1 q rfl) (fun z => tI_eq z.1 q (by have := z.2.1; omega)))) hr
  · rcases hm.2 with ⟨_, S⟩ | ⟨q, _⟩
    · exact q_x R Fr_r R.2.2.2.2 S (J_F hm.1) hr (by decide)
    · exact absurd q ha
end PAR
