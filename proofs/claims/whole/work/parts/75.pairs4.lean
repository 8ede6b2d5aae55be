section PA4
theorem d_q {mi mi1 mi2 : MI} {ml ml1 ml2 : MJ} (R : Rel mi ml) (F : Fr [51, 52, 53, 54, 55] mi mi1) (hz : ml1 56 0 = 0 ∧ ml1 57 0 = 0) (S : SM 0 mi1 mi2) (J : ∀ p, p ≠ 61 → ml2 p = ml1 p) : Rel mi2 ml2 := (q_end R F hz S J).1
theorem mn_eq {f : Nat → Nat → Int} {S : Nat → Nat → Prop} {x y : Int} (h : mnP f S x) (h2 : mnP f S y) : x = y := by
  rcases h with ⟨a1, a2⟩ | ⟨⟨a, b, a1, a2, a3⟩, a4⟩
  · rcases h2 with ⟨b1, b2⟩ | ⟨⟨c, d, b1, b2, b3⟩, b4⟩
    · omega
    · have := a2 c d b1; omega
  · rcases h2 with ⟨b1, b2⟩ | ⟨⟨c, d, b1, b2, b3⟩, b4⟩
    · have := b2 a b a1; omega
    · have h5 := a4 c d b1 b2
      have h6 := b4 a b a1 a2
      omega
theorem rm_eq {V : Nat → Int32} {n a b : Nat} (h : rmS V n a) (h2 : rmS V n b) : a = b := by
  have h3 := h.2.2 b h2.1 h2.2.1
  have h4 := h2.2.2 a h.1 h.2.1
  omega
theorem tX_eq {r r' : Nat → Int32} {N : Nat} (h : ∀ k, k < N → r k = r' k) : tX r N = tX r' N := by
  funext p
  unfold tX
  split
  · next q => rw [h p q]
  · rfl
set_option maxRecDepth 100000 in
theorem d_channels (l : Launch) (hfl : l.stackTraces = false) {mi : MI} {ml : MJ} (R : Rel mi ml)  : Ct l yX6_channels (.code yX6_channels cX6_channels 4 (some .long)) 1 0 0 [.ref 61] (wl mi ml) (QJ (fun b mi2 ml2 => Rel mi2 ml2 ∧ chS (fun j => mi 62 (6 + 2 * j)) (nV (mi 62)) = b)) noX := by
  obtain ⟨mi1, em⟩ : ∃ x, x = mi := ⟨_, rfl⟩
  obtain ⟨ml1, el⟩ : ∃ x, x = ml := ⟨_, rfl⟩
  rw [← em]
  rw [show wl mi1 ml = wl mi1 ml1 by rw [el]]
  have f : ∀ g, 60 ≤ g → mi1 g = mi g := by
    exact fun g _ => by rw [em]
  have e62 := f 62 (by decide)
  have wn := wf_n R.1
  have wm := wf_m R.1
  have wt := wf_t R.1
  obtain ⟨np, nz, nz2, nN, nN2, nT⟩ := R.nums
  have hn1 : (mi1 62 5).toInt = (nV (mi 62) : Int) := by rw [e62]; exact wn.1
  have hm1 : (mi1 62 26).toInt = (mV (mi 62) : Int) := by rw [e62]; exact wm.1
  have ht1 : (mi1 62 32).toInt = (tV (mi 62) : Int) := by rw [e62]; exact wt.1
  have hw1 : WFV (mi1 62) := by rw [e62]; exact R.1
  have hs1 : (mi1 61 2).toInt = (zV mi : Int) := by rw [f 61 (by decide)]; exact nz2
  have hN1 : (mi1 61 4).toInt = (NV mi : Int) := by rw [f 61 (by decide)]; exact nN2
  refine Ct.mono (c_X6_channels l hfl mi1 ml1 _ hn1 (by omega)) (fun rv w hm => ?_)
  obtain ⟨e1, e2⟩ := hm
  refine ⟨_, _, _, e1, e2, ?_⟩
  subst em el
  exact ⟨d_q R Fr_r R.2.2.2.2 SM_0 (fun _ _ => rfl), rfl⟩
set_option maxRecDepth 100000 in
theorem d_products (l : Launch) (hfl : l.stackTraces = false) {mi mi1 : MI} {ml ml1 : MJ} (R : Rel mi ml)  (a9 : Int32) (h : (fun r mi9 ml9 => ml = ml9 ∧ Fr [51, 52] mi mi9 ∧ r.toInt = ((prV (mi 62) (2 ^ (nV (mi 62)) - 1) (nV (mi 62))).length : Int)) a9 mi1 ml1) : Ct l yX6_products (.code yX6_products cX6_products 1 (some .int)) 5 0 0 [.ref 61] (wl mi1 ml1) (QI (fun b mi2 ml2 => Rel mi2 ml2 ∧ a9 = b)) noX := by
  have f : ∀ g, 60 ≤ g → mi1 g = mi g := by
    exact g60 (f52 h.2.1)
  have e62 := f 62 (by decide)
  have wn := wf_n R.1
  have wm := wf_m R.1
  have wt := wf_t R.1
  obtain ⟨np, nz, nz2, nN, nN2, nT⟩ := R.nums
  have hn1 : (mi1 62 5).toInt = (nV (mi 62) : Int) := by rw [e62]; exact wn.1
  have hm1 : (mi1 62 26).toInt = (mV (mi 62) : Int) := by rw [e62]; exact wm.1
  have ht1 : (mi1 62 32).toInt = (tV (mi 62) : Int) := by rw [e62]; exact wt.1
  have hw1 : WFV (mi1 62) := by rw [e62]; exact R.1
  have hs1 : (mi1 61 2).toInt = (zV mi : Int) := by rw [f 61 (by decide)]; exact nz2
  have hN1 : (mi1 61 4).toInt = (NV mi : Int) := by rw [f 61 (by decide)]; exact nN2
  refine Ct.mono (c_X6_products l hfl mi1 ml1 _ hn1 (by omega) hw1) (fun rv w hm => ?_)
  obtain ⟨b9, mi2, ml2, e1, e2, hm⟩ := hm
  refine ⟨b9, mi2, ml2, e1, e2, ?_⟩
  try rw [e62] at hm
  exact ⟨d_q R (f52 h.2.1) (by rw [← h.1]; exact R.2.2.2.2) hm.2.1 (J_e hm.1), tI_eq h.2.2 hm.2.2 rfl⟩
set_option maxRecDepth 100000 in
theorem d_hits (l : Launch) (hfl : l.stackTraces = false) {mi mi1 : MI} {ml ml1 : MJ} (R : Rel mi ml)  (a9 : Int32) (h : (fun r mi9 ml9 => ml = ml9 ∧ Fr [51, 52] mi mi9 ∧ r.toInt = (hsA (mi 62) (prV (mi 62) (2 ^ (nV (mi 62)) - 1) (nV (mi 62))) (nV (mi 62)) : Int)) a9 mi1 ml1) : Ct l yX6_hits (.code yX6_hits cX6_hits 1 (some .int)) 6 0 0 [.ref 61] (wl mi1 ml1) (QI (fun b mi2 ml2 => Rel mi2 ml2 ∧ a9 = b)) noX := by
  have f : ∀ g, 60 ≤ g → mi1 g = mi g := by
    exact g60 (f52 h.2.1)
  have e62 := f 62 (by decide)
  have wn := wf_n R.1
  have wm := wf_m R.1
  have wt := wf_t R.1
  obtain ⟨np, nz, nz2, nN, nN2, nT⟩ := R.nums
  have hn1 : (mi1 62 5).toInt = (nV (mi 62) : Int) := by rw [e62]; exact wn.1
  have hm1 : (mi1 62 26).toInt = (mV (mi 62) : Int) := by rw [e62]; exact wm.1
  have ht1 : (mi1 62 32).toInt = (tV (mi 62) : Int) := by rw [e62]; exact wt.1
  have hw1 : WFV (mi1 62) := by rw [e62]; exact R.1
  have hs1 : (mi1 61 2).toInt = (zV mi : Int) := by rw [f 61 (by decide)]; exact nz2
  have hN1 : (mi1 61 4).toInt = (NV mi : Int) := by rw [f 61 (by decide)]; exact nN2
  refine Ct.mono (c_X6_hits l hfl mi1 ml1 _ hn1 (by omega) hw1) (fun rv w hm => ?_)
  obtain ⟨b9, mi2, ml2, e1, e2, hm⟩ := hm
  refine ⟨b9, mi2, ml2, e1, e2, ?_⟩
  try rw [e62] at hm
  exact ⟨d_q R (f52 h.2.1) (by rw [← h.1]; exact R.2.2.2.2) hm.2.1 (J_e hm.1), tI_eq h.2.2 hm.2.2 rfl⟩
set_option maxRecDepth 100000 in
theorem d_isClean (l : Launch) (hfl : l.stackTraces = false) {mi mi1 : MI} {ml ml1 : MJ} (R : Rel mi ml)  (a9 : Int32) (h : (fun r mi9 ml9 => Fr [53, 54, 55] mi mi9 ∧ FLc ml ml9 ∧ (ml9 56 0 = 0 ∧ ml9 57 0 = 0) ∧ r = bI (ClR (DV (mi 62)) ((mi 62) 3).toInt ((mi 62) 4).toInt (nV (mi 62)))) a9 mi1 ml1) : Ct l yX6_isClean (.code yX6_isClean cX6_isClean 1 (some .boolean)) 4 0 0 [.ref 61] (wl mi1 ml1) (QI (fun b mi2 ml2 => Rel mi2 ml2 ∧ a9 = b)) noX := by
  have f : ∀ g, 60 ≤ g → mi1 g = mi g := by
    exact g60 (f53 h.1)
  have e62 := f 62 (by decide)
  have wn := wf_n R.1
  have wm := wf_m R.1
  have wt := wf_t R.1
  obtain ⟨np, nz, nz2, nN, nN2, nT⟩ := R.nums
  have hn1 : (mi1 62 5).toInt = (nV (mi 62) : Int) := by rw [e62]; exact wn.1
  have hm1 : (mi1 62 26).toInt = (mV (mi 62) : Int) := by rw [e62]; exact wm.1
  have ht1 : (mi1 62 32).toInt = (tV (mi 62) : Int) := by rw [e62]; exact wt.1
  have hw1 : WFV (mi1 62) := by rw [e62]; exact R.1
  have hs1 : (mi1 61 2).toInt = (zV mi : Int) := by rw [f 61 (by decide)]; exact nz2
  have hN1 : (mi1 61 4).toInt = (NV mi : Int) := by rw [f 61 (by decide)]; exact nN2
  refine Ct.mono (c_X6_isClean l hfl mi1 ml1 _ hn1 (by omega) hw1) (fun rv w hm => ?_)
  obtain ⟨b9, mi2, ml2, e1, e2, hm⟩ := hm
  refine ⟨b9, mi2, ml2, e1, e2, ?_⟩
  try rw [e62] at hm
  exact ⟨d_q R (f53 h.1) h.2.2.1 hm.2.1 (J_e hm.1), h.2.2.2.trans hm.2.2.symm⟩
set_option maxRecDepth 100000 in
theorem d_closest (l : Launch) (hfl : l.stackTraces = false) {mi mi1 : MI} {ml ml1 : MJ} (R : Rel mi ml)  (a9 : Int32) (h : (fun r mi9 ml9 => mi = mi9 ∧ ml = ml9 ∧ mnP (fun a b => ((mi 62) (6 + 2 * a)).toInt - ((mi 62) (6 + 2 * b)).toInt) (fun a1 b1 => a1 < (nV (mi 62)) ∧ b1 < (nV (mi 62))) r.toInt) a9 mi1 ml1) : Ct l yX6_closest (.code yX6_closest cX6_closest 5 (some .int)) 1 0 0 [.ref 61] (wl mi1 ml1) (QI (fun b mi2 ml2 => Rel mi2 ml2 ∧ a9 = b)) noX := by
  have f : ∀ g, 60 ≤ g → mi1 g = mi g := by
    exact fun g _ => by rw [← h.1]
  have e62 := f 62 (by decide)
  have wn := wf_n R.1
  have wm := wf_m R.1
  have wt := wf_t R.1
  obtain ⟨np, nz, nz2, nN, nN2, nT⟩ := R.nums
  have hn1 : (mi1 62 5).toInt = (nV (mi 62) : Int) := by rw [e62]; exact wn.1
  have hm1 : (mi1 62 26).toInt = (mV (mi 62) : Int) := by rw [e62]; exact wm.1
  have ht1 : (mi1 62 32).toInt = (tV (mi 62) : Int) := by rw [e62]; exact wt.1
  have hw1 : WFV (mi1 62) := by rw [e62]; exact R.1
  have hs1 : (mi1 61 2).toInt = (zV mi : Int) := by rw [f 61 (by decide)]; exact nz2
  have hN1 : (mi1 61 4).toInt = (NV mi : Int) := by rw [f 61 (by decide)]; exact nN2
  refine Ct.mono (c_X6_closest l hfl mi1 ml1 _ hn1 (by omega) hw1) (fun rv w hm => ?_)
  obtain ⟨b9, mi2, ml2, e1, e2, hm⟩ := hm
  refine ⟨b9, mi2, ml2, e1, e2, ?_⟩
  try rw [e62] at hm
  obtain ⟨rfl, rfl, h9⟩ := h
  exact ⟨d_q R Fr_r R.2.2.2.2 hm.2.1 (J_e hm.1), Int32.toInt_inj.mp (mn_eq h9 hm.2.2)⟩
set_option maxRecDepth 100000 in
theorem d_removal (l : Launch) (hfl : l.stackTraces = false) {mi mi1 : MI} {ml ml1 : MJ} (R : Rel mi ml)  (a9 : Int32) (h : (fun r mi9 ml9 => Fr [53, 54, 55] mi mi9 ∧ FLc ml ml9 ∧ (ml9 56 0 = 0 ∧ ml9 57 0 = 0) ∧ ∃ b : Nat, r.toInt = (b : Int) ∧ rmS (mi 62) (nV (mi 62)) b) a9 mi1 ml1) : Ct l yX6_removal (.code yX6_removal cX6_removal 3 (some .int)) 5 0 0 [.ref 61] (wl mi1 ml1) (QI (fun b mi2 ml2 => Rel mi2 ml2 ∧ a9 = b)) noX := by
  have f : ∀ g, 60 ≤ g → mi1 g = mi g := by
    exact g60 (f53 h.1)
  have e62 := f 62 (by decide)
  have wn := wf_n R.1
  have wm := wf_m R.1
  have wt := wf_t R.1
  obtain ⟨np, nz, nz2, nN, nN2, nT⟩ := R.nums
  have hn1 : (mi1 62 5).toInt = (nV (mi 62) : Int) := by rw [e62]; exact wn.1
  have hm1 : (mi1 62 26).toInt = (mV (mi 62) : Int) := by rw [e62]; exact wm.1
  have ht1 : (mi1 62 32).toInt = (tV (mi 62) : Int) := by rw [e62]; exact wt.1
  have hw1 : WFV (mi1 62) := by rw [e62]; exact R.1
  have hs1 : (mi1 61 2).toInt = (zV mi : Int) := by rw [f 61 (by decide)]; exact nz2
  have hN1 : (mi1 61 4).toInt = (NV mi : Int) := by rw [f 61 (by decide)]; exact nN2
  refine Ct.mono (c_X6_removal l hfl mi1 ml1 _ hn1 (by omega) hw1) (fun rv w hm => ?_)
  obtain ⟨b9, mi2, ml2, e1, e2, hm⟩ := hm
  refine ⟨b9, mi2, ml2, e1, e2, ?_⟩
  try rw [e62] at hm
  obtain ⟨hF, hL, hz9, b1, hb1, hb2⟩ := h
  obtain ⟨hm1, S, b2, hb3, hb4⟩ := hm
  exact ⟨d_q R (f53 hF) hz9 S (J_e hm1), tI_eq hb1 hb3 (by rw [rm_eq hb2 hb4])⟩
set_option maxRecDepth 100000 in
theorem d_diagnoses (l : Launch) (hfl : l.stackTraces = false) {mi mi1 : MI} {ml ml1 : MJ} (R : Rel mi ml)  (a9 : Int32) (h : (fun r mi9 ml9 => mi = mi9 ∧ ml = ml9 ∧ r.toInt = (((fitL (mi 62) (nV (mi 62)) (mV (mi 62)) (tV (mi 62)) (2 ^ (mV (mi 62)))).length : Nat) : Int)) a9 mi1 ml1) : Ct l yX6_diagnoses (.code yX6_diagnoses cX6_diagnoses 1 (some .int)) 8 0 0 [.ref 61] (wl mi1 ml1) (QI (fun b mi2 ml2 => Rel mi2 ml2 ∧ a9 = b)) noX := by
  have f : ∀ g, 60 ≤ g → mi1 g = mi g := by
    exact fun g _ => by rw [← h.1]
  have e62 := f 62 (by decide)
  have wn := wf_n R.1
  have wm := wf_m R.1
  have wt := wf_t R.1
  obtain ⟨np, nz, nz2, nN, nN2, nT⟩ := R.nums
  have hn1 : (mi1 62 5).toInt = (nV (mi 62) : Int) := by rw [e62]; exact wn.1
  have hm1 : (mi1 62 26).toInt = (mV (mi 62) : Int) := by rw [e62]; exact wm.1
  have ht1 : (mi1 62 32).toInt = (tV (mi 62) : Int) := by rw [e62]; exact wt.1
  have hw1 : WFV (mi1 62) := by rw [e62]; exact R.1
  have hs1 : (mi1 61 2).toInt = (zV mi : Int) := by rw [f 61 (by decide)]; exact nz2
  have hN1 : (mi1 61 4).toInt = (NV mi : Int) := by rw [f 61 (by decide)]; exact nN2
  refine Ct.mono (c_X6_diagnoses l hfl mi1 ml1 _ hn1 (by omega) hw1 _ hm1 (by omega) _ ht1) (fun rv w hm => ?_)
  obtain ⟨b9, mi2, ml2, e1, e2, hm⟩ := hm
  refine ⟨b9, mi2, ml2, e1, e2, ?_⟩
  try rw [e62] at hm
  obtain ⟨rfl, rfl, h9⟩ := h
  exact ⟨d_q R Fr_r R.2.2.2.2 hm.2.1 (J_e hm.1), tI_eq h9 hm.2.2 rfl⟩
set_option maxRecDepth 100000 in
theorem d_diagnosis (l : Launch) (hfl : l.stackTraces = false) {mi mi1 : MI} {ml ml1 : MJ} (R : Rel mi ml)  (a9 : Int32) (h : (fun r mi9 ml9 => mi = mi9 ∧ ml = ml9 ∧ r.toInt = bsF (fitL (mi 62) (nV (mi 62)) (mV (mi 62)) (tV (mi 62)) (2 ^ (mV (mi 62))))) a9 mi1 ml1) : Ct l yX6_diagnosis (.code yX6_diagnosis cX6_diagnosis 1 (some .int)) 9 0 0 [.ref 61] (wl mi1 ml1) (QI (fun b mi2 ml2 => Rel mi2 ml2 ∧ a9 = b)) noX := by
  have f : ∀ g, 60 ≤ g → mi1 g = mi g := by
    exact fun g _ => by rw [← h.1]
  have e62 := f 62 (by decide)
  have wn := wf_n R.1
  have wm := wf_m R.1
  have wt := wf_t R.1
  obtain ⟨np, nz, nz2, nN, nN2, nT⟩ := R.nums
  have hn1 : (mi1 62 5).toInt = (nV (mi 62) : Int) := by rw [e62]; exact wn.1
  have hm1 : (mi1 62 26).toInt = (mV (mi 62) : Int) := by rw [e62]; exact wm.1
  have ht1 : (mi1 62 32).toInt = (tV (mi 62) : Int) := by rw [e62]; exact wt.1
  have hw1 : WFV (mi1 62) := by rw [e62]; exact R.1
  have hs1 : (mi1 61 2).toInt = (zV mi : Int) := by rw [f 61 (by decide)]; exact nz2
  have hN1 : (mi1 61 4).toInt = (NV mi : Int) := by rw [f 61 (by decide)]; exact nN2
  refine Ct.mono (c_X6_diagnosis l hfl mi1 ml1 _ hn1 (by omega) hw1 _ hm1 (by omega) _ ht1) (fun rv w hm => ?_)
  obtain ⟨b9, mi2, ml2, e1, e2, hm⟩ := hm
  refine ⟨b9, mi2, ml2, e1, e2, ?_⟩
  try rw [e62] at hm
  obtain ⟨rfl, rfl, h9⟩ := h
  exact ⟨d_q R Fr_r R.2.2.2.2 hm.2.1 (J_e hm.1), tI_eq h9 hm.2.2 rfl⟩
set_option maxRecDepth 100000 in
theorem d_certain (l : Launch) (hfl : l.stackTraces = false) {mi mi1 : MI} {ml ml1 : MJ} (R : Rel mi ml) (xb : Int32) (P : Prop) (hxb : xb = bI P) (a9 : Int32) (h : (fun r mi9 ml9 => mi = mi9 ∧ ml = ml9 ∧ r = ctF (P) (nI (2 ^ (mV (mi 62)) - 1)) (fitL (mi 62) (nV (mi 62)) (mV (mi 62)) (tV (mi 62)) (2 ^ (mV (mi 62))))) a9 mi1 ml1) : Ct l yX6_certain (.code yX6_certain cX6_certain 4 (some .int)) 8 0 0 [.ref 61, .int xb] (wl mi1 ml1) (QI (fun b mi2 ml2 => Rel mi2 ml2 ∧ a9 = b)) noX := by
  subst hxb
  have f : ∀ g, 60 ≤ g → mi1 g = mi g := by
    exact fun g _ => by rw [← h.1]
  have e62 := f 62 (by decide)
  have wn := wf_n R.1
  have wm := wf_m R.1
  have wt := wf_t R.1
  obtain ⟨np, nz, nz2, nN, nN2, nT⟩ := R.nums
  have hn1 : (mi1 62 5).toInt = (nV (mi 62) : Int) := by rw [e62]; exact wn.1
  have hm1 : (mi1 62 26).toInt = (mV (mi 62) : Int) := by rw [e62]; exact wm.1
  have ht1 : (mi1 62 32).toInt = (tV (mi 62) : Int) := by rw [e62]; exact wt.1
  have hw1 : WFV (mi1 62) := by rw [e62]; exact R.1
  have hs1 : (mi1 61 2).toInt = (zV mi : Int) := by rw [f 61 (by decide)]; exact nz2
  have hN1 : (mi1 61 4).toInt = (NV mi : Int) := by rw [f 61 (by decide)]; exact nN2
  refine Ct.mono (c_X6_certain l hfl mi1 ml1 _ hn1 (by omega) hw1 _ hm1 (by omega) _ ht1 P) (fun rv w hm => ?_)
  obtain ⟨b9, mi2, ml2, e1, e2, hm⟩ := hm
  refine ⟨b9, mi2, ml2, e1, e2, ?_⟩
  try rw [e62] at hm
  obtain ⟨rfl, rfl, h9⟩ := h
  exact ⟨d_q R Fr_r R.2.2.2.2 hm.2.1 (J_e hm.1), h9.trans hm.2.2.symm⟩
set_option maxRecDepth 100000 in
theorem d_clearText (l : Launch) (hfl : l.stackTraces = false) {mi : MI} {ml : MJ} (R : Rel mi ml)  : Ct l yX6_clearText (.code yX6_clearText cX6_clearText 2 (some .int)) 0 0 0 [.ref 61] (wl (u2 mi 58 1 0) ml) (QI (fun b mi2 ml2 => Rel mi2 ml2 ∧ mi 58 1 = b)) noX := by
  obtain ⟨mi1, em⟩ : ∃ x, x = (u2 mi 58 1 0) := ⟨_, rfl⟩
  obtain ⟨ml1, el⟩ : ∃ x, x = ml := ⟨_, rfl⟩
  rw [← em]
  rw [show wl mi1 ml = wl mi1 ml1 by rw [el]]
  have f : ∀ g, 60 ≤ g → mi1 g = mi g := by
    exact fun g hg => by rw [em, u2_p (by omega)]
  have e62 := f 62 (by decide)
  have wn := wf_n R.1
  have wm := wf_m R.1
  have wt := wf_t R.1
  obtain ⟨np, nz, nz2, nN, nN2, nT⟩ := R.nums
  have hn1 : (mi1 62 5).toInt = (nV (mi 62) : Int) := by rw [e62]; exact wn.1
  have hm1 : (mi1 62 26).toInt = (mV (mi 62) : Int) := by rw [e62]; exact wm.1
  have ht1 : (mi1 62 32).toInt = (tV (mi 62) : Int) := by rw [e62]; exact wt.1
  have hw1 : WFV (mi1 62) := by rw [e62]; exact R.1
  have hs1 : (mi1 61 2).toInt = (zV mi : Int) := by rw [f 61 (by decide)]; exact nz2
  have hN1 : (mi1 61 4).toInt = (NV mi : Int) := by rw [f 61 (by decide)]; exact nN2
  refine Ct.mono (c_X6_clearText l hfl mi1 ml1) (fun rv w hm => ?_)
  obtain ⟨e1, e2⟩ := hm
  refine ⟨_, _, _, e1, e2, ?_⟩
  subst em el
  have hg : ∀ g, g ≠ 58 → g ≠ 61 → (u2 (u2 (u2 mi 58 1 0) 61 5 0) 61 4 0) g = mi g := fun g a1 a2 => by rw [u2_p a2, u2_p a2, u2_p a1]
  refine ⟨⟨?_, ?_, ?_, ⟨0, by decide, by rw [u2_p (by decide), u2_p (by decide), u2_s]; rfl, by rw [u2_s]; rfl, fun k hk => absurd hk (Nat.not_lt_zero k)⟩, R.2.2.2.2⟩, ?_⟩
  · rw [hg 62 (by decide) (by decide)]; exact R.1
  · rw [hg 62 (by decide) (by decide)]; exact R.2.1.fr (fun q hq => hg _ (by omega) (by omega))
  · exact R.2.2.1.c (fun g a1 a2 => hg g (by omega) (by omega)) (by rw [u2_n (Or.inr (by decide)), u2_n (Or.inr (by decide)), u2_p (by decide)]) (hg 63 (by decide) (by decide))
  · rw [u2_p (by decide)]; exact tI_eq nN.1 nN2 rfl
set_option maxRecDepth 100000 in
theorem d_digest (l : Launch) (hfl : l.stackTraces = false) {mi mi1 : MI} {ml ml1 : MJ} (R : Rel mi ml)  (a9 : Int64) (h : (fun r mi9 ml9 => ml = ml9 ∧ Fr [51, 52] mi mi9 ∧ r = hF9 3067 (dgL (mi 62) (NV mi) (nV (mi 62)) (mV (mi 62)) (tV (mi 62)) (zV mi))) a9 mi1 ml1) : Ct l yX6_digest (.code yX6_digest cX6_digest 2 (some .long)) 9 0 0 [.ref 61] (wl mi1 ml1) (QJ (fun b mi2 ml2 => Rel mi2 ml2 ∧ a9 = b)) noX := by
  have f : ∀ g, 60 ≤ g → mi1 g = mi g := by
    exact g60 (f52 h.2.1)
  have e62 := f 62 (by decide)
  have wn := wf_n R.1
  have wm := wf_m R.1
  have wt := wf_t R.1
  obtain ⟨np, nz, nz2, nN, nN2, nT⟩ := R.nums
  have hn1 : (mi1 62 5).toInt = (nV (mi 62) : Int) := by rw [e62]; exact wn.1
  have hm1 : (mi1 62 26).toInt = (mV (mi 62) : Int) := by rw [e62]; exact wm.1
  have ht1 : (mi1 62 32).toInt = (tV (mi 62) : Int) := by rw [e62]; exact wt.1
  have hw1 : WFV (mi1 62) := by rw [e62]; exact R.1
  have hs1 : (mi1 61 2).toInt = (zV mi : Int) := by rw [f 61 (by decide)]; exact nz2
  have hN1 : (mi1 61 4).toInt = (NV mi : Int) := by rw [f 61 (by decide)]; exact nN2
  refine Ct.mono (c_X6_digest l hfl mi1 ml1 _ hn1 (by omega) hw1 _ hm1 (by omega) _ ht1 _ _ hN1 (by omega) hs1 (by omega)) (fun rv w hm => ?_)
  obtain ⟨b9, mi2, ml2, e1, e2, hm⟩ := hm
  refine ⟨b9, mi2, ml2, e1, e2, ?_⟩
  try rw [e62] at hm
  exact ⟨d_q R (f52 h.2.1) (by rw [← h.1]; exact R.2.2.2.2) hm.2.1 (J_K hm.1), h.2.2.trans hm.2.2.symm⟩
set_option maxRecDepth 100000 in
theorem d_parse (l : Launch) (hfl : l.stackTraces = false) {mi mi1 : MI} {ml ml1 : MJ} (R : Rel mi ml)  (a9 : Int32) (h : (fun r mi9 ml9 => ml = ml9 ∧ ((∃ e : Nat, paS (tX (mi 59) (NV mi)) (NV mi) 122 [] [] 0 0 = .inl e ∧ r.toInt = -10 - (e : Int) ∧ PFr mi mi9) ∨ (∃ (D : List (Nat × Nat)) (M : List Nat) (it : Nat) (mj mk : MI), paS (tX (mi 59) (NV mi)) (NV mi) 122 [] [] 0 0 = .inr (D, M, it) ∧ r.toInt = (it : Int) ∧ PFr mi mj ∧ DrC mj D ∧ DrM mj M ∧ mj 9 10 = 0 ∧ (∀ k, k < 5 → mj 9 k = mi 1 k) ∧ PUS (pV mi) (zV mi) mj mk ∧ TFS 1 9 mk mi9))) a9 mi1 ml1) : Ct l yX6_parse (.code yX6_parse cX6_parse 3 (some .int)) 5 0 0 [.ref 61] (wl mi1 ml1) (QI (fun b mi2 ml2 => Rel mi2 ml2 ∧ a9 = b)) noX := by
  have f : ∀ g, 60 ≤ g → mi1 g = mi g := by
    rcases h.2 with ⟨e, _, _, hF⟩ | ⟨D, M, it, mj, mk, _, _, hF, _, _, _, _, hP, hT⟩
    · exact fun g hg => hF.1 g (by omega) (by omega)
    · exact fun g hg => (hT.far (by omega)).trans ((pus_h hP g (by omega)).trans (hF.1 g (by omega) (by omega)))
  have e62 := f 62 (by decide)
  have wn := wf_n R.1
  have wm := wf_m R.1
  have wt := wf_t R.1
  obtain ⟨np, nz, nz2, nN, nN2, nT⟩ := R.nums
  have hn1 : (mi1 62 5).toInt = (nV (mi 62) : Int) := by rw [e62]; exact wn.1
  have hm1 : (mi1 62 26).toInt = (mV (mi 62) : Int) := by rw [e62]; exact wm.1
  have ht1 : (mi1 62 32).toInt = (tV (mi 62) : Int) := by rw [e62]; exact wt.1
  have hw1 : WFV (mi1 62) := by rw [e62]; exact R.1
  have hs1 : (mi1 61 2).toInt = (zV mi : Int) := by rw [f 61 (by decide)]; exact nz2
  have hN1 : (mi1 61 4).toInt = (NV mi : Int) := by rw [f 61 (by decide)]; exact nN2
  refine Ct.mono (c_X6_parse l hfl mi1 ml1 _ _ hN1 (by omega) hs1 (by omega)) (fun rv w hm => ?_)
  obtain ⟨b9, mi2, ml2, e1, e2, hm⟩ := hm
  refine ⟨b9, mi2, ml2, e1, e2, ?_⟩
  try rw [e62] at hm
  have hTT : tX (mi1 64) (NV mi) = tX (mi 59) (NV mi) := by rw [f 64 (by decide)]; exact tX_eq (fun k hk => (nT k hk).symm)
  rw [hTT] at hm
  obtain ⟨hl1, h⟩ := h
  obtain ⟨hl2, hm⟩ := hm
  subst hl1
  have hJ := J_e hl2
  have hz : ml2 56 0 = 0 ∧ ml2 57 0 = 0 := by rw [hJ 56 (by decide), hJ 57 (by decide)]; exact R.2.2.2.2
  rcases h with ⟨e, hp, hr, hF⟩ | ⟨D, M, it, mj, mk, hp, hr, hF, hdc, hdm, h910, h5, hP, hT⟩
  · rcases hm with ⟨e3, x, hp2, hx, hr2, S⟩ | ⟨D2, M2, it2, mj2, mk2, hp2, _⟩
    · rw [hp] at hp2; cases hp2
      have hle := paS_l hp (Nat.zero_le _)
      refine ⟨R.q (fun g a b => (S.1 g (by simp only [List.mem_cons, List.not_mem_nil, or_false, not_or]; omega)).trans (hF.1 g (by omega) (by omega))) ((congrFun (S.1 58 (by decide)) 1).trans hF.2) (by rw [S.2.1, f 61 (by decide)]) (by rw [S.2.2.1, f 61 (by decide)]) hz, ?_⟩
      rw [hr2]; exact tI_eq hr (tI_sub (show (-10 : Int32).toInt = -10 from rfl) hx (by omega)) rfl
    · rw [hp] at hp2; cases hp2
  · rcases hm with ⟨e3, x, hp2, _⟩ | ⟨D2, M2, it2, mq, mj2, hp2, hr2, S, K, F, hB⟩
    · rw [hp] at hp2; cases hp2
    · rw [hp] at hp2; cases hp2
      have R2 : Rel mj ml := R.q (fun g a b => hF.1 g (by omega) (by omega)) hF.2 (by rw [hF.1 61 (by decide) (by decide)]) (by rw [hF.1 61 (by decide) (by decide)]) R.2.2.2.2
      have hP2 : PUS (pV mj) (zV mj) mj mk := by rw [show pV mj = pV mi by unfold pV; rw [hF.1 17 (by decide) (by decide)], show zV mj = zV mi by unfold zV; rw [hF.1 17 (by decide) (by decide)]]; exact hP
      have hG : ∀ g, g ≠ 62 → mi2 g = mj2 g := fun g hg => F g (by simp only [List.mem_cons, List.not_mem_nil, or_false]; omega)
      have hN := ch_pa R.1 R.2.1 (paS_w hp GdP_0) hdc hdm h910 h5 (fun g a b => hP.1 g (by omega) (by omega)) hT hB
      have h9 := ch_end R2 R2.nums.1.1 R2.nums.2.1.1 hP2 (fun g a _ => hT.far (by omega)) S K (fun g hg => hG g (by omega)) (fun k _ => congrFun (hG 61 (by decide)) k) hN hz
      exact ⟨h9.1, tI_eq hr hr2 rfl⟩
end PA4
