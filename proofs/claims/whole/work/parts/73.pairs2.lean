section PA2
theorem c_n {mi mk mi1 mq mj mi2 : MI} {ml mkl ml1 ml2 : MJ} {r : Int32} {x y : Int64} (R : Rel mi ml) (hP : PUS (pV mi) (zV mi) mi mk) (h1 : ∀ g, 9 ≤ g → (g < 51 ∨ 56 ≤ g) → mi1 g = mk g) (S : SM 0 mi1 mq) (K : Kept mq mj) (h2 : ∀ g, g < 60 ∨ g = 63 ∨ g = 64 → mi2 g = mj g) (h61 : ∀ k, k = 2 ∨ k = 4 ∨ k = 5 → mi2 61 k = mj 61 k)
    (hN : WFV (mi2 62) ∧ DR 1 mi1 (mi2 62)) (hz : mkl 56 0 = 0 ∧ mkl 57 0 = 0) (e : u2 mkl 73 0 x = ml1) (J : ∀ p, p ≠ 61 → ml2 p = ml1 p) (hv : x = y) (hr : r = 0) : Rel mi2 ml2 ∧ mi2 61 5 = r ∧ (r = 0 → ml2 73 0 = y) := by
  have h := ch_end R R.nums.1.1 R.nums.2.1.1 hP h1 S K h2 h61 hN (ml2 := ml2) (by
    rw [J 56 (by decide), J 57 (by decide), ← e, u2_p (show (56 : Nat) ≠ 73 by decide), u2_p (show (57 : Nat) ≠ 73 by decide)]; exact hz)
  exact ⟨h.1, h.2.trans hr.symm, fun _ => by rw [J 73 (by decide), ← e, u2_s, hv]⟩
theorem pus_m {mi mk : MI} {p sz : Nat} (hP : PUS p sz mi mk) : ∀ g, 1 ≤ g → g < 9 → mk g = mi g := fun g _ _ => hP.1 g (by omega) (by omega)
theorem pus_h {mi mk : MI} {p sz : Nat} (hP : PUS p sz mi mk) : ∀ g, 51 ≤ g → mk g = mi g := fun g _ => hP.1 g (by omega) (by omega)
theorem kp_62 {mq mj : MI} {V : Nat → Int32} (K : Kept mq mj) (e : mq 62 = V) : mj 62 = V := (K.1 62 (by decide)).trans e

set_option maxRecDepth 100000 in
theorem b_addCarrier (l : Launch) (hfl : l.stackTraces = false) {mi mi1 : MI} {ml ml1 : MJ} (R : Rel mi ml) (c : Int32) (v : Int32) (C : Int) (L : Int) (hC : c.toInt = C) (hL : v.toInt = L) (r : Int32) (h : (r = 0 ∧ ∃ (ans : Int32) (mk : MJ), (fun r mi9 ml9 => ml = ml9 ∧ ((0 ≤ C ∧ C < 64) ∧ (0 ≤ L ∧ L ≤ 60) ∧ ¬ tkV (mi 62) (nV (mi 62)) (-1) c) ∧ (nV (mi 62)) < 10 ∧ r.toInt = ((nV (mi 62)) : Int) ∧ ∃ mk, PUS (pV mi) (zV mi) mi mk ∧ u2 (u2 (u2 (u2 mk 1 5 ((mi 62) 5 + 1)) 2 (nV (mi 62)) c) 3 (nV (mi 62)) v) 1 10 0 = mi9) ans mi1 mk ∧ u2 mk 73 0 ans.toInt64 = ml1) ∨ ∃ En, (fun En mi9 ml9 => mi = mi9 ∧ ml = ml9 ∧ ((En = xIA ∧ ¬ ((0 ≤ C ∧ C < 64) ∧ (0 ≤ L ∧ L ≤ 60) ∧ ¬ tkV (mi 62) (nV (mi 62)) (-1) c)) ∨ (En = xIS ∧ ((0 ≤ C ∧ C < 64) ∧ (0 ≤ L ∧ L ≤ 60) ∧ ¬ tkV (mi 62) (nV (mi 62)) (-1) c) ∧ ¬ (nV (mi 62)) < 10))) En mi1 ml1 ∧ r = cdA En) : Ct l yX6_addCarrier (.code yX6_addCarrier cX6_addCarrier 3 (some .int)) 3 0 0 [.ref 61, .int c, .int v] (wl mi1 ml1) (QI (fun b mi2 ml2 => Rel mi2 ml2 ∧ mi2 61 5 = r ∧ (r = 0 → ml2 73 0 = b.toInt64))) noX := by
  have f : ∀ g, 60 ≤ g → mi1 g = mi g := by
    rcases h with ⟨_, ans, mkl, ⟨_, _, _, _, mk, hP, rfl⟩, _⟩ | ⟨En, hx, _⟩
    · exact fun g hg => by rw [u2_p (by omega), u2_p (by omega), u2_p (by omega), u2_p (by omega)]; exact pus_h hP g (by omega)
    · exact fun g _ => by rw [← hx.1]
  have e62 := f 62 (by decide)
  have wn := wf_n R.1
  have wm := wf_m R.1
  have wt := wf_t R.1
  obtain ⟨np, nz, nz2, nN, nN2, nT⟩ := R.nums
  have hn1 : (mi1 62 5).toInt = (nV (mi 62) : Int) := by rw [e62]; exact wn.1
  have hm1 : (mi1 62 26).toInt = (mV (mi 62) : Int) := by rw [e62]; exact wm.1
  have ht1 : (mi1 62 32).toInt = (tV (mi 62) : Int) := by rw [e62]; exact wt.1
  have hw1 : WFV (mi1 62) := by rw [e62]; exact R.1
  have hs1 : (mi1 61 2).toInt = (zV mi : Int) := by rw [f 61 (by decide)]; exact nz2
  have hN1 : (mi1 61 4).toInt = (NV mi : Int) := by rw [f 61 (by decide)]; exact nN2
  refine Ct.mono (c_X6_addCarrier l hfl mi1 ml1 _ _ hn1 (by omega) hs1 (by omega) c v C L hC hL) (fun rv w hm => ?_)
  obtain ⟨b9, mi2, ml2, e1, e2, hm⟩ := hm
  refine ⟨b9, mi2, ml2, e1, e2, ?_⟩
  rw [e62] at hm
  rcases h with ⟨hr, ans, mkl, ⟨rfl, ha, hn9, hv, mk, hP, rfl⟩, he⟩ | ⟨En, ⟨rfl, rfl, ha⟩, hr⟩
  · rcases hm.2 with ⟨q, _⟩ | ⟨_, q, _⟩ | ⟨_, _, q, mj, x, K, hx, rfl⟩
    · exact absurd ⟨by omega, ha.2.1, ha.2.2⟩ q
    · omega
    · refine c_n R hP (fun g hg _ => by rw [u2_p (by omega), u2_p (by omega), u2_p (by omega), u2_p (by omega)]) SM_0 K (fun g hg => by rw [u2_p (by omega), u2_p (by omega), u2_p (by omega), u2_p (by omega)]) (fun k _ => by rw [u2_p (show (61 : Nat) ≠ 62 by decide), u2_p (show (61 : Nat) ≠ 62 by decide), u2_p (show (61 : Nat) ≠ 62 by decide), u2_p (show (61 : Nat) ≠ 62 by decide)]) ?_ R.2.2.2.2 he (J_e hm.1) (congrArg Int32.toInt64 (tI_eq hv q rfl)) hr
      refine ch_ac R.1 R.2.1 wn.1 hn9 (by rw [hC]; exact ha.1) (by rw [hL]; exact ha.2.1) (fun j hj z => ha.2.2 ⟨j, hj, by omega, z⟩) (pus_m hP) rfl (by rw [u2_s]; exact hx) ((u2_n (Or.inr (by omega))).trans ((u2_n (Or.inr (by omega))).trans (u2_s _ _ _ _))) ((u2_n (Or.inr (by omega))).trans (u2_s _ _ _ _)) ((u2_n (Or.inr (by omega))).trans ((u2_n (Or.inr (by omega))).trans ((u2_n (Or.inr (by omega))).trans (u2_s _ _ _ _)))) (fun k a b c d => ?_)
      rw [u2_n (Or.inr a), u2_n (Or.inr c), u2_n (Or.inr b), u2_n (Or.inr d)]
      exact congrFun (kp_62 K ((u2_p (show (62 : Nat) ≠ 61 by decide)).trans e62)) k
  · rcases ha with ⟨rfl, ha⟩ | ⟨rfl, ha, hb⟩
    · rcases hm.2 with ⟨_, rfl⟩ | ⟨q, _, _⟩ | ⟨q, _⟩
      · exact q_x R Fr_r R.2.2.2.2 SM_0 (J_e hm.1) (hr.trans cdA_A) (by decide)
      · exact absurd ⟨by omega, q.2.1, q.2.2⟩ ha
      · exact absurd ⟨by omega, q.2.1, q.2.2⟩ ha
    · rcases hm.2 with ⟨q, _⟩ | ⟨_, _, rfl⟩ | ⟨_, q, _⟩
      · exact absurd ⟨by omega, ha.2.1, ha.2.2⟩ q
      · exact q_x R Fr_r R.2.2.2.2 SM_0 (J_e hm.1) (hr.trans cdA_S) (by decide)
      · exact absurd q hb
set_option maxRecDepth 100000 in
theorem b_moveCarrier (l : Launch) (hfl : l.stackTraces = false) {mi mi1 : MI} {ml ml1 : MJ} (R : Rel mi ml) (q : Int32) (B : Int) (hB : q.toInt = B) (c : Int32) (v : Int32) (C : Int) (L : Int) (hC : c.toInt = C) (hL : v.toInt = L) (r : Int32) (h : (r = 0 ∧ ∃ (ans : Int32) (mk : MJ), (fun r mi9 ml9 => ml = ml9 ∧ (0 ≤ B ∧ B < ((nV (mi 62)) : Int)) ∧ ((0 ≤ C ∧ C < 64) ∧ (0 ≤ L ∧ L ≤ 60) ∧ ¬ tkV (mi 62) (nV (mi 62)) B c) ∧ ∃ (b : Nat) (mk : MI), b < (nV (mi 62)) ∧ B = (b : Int) ∧ r = (mi 62) (6 + 2 * b) ∧ PUS (pV mi) (zV mi) mi mk ∧ u2 (u2 (u2 mk 2 b c) 3 b v) 1 10 0 = mi9) ans mi1 mk ∧ u2 mk 73 0 ans.toInt64 = ml1) ∨ ∃ En, (fun En mi9 ml9 => mi = mi9 ∧ ml = ml9 ∧ ((En = xIO ∧ ¬ (0 ≤ B ∧ B < ((nV (mi 62)) : Int))) ∨ (En = xIA ∧ (0 ≤ B ∧ B < ((nV (mi 62)) : Int)) ∧ ¬ ((0 ≤ C ∧ C < 64) ∧ (0 ≤ L ∧ L ≤ 60) ∧ ¬ tkV (mi 62) (nV (mi 62)) B c)))) En mi1 ml1 ∧ r = cdO En) : Ct l yX6_moveCarrier (.code yX6_moveCarrier cX6_moveCarrier 5 (some .int)) 3 0 0 [.ref 61, .int q, .int c, .int v] (wl mi1 ml1) (QI (fun b mi2 ml2 => Rel mi2 ml2 ∧ mi2 61 5 = r ∧ (r = 0 → ml2 73 0 = b.toInt64))) noX := by
  have f : ∀ g, 60 ≤ g → mi1 g = mi g := by
    rcases h with ⟨_, ans, mkl, ⟨_, _, _, b1, mk, _, _, _, hP, rfl⟩, _⟩ | ⟨En, hx, _⟩
    · exact fun g hg => by rw [u2_p (by omega), u2_p (by omega), u2_p (by omega)]; exact pus_h hP g (by omega)
    · exact fun g _ => by rw [← hx.1]
  have e62 := f 62 (by decide)
  have wn := wf_n R.1
  have wm := wf_m R.1
  have wt := wf_t R.1
  obtain ⟨np, nz, nz2, nN, nN2, nT⟩ := R.nums
  have hn1 : (mi1 62 5).toInt = (nV (mi 62) : Int) := by rw [e62]; exact wn.1
  have hm1 : (mi1 62 26).toInt = (mV (mi 62) : Int) := by rw [e62]; exact wm.1
  have ht1 : (mi1 62 32).toInt = (tV (mi 62) : Int) := by rw [e62]; exact wt.1
  have hw1 : WFV (mi1 62) := by rw [e62]; exact R.1
  have hs1 : (mi1 61 2).toInt = (zV mi : Int) := by rw [f 61 (by decide)]; exact nz2
  have hN1 : (mi1 61 4).toInt = (NV mi : Int) := by rw [f 61 (by decide)]; exact nN2
  refine Ct.mono (c_X6_moveCarrier l hfl mi1 ml1 _ _ hn1 (by omega) hs1 (by omega) q c v B C L hB hC hL) (fun rv w hm => ?_)
  obtain ⟨b9, mi2, ml2, e1, e2, hm⟩ := hm
  refine ⟨b9, mi2, ml2, e1, e2, ?_⟩
  rw [e62] at hm
  rcases h with ⟨hr, ans, mkl, ⟨rfl, hb9, ha, b1, mk, hb1, hb2, hv, hP, rfl⟩, he⟩ | ⟨En, ⟨rfl, rfl, ha⟩, hr⟩
  · rcases hm.2 with ⟨q, _⟩ | ⟨_, q, _⟩ | ⟨_, b2, mj, hb3, hb4, q, K, rfl⟩
    · exact absurd (show 0 ≤ B ∧ B ≤ (nV (mi 62) : Int) - 1 by omega) q
    · exact absurd ⟨by omega, ha.2.1, ha.2.2⟩ q
    · obtain rfl : b1 = b2 := by omega
      refine c_n R hP (fun g hg _ => by rw [u2_p (by omega), u2_p (by omega), u2_p (by omega)]) SM_0 K (fun g hg => by rw [u2_p (by omega), u2_p (by omega), u2_p (by omega)]) (fun k _ => by rw [u2_p (show (61 : Nat) ≠ 62 by decide), u2_p (show (61 : Nat) ≠ 62 by decide), u2_p (show (61 : Nat) ≠ 62 by decide)]) ?_ R.2.2.2.2 he (J_e hm.1) (congrArg Int32.toInt64 (by rw [hv, q])) hr
      refine ch_mv R.1 R.2.1 wn.1 wn.2 hb1 (by rw [hC]; exact ha.1) (by rw [hL]; exact ha.2.1) (fun j hj hjb z => ha.2.2 ⟨j, hj, by omega, z⟩) (pus_m hP) rfl ((u2_n (Or.inr (by omega))).trans (u2_s _ _ _ _)) (u2_s _ _ _ _) ((u2_n (Or.inr (by omega))).trans ((u2_n (Or.inr (by omega))).trans (u2_s _ _ _ _))) (fun k a b c => ?_)
      rw [u2_n (Or.inr b), u2_n (Or.inr a), u2_n (Or.inr c)]
      exact congrFun (kp_62 K ((u2_p (show (62 : Nat) ≠ 61 by decide)).trans e62)) k
  · rcases ha with ⟨rfl, ha⟩ | ⟨rfl, ha, hb⟩
    · rcases hm.2 with ⟨_, rfl⟩ | ⟨q, _, _⟩ | ⟨_, b2, mj, hb3, hb4, _⟩
      · exact q_x R Fr_r R.2.2.2.2 SM_0 (J_e hm.1) (hr.trans cdO_O) (by decide)
      · exact absurd (show 0 ≤ B ∧ B < (nV (mi 62) : Int) by omega) ha
      · exact absurd (show 0 ≤ B ∧ B < (nV (mi 62) : Int) by omega) ha
    · rcases hm.2 with ⟨q, _⟩ | ⟨_, _, rfl⟩ | ⟨q, _⟩
      · exact absurd (show 0 ≤ B ∧ B ≤ (nV (mi 62) : Int) - 1 by omega) q
      · exact q_x R Fr_r R.2.2.2.2 SM_0 (J_e hm.1) (hr.trans cdO_A) (by decide)
      · exact absurd ⟨by omega, q.2.1, q.2.2⟩ hb
set_option maxRecDepth 100000 in
theorem b_removeCarrier (l : Launch) (hfl : l.stackTraces = false) {mi mi1 : MI} {ml ml1 : MJ} (R : Rel mi ml) (q : Int32) (B : Int) (hB : q.toInt = B) (r : Int32) (h : (r = 0 ∧ ∃ (ans : Int32) (mk : MJ), (fun r mi9 ml9 => ml = ml9 ∧ ∃ (b : Nat) (mk : MI), b < (nV (mi 62)) ∧ B = (b : Int) ∧ r.toInt = ((nV (mi 62)) : Int) - 1 ∧ PUS (pV mi) (zV mi) mi mk ∧ TOS 1 mk mi9 b (nV (mi 62)) (mV (mi 62)) (((1 : Int32) <<< (q &&& 31)) - 1)) ans mi1 mk ∧ u2 mk 73 0 ans.toInt64 = ml1) ∨ ∃ En, (fun En mi9 ml9 => mi = mi9 ∧ ml = ml9 ∧ En = xIO ∧ ¬ (0 ≤ B ∧ B < ((nV (mi 62)) : Int))) En mi1 ml1 ∧ r = cd1 En) : Ct l yX6_removeCarrier (.code yX6_removeCarrier cX6_removeCarrier 4 (some .int)) 2 0 0 [.ref 61, .int q] (wl mi1 ml1) (QI (fun b mi2 ml2 => Rel mi2 ml2 ∧ mi2 61 5 = r ∧ (r = 0 → ml2 73 0 = b.toInt64))) noX := by
  have f : ∀ g, 60 ≤ g → mi1 g = mi g := by
    rcases h with ⟨_, ans, mkl, ⟨_, b1, mk, _, _, _, hP, hT⟩, _⟩ | ⟨En, hx, _⟩
    · exact fun g hg => (hT.1 g (by simp only [List.mem_cons, List.not_mem_nil, or_false, not_or]; omega)).trans (pus_h hP g (by omega))
    · exact fun g _ => by rw [← hx.1]
  have e62 := f 62 (by decide)
  have wn := wf_n R.1
  have wm := wf_m R.1
  have wt := wf_t R.1
  obtain ⟨np, nz, nz2, nN, nN2, nT⟩ := R.nums
  have hn1 : (mi1 62 5).toInt = (nV (mi 62) : Int) := by rw [e62]; exact wn.1
  have hm1 : (mi1 62 26).toInt = (mV (mi 62) : Int) := by rw [e62]; exact wm.1
  have ht1 : (mi1 62 32).toInt = (tV (mi 62) : Int) := by rw [e62]; exact wt.1
  have hw1 : WFV (mi1 62) := by rw [e62]; exact R.1
  have hs1 : (mi1 61 2).toInt = (zV mi : Int) := by rw [f 61 (by decide)]; exact nz2
  have hN1 : (mi1 61 4).toInt = (NV mi : Int) := by rw [f 61 (by decide)]; exact nN2
  refine Ct.mono (c_X6_removeCarrier l hfl mi1 ml1 _ _ hn1 (by omega) hs1 (by omega) _ hm1 (by omega) q B hB) (fun rv w hm => ?_)
  obtain ⟨b9, mi2, ml2, e1, e2, hm⟩ := hm
  refine ⟨b9, mi2, ml2, e1, e2, ?_⟩
  rw [e62] at hm
  rcases h with ⟨hr, ans, mkl, ⟨rfl, b1, mk, hb1, hb2, hv, hP, hT⟩, he⟩ | ⟨En, ⟨rfl, rfl, rfl, ha⟩, hr⟩
  · rcases hm.2 with ⟨q, _⟩ | ⟨b2, mj, hb3, hb4, q, K, F, v1, v2, v3, v4, v5, v6⟩
    · exact absurd (show 0 ≤ B ∧ B ≤ (nV (mi 62) : Int) - 1 by omega) q
    · obtain rfl : b1 = b2 := by omega
      have hF : ∀ g, g ≠ 62 → mi2 g = mj g := fun g hg => F g (by simp only [List.mem_cons, List.not_mem_nil, or_false]; omega)
      refine c_n R hP (fun g a _ => hT.1 g (by simp only [List.mem_cons, List.not_mem_nil, or_false, not_or]; omega)) SM_0 K (fun g hg => hF g (by omega)) (fun k _ => congrFun (hF 61 (by decide)) k) ?_ R.2.2.2.2 he (J_e hm.1) (congrArg Int32.toInt64 (tI_eq hv q rfl)) hr
      exact ch_rm R.1 R.2.1 wn.1 wn.2 wm.1 hb1 (hB.trans hb2) (pus_m hP) hT v1 v2 v3 v4 v5 v6
  · rcases hm.2 with ⟨_, rfl⟩ | ⟨b2, mj, hb3, hb4, _⟩
    · exact q_x R Fr_r R.2.2.2.2 SM_0 (J_e hm.1) hr (by decide)
    · exact absurd (show 0 ≤ B ∧ B < (nV (mi 62) : Int) by omega) ha
set_option maxRecDepth 100000 in
theorem b_shift (l : Launch) (hfl : l.stackTraces = false) {mi mi1 : MI} {ml ml1 : MJ} (R : Rel mi ml) (a : Int32) (B : Int) (hB : a.toInt = B) (r : Int32) (h : (r = 0 ∧ ∃ (ans : Int32) (mk : MJ), (fun r mi9 ml9 => ml = ml9 ∧ (-64 < B ∧ B < 64) ∧ (∀ j, j < (nV (mi 62)) → (0 ≤ ((mi 62) (6 + 2 * j)).toInt + B ∧ ((mi 62) (6 + 2 * j)).toInt + B < 64)) ∧ r.toInt = ((nV (mi 62)) : Int) ∧ ∃ mk m1, PUS (pV mi) (zV mi) mi mk ∧ SHI 1 a mk m1 (nV (mi 62)) ∧ u2 m1 1 10 0 = mi9) ans mi1 mk ∧ u2 mk 73 0 ans.toInt64 = ml1) ∨ ∃ En, (fun En mi9 ml9 => mi = mi9 ∧ ml = ml9 ∧ ((En = xIA ∧ ¬ (-64 < B ∧ B < 64)) ∨ (En = xIS ∧ (-64 < B ∧ B < 64) ∧ ¬ (∀ j, j < (nV (mi 62)) → (0 ≤ ((mi 62) (6 + 2 * j)).toInt + B ∧ ((mi 62) (6 + 2 * j)).toInt + B < 64))))) En mi1 ml1 ∧ r = cdA En) : Ct l yX6_shift (.code yX6_shift cX6_shift 4 (some .int)) 5 0 0 [.ref 61, .int a] (wl mi1 ml1) (QI (fun b mi2 ml2 => Rel mi2 ml2 ∧ mi2 61 5 = r ∧ (r = 0 → ml2 73 0 = b.toInt64))) noX := by
  have f : ∀ g, 60 ≤ g → mi1 g = mi g := by
    rcases h with ⟨_, ans, mkl, ⟨_, _, _, _, mk, m1, hP, hS, rfl⟩, _⟩ | ⟨En, hx, _⟩
    · exact fun g hg => (u2_p (by omega)).trans ((hS.1 g (by simp only [List.mem_cons, List.not_mem_nil, or_false, not_or]; omega)).trans (pus_h hP g (by omega)))
    · exact fun g _ => by rw [← hx.1]
  have e62 := f 62 (by decide)
  have wn := wf_n R.1
  have wm := wf_m R.1
  have wt := wf_t R.1
  obtain ⟨np, nz, nz2, nN, nN2, nT⟩ := R.nums
  have hn1 : (mi1 62 5).toInt = (nV (mi 62) : Int) := by rw [e62]; exact wn.1
  have hm1 : (mi1 62 26).toInt = (mV (mi 62) : Int) := by rw [e62]; exact wm.1
  have ht1 : (mi1 62 32).toInt = (tV (mi 62) : Int) := by rw [e62]; exact wt.1
  have hw1 : WFV (mi1 62) := by rw [e62]; exact R.1
  have hs1 : (mi1 61 2).toInt = (zV mi : Int) := by rw [f 61 (by decide)]; exact nz2
  have hN1 : (mi1 61 4).toInt = (NV mi : Int) := by rw [f 61 (by decide)]; exact nN2
  refine Ct.mono (c_X6_shift l hfl mi1 ml1 _ hn1 (by omega) hw1 _ hs1 (by omega) a B hB) (fun rv w hm => ?_)
  obtain ⟨b9, mi2, ml2, e1, e2, hm⟩ := hm
  refine ⟨b9, mi2, ml2, e1, e2, ?_⟩
  rw [e62] at hm
  rcases h with ⟨hr, ans, mkl, ⟨rfl, hb, hj, hv, mk, m1, hP, hS, rfl⟩, he⟩ | ⟨En, ⟨rfl, rfl, ha⟩, hr⟩
  · rcases hm.2 with ⟨q, _⟩ | ⟨_, q, _⟩ | ⟨_, _, q, mj, K, F, v1, v2, v3⟩
    · exact absurd (show -63 ≤ B ∧ B ≤ 63 by omega) q
    · exact absurd (fun j h => by have := hj j h; omega) q
    · have hF : ∀ g, g ≠ 62 → mi2 g = mj g := fun g hg => F g (by simp only [List.mem_cons, List.not_mem_nil, or_false]; omega)
      refine c_n R hP (fun g a _ => (u2_p (by omega)).trans (hS.1 g (by simp only [List.mem_cons, List.not_mem_nil, or_false, not_or]; omega))) SM_0 K (fun g hg => hF g (by omega)) (fun k _ => congrFun (hF 61 (by decide)) k) ?_ R.2.2.2.2 he (J_e hm.1) (congrArg Int32.toInt64 (tI_eq hv q rfl)) hr
      exact ch_sh R.1 R.2.1 wn.1 wn.2 hB hb hj (pus_m hP) hS rfl v1 v2 v3
  · rcases ha with ⟨rfl, ha⟩ | ⟨rfl, ha, hb⟩
    · rcases hm.2 with ⟨_, rfl⟩ | ⟨q, _, _⟩ | ⟨q, _⟩
      · exact q_x R Fr_r R.2.2.2.2 SM_0 (J_e hm.1) (hr.trans cdA_A) (by decide)
      · exact absurd (show -64 < B ∧ B < 64 by omega) ha
      · exact absurd (show -64 < B ∧ B < 64 by omega) ha
    · rcases hm.2 with ⟨q, _⟩ | ⟨_, _, rfl⟩ | ⟨_, q, _⟩
      · exact absurd (show -63 ≤ B ∧ B ≤ 63 by omega) q
      · exact q_x R Fr_r R.2.2.2.2 SM_0 (J_e hm.1) (hr.trans cdA_S) (by decide)
      · exact absurd (fun j h => by have := q j h; omega) hb
set_option maxRecDepth 100000 in
theorem b_setProducts (l : Launch) (hfl : l.stackTraces = false) {mi mi1 : MI} {ml ml1 : MJ} (R : Rel mi ml) (a : Int32) (A : Int) (hA : a.toInt = A) (b : Int32) (B : Int) (hB : b.toInt = B) (c : Int32) (C : Int) (hC : c.toInt = C) (r : Int32) (h : (r = 0 ∧ ∃ (ans : Int32) (mk : MJ), (fun r mi9 ml9 => ml = ml9 ∧ ((0 ≤ A ∧ A ≤ 7) ∧ (0 ≤ B ∧ B ≤ 300) ∧ (0 ≤ C ∧ C ≤ 300)) ∧ r = (mi 62) 0 ∧ ∃ mk, PUS (pV mi) (zV mi) mi mk ∧ u2 (u2 (u2 (u2 mk 1 0 a) 1 1 b) 1 2 c) 1 10 0 = mi9) ans mi1 mk ∧ u2 mk 73 0 ans.toInt64 = ml1) ∨ ∃ En, (fun En mi9 ml9 => mi = mi9 ∧ ml = ml9 ∧ En = xIA ∧ ¬ ((0 ≤ A ∧ A ≤ 7) ∧ (0 ≤ B ∧ B ≤ 300) ∧ (0 ≤ C ∧ C ≤ 300))) En mi1 ml1 ∧ r = cd1 En) : Ct l yX6_setProducts (.code yX6_setProducts cX6_setProducts 5 (some .int)) 2 0 0 [.ref 61, .int a, .int b, .int c] (wl mi1 ml1) (QI (fun b mi2 ml2 => Rel mi2 ml2 ∧ mi2 61 5 = r ∧ (r = 0 → ml2 73 0 = b.toInt64))) noX := by
  have f : ∀ g, 60 ≤ g → mi1 g = mi g := by
    rcases h with ⟨_, ans, mkl, ⟨_, _, _, mk, hP, rfl⟩, _⟩ | ⟨En, hx, _⟩
    · exact fun g hg => by rw [u2_p (by omega), u2_p (by omega), u2_p (by omega), u2_p (by omega)]; exact pus_h hP g (by omega)
    · exact fun g _ => by rw [← hx.1]
  have e62 := f 62 (by decide)
  have wn := wf_n R.1
  have wm := wf_m R.1
  have wt := wf_t R.1
  obtain ⟨np, nz, nz2, nN, nN2, nT⟩ := R.nums
  have hn1 : (mi1 62 5).toInt = (nV (mi 62) : Int) := by rw [e62]; exact wn.1
  have hm1 : (mi1 62 26).toInt = (mV (mi 62) : Int) := by rw [e62]; exact wm.1
  have ht1 : (mi1 62 32).toInt = (tV (mi 62) : Int) := by rw [e62]; exact wt.1
  have hw1 : WFV (mi1 62) := by rw [e62]; exact R.1
  have hs1 : (mi1 61 2).toInt = (zV mi : Int) := by rw [f 61 (by decide)]; exact nz2
  have hN1 : (mi1 61 4).toInt = (NV mi : Int) := by rw [f 61 (by decide)]; exact nN2
  refine Ct.mono (c_X6_setProducts l hfl mi1 ml1 _ hs1 (by omega) a b c A B C hA hB hC) (fun rv w hm => ?_)
  obtain ⟨b9, mi2, ml2, e1, e2, hm⟩ := hm
  refine ⟨b9, mi2, ml2, e1, e2, ?_⟩
  rw [e62] at hm
  rcases h with ⟨hr, ans, mkl, ⟨rfl, ha, hv, mk, hP, rfl⟩, he⟩ | ⟨En, ⟨rfl, rfl, rfl, ha⟩, hr⟩
  · rcases hm.2 with ⟨q, _⟩ | ⟨_, q, mj, K, rfl⟩
    · exact absurd ha q
    · refine c_n R hP (fun g hg _ => by rw [u2_p (by omega), u2_p (by omega), u2_p (by omega), u2_p (by omega)]) SM_0 K (fun g hg => by rw [u2_p (by omega), u2_p (by omega), u2_p (by omega), u2_p (by omega)]) (fun k _ => by rw [u2_p (show (61 : Nat) ≠ 62 by decide), u2_p (show (61 : Nat) ≠ 62 by decide), u2_p (show (61 : Nat) ≠ 62 by decide), u2_p (show (61 : Nat) ≠ 62 by decide)]) ?_ R.2.2.2.2 he (J_e hm.1) (congrArg Int32.toInt64 (by rw [hv, q])) hr
      have w1 := R.1.1
      have hjv := (kp_62 K ((u2_p (show (62 : Nat) ≠ 61 by decide)).trans e62))
      have w0 : ∀ k, 3 ≤ k → k ≠ 32 → (u2 (u2 (u2 (u2 mj 62 32 0) 62 0 a) 62 1 b) 62 2 c) 62 k = mi 62 k := fun k a1 a2 => by rw [u2_n (Or.inr (by omega)), u2_n (Or.inr (by omega)), u2_n (Or.inr (by omega)), u2_n (Or.inr a2), hjv]
      have v0 : (u2 (u2 (u2 (u2 mj 62 32 0) 62 0 a) 62 1 b) 62 2 c) 62 0 = a := by rw [u2_n (Or.inr (by decide)), u2_n (Or.inr (by decide)), u2_s]
      have v1 : (u2 (u2 (u2 (u2 mj 62 32 0) 62 0 a) 62 1 b) 62 2 c) 62 1 = b := by rw [u2_n (Or.inr (by decide)), u2_s]
      have v2 : (u2 (u2 (u2 (u2 mj 62 32 0) 62 0 a) 62 1 b) 62 2 c) 62 2 = c := u2_s _ _ _ _
      have d := R.2.1.1
      have em := pus_m hP 1 (by decide) (by decide)
      refine ch_st R.1 R.2.1 (pus_m hP) (fun k hk => ?_) (by rw [u2_n (Or.inr (by decide)), u2_n (Or.inr (by decide)), u2_n (Or.inr (by decide)), u2_n (Or.inr (by decide))]) (by rw [u2_n (Or.inr (by decide)), u2_n (Or.inr (by decide)), u2_n (Or.inr (by decide)), u2_n (Or.inr (by decide))]) (u2_s _ _ _ _) (fun g a1 a2 => by rw [u2_p (by omega), u2_p (by omega), u2_p (by omega), u2_p (by omega)]) (by rw [u2_n (Or.inr (by decide)), u2_n (Or.inr (by decide)), u2_n (Or.inr (by decide)), u2_s]) (fun k a1 a2 => w0 k (by omega) a2) ?_
      · rcases (show k = 0 ∨ k = 1 ∨ k = 2 ∨ k = 3 ∨ k = 4 by omega) with e | e | e | e | e <;> subst e
        · rw [v0, u2_n (Or.inr (by decide)), u2_n (Or.inr (by decide)), u2_n (Or.inr (by decide)), u2_s]
        · rw [v1, u2_n (Or.inr (by decide)), u2_n (Or.inr (by decide)), u2_s]
        · rw [v2, u2_n (Or.inr (by decide)), u2_s]
        · rw [w0 3 (by decide) (by decide), u2_n (Or.inr (by decide)), u2_n (Or.inr (by decide)), u2_n (Or.inr (by decide)), u2_n (Or.inr (by decide)), em]; exact d.2.2.2.1
        · rw [w0 4 (by decide) (by decide), u2_n (Or.inr (by decide)), u2_n (Or.inr (by decide)), u2_n (Or.inr (by decide)), u2_n (Or.inr (by decide)), em]; exact d.2.2.2.2
      · rw [v0, v1, v2, w0 3 (by decide) (by decide), w0 4 (by decide) (by decide), hA, hB, hC]; exact ⟨ha.1, ha.2.1, ha.2.2, w1.2.2.2.1, w1.2.2.2.2⟩
  · rcases hm.2 with ⟨_, rfl⟩ | ⟨q, _⟩
    · exact q_x R Fr_r R.2.2.2.2 SM_0 (J_e hm.1) hr (by decide)
    · exact absurd q ha
set_option maxRecDepth 100000 in
theorem b_setSpacing (l : Launch) (hfl : l.stackTraces = false) {mi mi1 : MI} {ml ml1 : MJ} (R : Rel mi ml) (a : Int32) (A : Int) (hA : a.toInt = A) (b : Int32) (B : Int) (hB : b.toInt = B) (r : Int32) (h : (r = 0 ∧ ∃ (ans : Int32) (mk : MJ), (fun r mi9 ml9 => ml = ml9 ∧ ((0 ≤ A ∧ A ≤ 5) ∧ (1 ≤ B ∧ B ≤ 10)) ∧ r = (mi 62) 3 ∧ ∃ mk, PUS (pV mi) (zV mi) mi mk ∧ u2 (u2 (u2 mk 1 3 a) 1 4 b) 1 10 0 = mi9) ans mi1 mk ∧ u2 mk 73 0 ans.toInt64 = ml1) ∨ ∃ En, (fun En mi9 ml9 => mi = mi9 ∧ ml = ml9 ∧ En = xIA ∧ ¬ ((0 ≤ A ∧ A ≤ 5) ∧ (1 ≤ B ∧ B ≤ 10))) En mi1 ml1 ∧ r = cd1 En) : Ct l yX6_setSpacing (.code yX6_setSpacing cX6_setSpacing 4 (some .int)) 2 0 0 [.ref 61, .int a, .int b] (wl mi1 ml1) (QI (fun b mi2 ml2 => Rel mi2 ml2 ∧ mi2 61 5 = r ∧ (r = 0 → ml2 73 0 = b.toInt64))) noX := by
  have f : ∀ g, 60 ≤ g → mi1 g = mi g := by
    rcases h with ⟨_, ans, mkl, ⟨_, _, _, mk, hP, rfl⟩, _⟩ | ⟨En, hx, _⟩
    · exact fun g hg => by rw [u2_p (by omega), u2_p (by omega), u2_p (by omega)]; exact pus_h hP g (by omega)
    · exact fun g _ => by rw [← hx.1]
  have e62 := f 62 (by decide)
  have wn := wf_n R.1
  have wm := wf_m R.1
  have wt := wf_t R.1
  obtain ⟨np, nz, nz2, nN, nN2, nT⟩ := R.nums
  have hn1 : (mi1 62 5).toInt = (nV (mi 62) : Int) := by rw [e62]; exact wn.1
  have hm1 : (mi1 62 26).toInt = (mV (mi 62) : Int) := by rw [e62]; exact wm.1
  have ht1 : (mi1 62 32).toInt = (tV (mi 62) : Int) := by rw [e62]; exact wt.1
  have hw1 : WFV (mi1 62) := by rw [e62]; exact R.1
  have hs1 : (mi1 61 2).toInt = (zV mi : Int) := by rw [f 61 (by decide)]; exact nz2
  have hN1 : (mi1 61 4).toInt = (NV mi : Int) := by rw [f 61 (by decide)]; exact nN2
  refine Ct.mono (c_X6_setSpacing l hfl mi1 ml1 _ hs1 (by omega) a b A B hA hB) (fun rv w hm => ?_)
  obtain ⟨b9, mi2, ml2, e1, e2, hm⟩ := hm
  refine ⟨b9, mi2, ml2, e1, e2, ?_⟩
  rw [e62] at hm
  rcases h with ⟨hr, ans, mkl, ⟨rfl, ha, hv, mk, hP, rfl⟩, he⟩ | ⟨En, ⟨rfl, rfl, rfl, ha⟩, hr⟩
  · rcases hm.2 with ⟨q, _⟩ | ⟨_, q, mj, K, rfl⟩
    · exact absurd ha q
    · refine c_n R hP (fun g hg _ => by rw [u2_p (by omega), u2_p (by omega), u2_p (by omega)]) SM_0 K (fun g hg => by rw [u2_p (by omega), u2_p (by omega), u2_p (by omega)]) (fun k _ => by rw [u2_p (show (61 : Nat) ≠ 62 by decide), u2_p (show (61 : Nat) ≠ 62 by decide), u2_p (show (61 : Nat) ≠ 62 by decide)]) ?_ R.2.2.2.2 he (J_e hm.1) (congrArg Int32.toInt64 (by rw [hv, q])) hr
      have w1 := R.1.1
      have hjv := (kp_62 K ((u2_p (show (62 : Nat) ≠ 61 by decide)).trans e62))
      have w0 : ∀ k, k ≠ 3 → k ≠ 4 → k ≠ 32 → (u2 (u2 (u2 mj 62 32 0) 62 3 a) 62 4 b) 62 k = mi 62 k := fun k a1 a2 a3 => by rw [u2_n (Or.inr a2), u2_n (Or.inr a1), u2_n (Or.inr a3), hjv]
      have v3 : (u2 (u2 (u2 mj 62 32 0) 62 3 a) 62 4 b) 62 3 = a := by rw [u2_n (Or.inr (by decide)), u2_s]
      have v4 : (u2 (u2 (u2 mj 62 32 0) 62 3 a) 62 4 b) 62 4 = b := u2_s _ _ _ _
      have d := R.2.1.1
      have em := pus_m hP 1 (by decide) (by decide)
      refine ch_st R.1 R.2.1 (pus_m hP) (fun k hk => ?_) (by rw [u2_n (Or.inr (by decide)), u2_n (Or.inr (by decide)), u2_n (Or.inr (by decide))]) (by rw [u2_n (Or.inr (by decide)), u2_n (Or.inr (by decide)), u2_n (Or.inr (by decide))]) (u2_s _ _ _ _) (fun g a1 a2 => by rw [u2_p (by omega), u2_p (by omega), u2_p (by omega)]) (by rw [u2_n (Or.inr (by decide)), u2_n (Or.inr (by decide)), u2_s]) (fun k a1 a2 => w0 k (by omega) (by omega) a2) ?_
      · rcases (show k = 0 ∨ k = 1 ∨ k = 2 ∨ k = 3 ∨ k = 4 by omega) with e | e | e | e | e <;> subst e
        · rw [w0 0 (by decide) (by decide) (by decide), u2_n (Or.inr (by decide)), u2_n (Or.inr (by decide)), u2_n (Or.inr (by decide)), em]; exact d.1
        · rw [w0 1 (by decide) (by decide) (by decide), u2_n (Or.inr (by decide)), u2_n (Or.inr (by decide)), u2_n (Or.inr (by decide)), em]; exact d.2.1
        · rw [w0 2 (by decide) (by decide) (by decide), u2_n (Or.inr (by decide)), u2_n (Or.inr (by decide)), u2_n (Or.inr (by decide)), em]; exact d.2.2.1
        · rw [v3, u2_n (Or.inr (by decide)), u2_n (Or.inr (by decide)), u2_s]
        · rw [v4, u2_n (Or.inr (by decide)), u2_s]
      · rw [v3, v4, w0 0 (by decide) (by decide) (by decide), w0 1 (by decide) (by decide) (by decide), w0 2 (by decide) (by decide) (by decide), hA, hB]; exact ⟨w1.1, w1.2.1, w1.2.2.1, ha.1, ha.2⟩
  · rcases hm.2 with ⟨_, rfl⟩ | ⟨q, _⟩
    · exact q_x R Fr_r R.2.2.2.2 SM_0 (J_e hm.1) hr (by decide)
    · exact absurd q ha
end PA2
