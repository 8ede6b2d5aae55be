section PA3
set_option maxRecDepth 100000 in
theorem b_addMixer (l : Launch) (hfl : l.stackTraces = false) {mi mi1 : MI} {ml ml1 : MJ} (R : Rel mi ml) (a : Int32) (A : Int) (hA : a.toInt = A) (r : Int32) (h : (r = 0 ∧ ∃ (ans : Int32) (mk : MJ), (fun r mi9 ml9 => ml = ml9 ∧ (0 ≤ A ∧ A ≤ ((2 ^ (nV (mi 62)) - 1 : Nat) : Int)) ∧ (mV (mi 62)) < 5 ∧ r.toInt = ((mV (mi 62)) : Int) ∧ ∃ mk, PUS (pV mi) (zV mi) mi mk ∧ u2 (u2 (u2 mk 1 8 ((mi 62) 26 + 1)) 4 (mV (mi 62)) a) 1 10 0 = mi9) ans mi1 mk ∧ u2 mk 73 0 ans.toInt64 = ml1) ∨ ∃ En, (fun En mi9 ml9 => mi = mi9 ∧ ml = ml9 ∧ ((En = xIA ∧ ¬ (0 ≤ A ∧ A ≤ ((2 ^ (nV (mi 62)) - 1 : Nat) : Int))) ∨ (En = xIS ∧ (0 ≤ A ∧ A ≤ ((2 ^ (nV (mi 62)) - 1 : Nat) : Int)) ∧ ¬ (mV (mi 62)) < 5))) En mi1 ml1 ∧ r = cdA En) : Ct l yX6_addMixer (.code yX6_addMixer cX6_addMixer 2 (some .int)) 2 0 0 [.ref 61, .int a] (wl mi1 ml1) (QI (fun b mi2 ml2 => Rel mi2 ml2 ∧ mi2 61 5 = r ∧ (r = 0 → ml2 73 0 = b.toInt64))) noX := by
  have f : ∀ g, 60 ≤ g → mi1 g = mi g := by
    rcases h with ⟨_, ans, mkl, ⟨_, _, _, _, mk, hP, rfl⟩, _⟩ | ⟨En, hx, _⟩
    · exact fun g hg => by rw [u2_p (by omega), u2_p (by omega), u2_p (by omega)]; exact pus_h hP g (by omega)
    · exact fun g _ => by rw [← hx.1]
  have e62 := f 62 (by decide)
  have wn := wf_n R.1
  have wm := wf_m R.1
  have wt := wf_t R.1
  obtain ⟨np, nz, nz2, nN, nN2, nT⟩ := R.nums
  have hn1 : (mi1 62 5).toInt = (nV (mi 62) : Int) := by rw [e62]; exact wn.1
  have hm1 : (mi1 62 26).toInt = (mV (mi 62) : Int) := by rw [e62]; exact wm.1
  have ht1 : (mi1 62 32).toInt = (tV (mi 62) : Int) := by rw [e62]; exact wt.1
  have hw1 : WFV (mi1 62) := by rw [e62]; exact R.1
  have hs1 : (mi1 61 2).toInt = (zV mi : Int) := by rw [f 61 (by decide)]; exact nz2
  have hN1 : (mi1 61 4).toInt = (NV mi : Int) := by rw [f 61 (by decide)]; exact nN2
  refine Ct.mono (c_X6_addMixer l hfl mi1 ml1 _ _ hn1 (by omega) hs1 (by omega) _ hm1 (by omega) a A hA) (fun rv w hm => ?_)
  obtain ⟨b9, mi2, ml2, e1, e2, hm⟩ := hm
  refine ⟨b9, mi2, ml2, e1, e2, ?_⟩
  try rw [e62] at hm
  rcases h with ⟨hr, ans, mkl, ⟨rfl, ha, hm9, hv, mk, hP, rfl⟩, he⟩ | ⟨En, ⟨rfl, rfl, ha⟩, hr⟩
  · rcases hm.2 with ⟨q, _⟩ | ⟨_, q, _⟩ | ⟨_, _, q, mj, x, K, hx, rfl⟩
    · exact absurd ha q
    · omega
    · refine c_n R hP (fun g hg _ => by rw [u2_p (by omega), u2_p (by omega), u2_p (by omega)]) SM_0 K (fun g hg => by rw [u2_p (by omega), u2_p (by omega), u2_p (by omega)]) (fun k _ => by rw [u2_p (show (61 : Nat) ≠ 62 by decide), u2_p (show (61 : Nat) ≠ 62 by decide), u2_p (show (61 : Nat) ≠ 62 by decide)]) ?_ R.2.2.2.2 he (J_e hm.1) (congrArg Int32.toInt64 (tI_eq hv q rfl)) hr
      have hjv := (kp_62 K ((u2_p (show (62 : Nat) ≠ 61 by decide)).trans e62))
      have d := R.2.1
      have em := pus_m hP
      have b5 := R.1.2.1.1
      have q1 : ∀ k, k < 26 → (u2 (u2 (u2 mj 62 32 0) 62 (27 + mV (mi 62)) a) 62 26 x) 62 k = mi 62 k := fun k hk => by rw [u2_n (Or.inr (by omega)), u2_n (Or.inr (by omega)), u2_n (Or.inr (by omega)), hjv]
      have q2 : (u2 (u2 (u2 mj 62 32 0) 62 (27 + mV (mi 62)) a) 62 26 x) 62 26 = x := u2_s _ _ _ _
      have q3 : ∀ k, k < mV (mi 62) → (u2 (u2 (u2 mj 62 32 0) 62 (27 + mV (mi 62)) a) 62 26 x) 62 (27 + k) = mi 62 (27 + k) := fun k hk => by rw [u2_n (Or.inr (by omega)), u2_n (Or.inr (by omega)), u2_n (Or.inr (by omega)), hjv]
      have q4 : (u2 (u2 (u2 mj 62 32 0) 62 (27 + mV (mi 62)) a) 62 26 x) 62 (27 + mV (mi 62)) = a := by rw [u2_n (Or.inr (by omega)), u2_s]
      have q5 : (u2 (u2 (u2 mj 62 32 0) 62 (27 + mV (mi 62)) a) 62 26 x) 62 32 = 0 := by rw [u2_n (Or.inr (by omega)), u2_n (Or.inr (by omega)), u2_s]
      have x26 : mi 62 26 + 1 = x := tI_eq (tI_add wm.1 (show (1 : Int32).toInt = 1 from rfl) (by omega)) hx rfl
      refine ch_mx (m' := mV (mi 62) + 1) R.1 R.2.1 em (fun k a1 a2 => by rw [u2_n (Or.inr a2), u2_n (Or.inl (by decide)), u2_n (Or.inr a1)]) (by rw [q2, u2_n (Or.inr (by decide)), u2_n (Or.inl (by decide)), u2_s, x26]) (u2_s _ _ _ _) (by rw [u2_p (by decide), u2_p (by decide), u2_p (by decide)]) (by rw [u2_p (by decide), u2_p (by decide), u2_p (by decide)]) (fun k hk => ?_) (by rw [q2]; omega) (by omega) q5 q1 (fun k hk => ?_)
      · rcases Nat.lt_or_ge k (mV (mi 62)) with z | z
        · rw [q3 k z, u2_p (show (4 : Nat) ≠ 1 by decide), u2_n (Or.inr (by omega)), u2_p (show (4 : Nat) ≠ 1 by decide), em 4 (by decide) (by decide)]; exact d.2.2.2.1 k (by omega)
        · rw [show k = mV (mi 62) by omega, q4, u2_p (show (4 : Nat) ≠ 1 by decide), u2_s]
      · rcases Nat.lt_or_ge k (mV (mi 62)) with z | z
        · rw [q3 k z]; exact R.1.2.2.2.2.1 k (by omega)
        · rw [show k = mV (mi 62) by omega, q4, hA]; have hp2 := Nat.two_pow_pos (nV (mi 62)); exact ⟨ha.1, by have h9 := ha.2; show A < ((2 ^ nV (mi 62) : Nat) : Int); omega⟩
  · rcases ha with ⟨rfl, ha⟩ | ⟨rfl, ha, hb⟩
    · rcases hm.2 with ⟨_, rfl⟩ | ⟨q, _, _⟩ | ⟨q, _⟩
      · exact q_x R Fr_r R.2.2.2.2 SM_0 (J_e hm.1) (hr.trans cdA_A) (by decide)
      · exact absurd q ha
      · exact absurd q ha
    · rcases hm.2 with ⟨q, _⟩ | ⟨_, _, rfl⟩ | ⟨_, q, _⟩
      · exact absurd ha q
      · exact q_x R Fr_r R.2.2.2.2 SM_0 (J_e hm.1) (hr.trans cdA_S) (by decide)
      · exact absurd q hb
set_option maxRecDepth 100000 in
theorem b_setMember (l : Launch) (hfl : l.stackTraces = false) {mi mi1 : MI} {ml ml1 : MJ} (R : Rel mi ml) (a : Int32) (A : Int) (hA : a.toInt = A) (c : Int32) (C : Int) (hC : c.toInt = C) (xb : Int32) (P : Prop) (hxb : xb = bI P) (r : Int32) (h : (r = 0 ∧ ∃ (ans : Int32) (mk : MJ), (fun r mi9 ml9 => ml = ml9 ∧ ∃ (b d : Nat) (mk : MI), b < (mV (mi 62)) ∧ d < (nV (mi 62)) ∧ A = (b : Int) ∧ C = (d : Int) ∧ PUS (pV mi) (zV mi) mi mk ∧ u2 (u2 mk 4 b r) 1 10 0 = mi9 ∧ ((P ∧ r = (mi 62) (27 + b) ||| ((1 : Int32) <<< (c &&& 31))) ∨ (¬ P ∧ r = (mi 62) (27 + b) &&& (((1 : Int32) <<< (c &&& 31)) ^^^ (-1))))) ans mi1 mk ∧ u2 mk 73 0 ans.toInt64 = ml1) ∨ ∃ En, (fun En mi9 ml9 => mi = mi9 ∧ ml = ml9 ∧ En = xIO ∧ ¬ ((0 ≤ A ∧ A < ((mV (mi 62)) : Int)) ∧ (0 ≤ C ∧ C < ((nV (mi 62)) : Int)))) En mi1 ml1 ∧ r = cd1 En) : Ct l yX6_setMember (.code yX6_setMember cX6_setMember 5 (some .int)) 2 0 0 [.ref 61, .int a, .int c, .int xb] (wl mi1 ml1) (QI (fun b mi2 ml2 => Rel mi2 ml2 ∧ mi2 61 5 = r ∧ (r = 0 → ml2 73 0 = b.toInt64))) noX := by
  subst hxb
  have f : ∀ g, 60 ≤ g → mi1 g = mi g := by
    rcases h with ⟨_, ans, mkl, ⟨_, b1, d1, mk, _, _, _, _, hP, rfl, _⟩, _⟩ | ⟨En, hx, _⟩
    · exact fun g hg => by rw [u2_p (by omega), u2_p (by omega)]; exact pus_h hP g (by omega)
    · exact fun g _ => by rw [← hx.1]
  have e62 := f 62 (by decide)
  have wn := wf_n R.1
  have wm := wf_m R.1
  have wt := wf_t R.1
  obtain ⟨np, nz, nz2, nN, nN2, nT⟩ := R.nums
  have hn1 : (mi1 62 5).toInt = (nV (mi 62) : Int) := by rw [e62]; exact wn.1
  have hm1 : (mi1 62 26).toInt = (mV (mi 62) : Int) := by rw [e62]; exact wm.1
  have ht1 : (mi1 62 32).toInt = (tV (mi 62) : Int) := by rw [e62]; exact wt.1
  have hw1 : WFV (mi1 62) := by rw [e62]; exact R.1
  have hs1 : (mi1 61 2).toInt = (zV mi : Int) := by rw [f 61 (by decide)]; exact nz2
  have hN1 : (mi1 61 4).toInt = (NV mi : Int) := by rw [f 61 (by decide)]; exact nN2
  refine Ct.mono (c_X6_setMember l hfl mi1 ml1 _ _ hn1 (by omega) hs1 (by omega) _ hm1 (by omega) a c A C hA hC P) (fun rv w hm => ?_)
  obtain ⟨b9, mi2, ml2, e1, e2, hm⟩ := hm
  refine ⟨b9, mi2, ml2, e1, e2, ?_⟩
  try rw [e62] at hm
  rcases h with ⟨hr, ans, mkl, ⟨rfl, b1, d1, mk, hb1, hd1, hb2, hd2, hP, rfl, hv⟩, he⟩ | ⟨En, ⟨rfl, rfl, rfl, ha⟩, hr⟩
  · rcases hm.2 with ⟨q, _⟩ | ⟨b2, d2, mj, hb3, hd3, hb4, hd4, K, rfl, q⟩
    · exact absurd (show (0 ≤ A ∧ A ≤ (mV (mi 62) : Int) - 1) ∧ (0 ≤ C ∧ C ≤ (nV (mi 62) : Int) - 1) by omega) q
    · obtain rfl : b1 = b2 := by omega
      have hbm := R.1.2.2.2.2.1 b1 (by omega)
      have e5 : (mi 62 5).toInt.toNat = nV (mi 62) := rfl
      rw [e5] at hbm
      obtain ⟨s, hs⟩ : ∃ s : Nat, (mi 62 (27 + b1)).toInt = (s : Int) := ⟨(mi 62 (27 + b1)).toInt.toNat, by omega⟩
      have hsl : s < 2 ^ nV (mi 62) := by omega
      have hxc : c.toInt = (d1 : Int) := hC.trans hd2
      have hab : ans = b9 ∧ 0 ≤ b9.toInt ∧ b9.toInt < ((2 ^ nV (mi 62) : Nat) : Int) := by
        rcases hv with ⟨a1, a2⟩ | ⟨a1, a2⟩
        · rcases q with ⟨_, q⟩ | ⟨z, _⟩
          · have e9 : b9 = mi 62 (27 + b1) ||| ((1 : Int32) <<< (c &&& 31)) := by rw [q, sm_eq]
            rw [a2, e9]; exact ⟨rfl, sm_y hs hsl wn.2 hxc hd1⟩
          · exact absurd a1 z
        · rcases q with ⟨z, _⟩ | ⟨_, q⟩
          · exact absurd z a1
          · rw [a2, q]; exact ⟨rfl, sm_n hs hsl wn.2 hxc hd1⟩
      refine c_n R hP (fun g hg _ => by rw [u2_p (by omega), u2_p (by omega)]) SM_0 K (fun g hg => by rw [u2_p (by omega), u2_p (by omega)]) (fun k _ => by rw [u2_p (show (61 : Nat) ≠ 62 by decide), u2_p (show (61 : Nat) ≠ 62 by decide)]) ?_ R.2.2.2.2 he (J_e hm.1) (congrArg Int32.toInt64 hab.1) hr
      have hjv := (kp_62 K ((u2_p (show (62 : Nat) ≠ 61 by decide)).trans e62))
      have d := R.2.1
      have em := pus_m hP
      have q1 : ∀ k, k < 27 → (u2 (u2 mj 62 32 0) 62 (27 + b1) b9) 62 k = mi 62 k := fun k hk => by rw [u2_n (Or.inr (by omega)), u2_n (Or.inr (by omega)), hjv]
      have q3 : ∀ k, k < mV (mi 62) → (u2 (u2 mj 62 32 0) 62 (27 + b1) b9) 62 (27 + k) = if k = b1 then b9 else mi 62 (27 + k) := fun k hk => by
        split
        · next z => rw [z, u2_s]
        · next z => rw [u2_n (Or.inr (by omega)), u2_n (Or.inr (by omega)), hjv]
      refine ch_mx (m' := mV (mi 62)) R.1 R.2.1 em (fun k a1 a2 => by rw [u2_n (Or.inr a2), u2_n (Or.inl (by decide))]) (by rw [q1 26 (by decide), u2_n (Or.inr (by decide)), u2_n (Or.inl (by decide)), em 1 (by decide) (by decide)]; exact d.2.1.2.1) (u2_s _ _ _ _) (by rw [u2_p (by decide), u2_p (by decide)]) (by rw [u2_p (by decide), u2_p (by decide)]) (fun k hk => ?_) (by rw [q1 26 (by decide)]; exact wm.1) wm.2 (by rw [u2_n (Or.inr (by omega)), u2_s]) (fun k hk => q1 k (by omega)) (fun k hk => ?_)
      · rw [q3 k hk, u2_p (show (4 : Nat) ≠ 1 by decide)]
        split
        · next z => rw [z, u2_s, hab.1]
        · next z => rw [u2_n (Or.inr z), em 4 (by decide) (by decide)]; exact d.2.2.2.1 k (by omega)
      · rw [q3 k hk]
        split
        · exact hab.2
        · exact R.1.2.2.2.2.1 k (by omega)
  · rcases hm.2 with ⟨_, rfl⟩ | ⟨b2, d2, mj, hb3, hd3, hb4, hd4, _⟩
    · exact q_x R Fr_r R.2.2.2.2 SM_0 (J_e hm.1) hr (by decide)
    · exact absurd (show (0 ≤ A ∧ A < (mV (mi 62) : Int)) ∧ (0 ≤ C ∧ C < (nV (mi 62) : Int)) by omega) ha
theorem atv_f {V W : Nat → Int32} {t : Nat} {a c h x : Int32} (ht : (V 32).toInt = (t : Int)) (hlt : t < 16) (hx : x.toInt = (t : Int) + 1) (e : ∀ k, W k = if k = 32 then x else if k = 35 + 3 * t then h else if k = 34 + 3 * t then c else if k = 33 + 3 * t then a else V k) : W = ATV V t a c h := by
  have x32 : V 32 + 1 = x := tI_eq (tI_add ht (show (1 : Int32).toInt = 1 from rfl) (by omega)) hx rfl
  funext k
  rw [e k]
  unfold ATV
  by_cases h1 : k = 32
  · rw [if_pos h1, if_neg (by omega), if_neg (by omega), if_neg (by omega), if_pos h1, x32]
  · rw [if_neg h1]
    by_cases h2 : k = 35 + 3 * t
    · rw [if_pos h2, if_neg (by omega), if_neg (by omega), if_pos h2]
    · rw [if_neg h2]
      by_cases h3 : k = 34 + 3 * t
      · rw [if_pos h3, if_neg (by omega), if_pos h3]
      · rw [if_neg h3]
        by_cases h4 : k = 33 + 3 * t
        · rw [if_pos h4, if_pos h4]
        · rw [if_neg h4, if_neg h4, if_neg h3, if_neg h2, if_neg h1]
theorem u2_if {f : MI} {p k k' : Nat} {v : Int32} : u2 f p k v p k' = if k' = k then v else f p k' := by
  split
  · next h => rw [h, u2_s]
  · next h => exact u2_n (Or.inr h)
set_option maxRecDepth 100000 in
theorem b_addTest (l : Launch) (hfl : l.stackTraces = false) {mi mi1 : MI} {ml ml1 : MJ} (R : Rel mi ml) (a : Int32) (A : Int) (hA : a.toInt = A) (c : Int32) (C : Int) (hC : c.toInt = C) (xb : Int32) (P : Prop) (hxb : xb = bI P) (r : Int32) (h : (r = 0 ∧ ∃ (ans : Int32) (mk : MJ), (fun r mi9 ml9 => ((0 ≤ A ∧ A ≤ ((2 ^ (nV (mi 62)) - 1 : Nat) : Int)) ∧ (0 ≤ C ∧ C < 64)) ∧ (tV (mi 62)) < 16 ∧ FL60 ml ml9 ∧ WFV (ATV (mi 62) (tV (mi 62)) a c (bI P)) ∧ DR 1 mi9 (ATV (mi 62) (tV (mi 62)) a c (bI P)) ∧ (∃ mk, PUS (pV mi) (zV mi) mi mk ∧ Fr [1, 5, 6, 7, 8, 51, 52] mk mi9) ∧ r.toInt = (((fitL (ATV (mi 62) (tV (mi 62)) a c (bI P)) (nV (mi 62)) (mV (mi 62)) ((tV (mi 62)) + 1) (2 ^ (mV (mi 62)))).length : Nat) : Int)) ans mi1 mk ∧ u2 mk 73 0 ans.toInt64 = ml1) ∨ ∃ En, (fun En mi9 ml9 => mi = mi9 ∧ ml = ml9 ∧ ((En = xIA ∧ ¬ ((0 ≤ A ∧ A ≤ ((2 ^ (nV (mi 62)) - 1 : Nat) : Int)) ∧ (0 ≤ C ∧ C < 64))) ∨ (En = xIS ∧ ((0 ≤ A ∧ A ≤ ((2 ^ (nV (mi 62)) - 1 : Nat) : Int)) ∧ (0 ≤ C ∧ C < 64)) ∧ ¬ (tV (mi 62)) < 16))) En mi1 ml1 ∧ r = cdA En) : Ct l yX6_addTest (.code yX6_addTest cX6_addTest 5 (some .int)) 8 0 0 [.ref 61, .int a, .int c, .int xb] (wl mi1 ml1) (QI (fun b mi2 ml2 => Rel mi2 ml2 ∧ mi2 61 5 = r ∧ (r = 0 → ml2 73 0 = b.toInt64))) noX := by
  subst hxb
  have f : ∀ g, 60 ≤ g → mi1 g = mi g := by
    rcases h with ⟨_, ans, mkl, ⟨_, _, _, _, _, ⟨mk, hP, hF⟩, _⟩, _⟩ | ⟨En, hx, _⟩
    · exact fun g hg => (hF g (by simp only [List.mem_cons, List.not_mem_nil, or_false, not_or]; omega)).trans (pus_h hP g (by omega))
    · exact fun g _ => by rw [← hx.1]
  have e62 := f 62 (by decide)
  have wn := wf_n R.1
  have wm := wf_m R.1
  have wt := wf_t R.1
  obtain ⟨np, nz, nz2, nN, nN2, nT⟩ := R.nums
  have hn1 : (mi1 62 5).toInt = (nV (mi 62) : Int) := by rw [e62]; exact wn.1
  have hm1 : (mi1 62 26).toInt = (mV (mi 62) : Int) := by rw [e62]; exact wm.1
  have ht1 : (mi1 62 32).toInt = (tV (mi 62) : Int) := by rw [e62]; exact wt.1
  have hw1 : WFV (mi1 62) := by rw [e62]; exact R.1
  have hs1 : (mi1 61 2).toInt = (zV mi : Int) := by rw [f 61 (by decide)]; exact nz2
  have hN1 : (mi1 61 4).toInt = (NV mi : Int) := by rw [f 61 (by decide)]; exact nN2
  refine Ct.mono (c_X6_addTest l hfl mi1 ml1 _ hn1 (by omega) hw1 _ hm1 (by omega) _ ht1 _ hs1 (by omega) a c A C hA hC P) (fun rv w hm => ?_)
  obtain ⟨b9, mi2, ml2, e1, e2, hm⟩ := hm
  refine ⟨b9, mi2, ml2, e1, e2, ?_⟩
  try rw [e62] at hm
  rcases h with ⟨hr, ans, mkl, ⟨ha, ht9, hL, hW9, hD9, ⟨mk, hP, hF⟩, hv⟩, he⟩ | ⟨En, ⟨rfl, rfl, ha⟩, hr⟩
  · rcases hm.2 with ⟨q, _⟩ | ⟨_, q, _⟩ | ⟨_, _, mj, mq, x, h9, K, hx, rfl, rfl, _, Dg, q⟩
    · exact absurd ⟨ha.1, by omega⟩ q
    · omega
    · have hjv : mj 62 = mi 62 := (kp_62 K ((u2_p (show (62 : Nat) ≠ 61 by decide)).trans e62))
      have hV : (u2 (u2 (u2 (u2 mj 62 (33 + 3 * tV (mi 62)) a) 62 (34 + 3 * tV (mi 62)) c) 62 (35 + 3 * tV (mi 62)) (bI P)) 62 32 x) 62 = (ATV (mi 62) (tV (mi 62)) a c (bI P)) := atv_f wt.1 ht9 hx (fun k => by rw [u2_if, u2_if, u2_if, u2_if, hjv])
      rw [hV] at q
      obtain ⟨D1, D2, _, _⟩ := Dg
      have hd : ∀ g, (g < 61 ∨ g = 62 ∨ g = 63 ∨ g = 64) → mi2 g = (u2 (u2 (u2 (u2 mj 62 (33 + 3 * tV (mi 62)) a) 62 (34 + 3 * tV (mi 62)) c) 62 (35 + 3 * tV (mi 62)) (bI P)) 62 32 x) g := fun g hg => D1 g (by simp only [List.mem_cons, List.not_mem_nil, or_false, not_or]; omega)
      have h62 : mi2 62 = (ATV (mi 62) (tV (mi 62)) a c (bI P)) := (hd 62 (by decide)).trans hV
      refine c_n R hP (fun g a1 a2 => hF g (by simp only [List.mem_cons, List.not_mem_nil, or_false, not_or]; omega)) SM_0 K (fun g hg => by rw [hd g (by omega), u2_p (by omega), u2_p (by omega), u2_p (by omega), u2_p (by omega)]) (fun k hk => ?_) (by rw [h62]; exact ⟨hW9, hD9⟩) (z60 hL R.2.2.2.2) he (J_e hm.1) (congrArg Int32.toInt64 (tI_eq hv q rfl)) hr
      rw [D2 k (by omega) (by omega), u2_p (show (61 : Nat) ≠ 62 by decide), u2_p (show (61 : Nat) ≠ 62 by decide), u2_p (show (61 : Nat) ≠ 62 by decide), u2_p (show (61 : Nat) ≠ 62 by decide)]
  · rcases ha with ⟨rfl, ha⟩ | ⟨rfl, ha, hb⟩
    · rcases hm.2 with ⟨_, rfl⟩ | ⟨q, _, _⟩ | ⟨q, _⟩
      · exact q_x R Fr_r R.2.2.2.2 SM_0 (J_e hm.1) (hr.trans cdA_A) (by decide)
      · exact absurd ⟨q.1, by omega⟩ ha
      · exact absurd ⟨q.1, by omega⟩ ha
    · rcases hm.2 with ⟨q, _⟩ | ⟨_, _, rfl⟩ | ⟨_, q, _⟩
      · exact absurd ⟨ha.1, by omega⟩ q
      · exact q_x R Fr_r R.2.2.2.2 SM_0 (J_e hm.1) (hr.trans cdA_S) (by decide)
      · exact absurd q hb
set_option maxRecDepth 100000 in
theorem b_putIn (l : Launch) (hfl : l.stackTraces = false) {mi mi1 : MI} {ml ml1 : MJ} (R : Rel mi ml) (a : Int32) (A : Int) (hA : a.toInt = A) (r : Int32) (h : (r = 0 ∧ ∃ (ans : Int32) (mk : MJ), (fun r mi9 ml9 => FLc ml ml9 ∧ (ml9 56 0 = 0 ∧ ml9 57 0 = 0) ∧ (0 ≤ A ∧ A ≤ 60) ∧ (nV (mi 62)) < 10 ∧ ((r = -1 ∧ (∀ c, c < 64 → ¬ opP (mi 62) (nV (mi 62)) A c) ∧ Fr [53, 54, 55] mi mi9) ∨ (∃ (z : Nat) (mj mk : MI), z < 64 ∧ opP (mi 62) (nV (mi 62)) A z ∧ (∀ c, c < z → ¬ opP (mi 62) (nV (mi 62)) A c) ∧ r.toInt = (z : Int) ∧ Fr [53, 54, 55] mi mj ∧ PUS (pV mi) (zV mi) mj mk ∧ u2 (u2 (u2 (u2 mk 1 5 ((mi 62) 5 + 1)) 2 (nV (mi 62)) r) 3 (nV (mi 62)) a) 1 10 0 = mi9))) ans mi1 mk ∧ u2 mk 73 0 ans.toInt64 = ml1) ∨ ∃ En, (fun En mi9 ml9 => mi = mi9 ∧ ml = ml9 ∧ ((En = xIA ∧ ¬ (0 ≤ A ∧ A ≤ 60)) ∨ (En = xIS ∧ (0 ≤ A ∧ A ≤ 60) ∧ ¬ (nV (mi 62)) < 10))) En mi1 ml1 ∧ r = cdA En) : Ct l yX6_putIn (.code yX6_putIn cX6_putIn 5 (some .int)) 5 0 0 [.ref 61, .int a] (wl mi1 ml1) (QI (fun b mi2 ml2 => Rel mi2 ml2 ∧ mi2 61 5 = r ∧ (r = 0 → ml2 73 0 = b.toInt64))) noX := by
  have f : ∀ g, 60 ≤ g → mi1 g = mi g := by
    rcases h with ⟨_, ans, mkl, ⟨_, _, _, _, hv⟩, _⟩ | ⟨En, hx, _⟩
    · rcases hv with ⟨_, _, hF⟩ | ⟨z1, ms, mk, _, _, _, _, hF, hP, rfl⟩
      · exact g60 (f53 hF)
      · exact fun g hg => by rw [u2_p (by omega), u2_p (by omega), u2_p (by omega), u2_p (by omega), pus_h hP g (by omega)]; exact g60 (f53 hF) g hg
    · exact fun g _ => by rw [← hx.1]
  have e62 := f 62 (by decide)
  have wn := wf_n R.1
  have wm := wf_m R.1
  have wt := wf_t R.1
  obtain ⟨np, nz, nz2, nN, nN2, nT⟩ := R.nums
  have hn1 : (mi1 62 5).toInt = (nV (mi 62) : Int) := by rw [e62]; exact wn.1
  have hm1 : (mi1 62 26).toInt = (mV (mi 62) : Int) := by rw [e62]; exact wm.1
  have ht1 : (mi1 62 32).toInt = (tV (mi 62) : Int) := by rw [e62]; exact wt.1
  have hw1 : WFV (mi1 62) := by rw [e62]; exact R.1
  have hs1 : (mi1 61 2).toInt = (zV mi : Int) := by rw [f 61 (by decide)]; exact nz2
  have hN1 : (mi1 61 4).toInt = (NV mi : Int) := by rw [f 61 (by decide)]; exact nN2
  refine Ct.mono (c_X6_putIn l hfl mi1 ml1 _ hn1 (by omega) hw1 _ hs1 (by omega) a A hA) (fun rv w hm => ?_)
  obtain ⟨b9, mi2, ml2, e1, e2, hm⟩ := hm
  refine ⟨b9, mi2, ml2, e1, e2, ?_⟩
  try rw [e62] at hm
  rcases h with ⟨hr, ans, mkl, ⟨hL, hz9, ha, hn9, hv⟩, he⟩ | ⟨En, ⟨rfl, rfl, ha⟩, hr⟩
  · rcases hm.2 with ⟨q, _⟩ | ⟨_, q, _⟩ | ⟨_, _, hno, q, S⟩ | ⟨_, _, z2, mq, mj, x, hz2, ho2, hmin2, q, S, K, hx, rfl⟩
    · exact absurd ha q
    · omega
    · rcases hv with ⟨hv, _, hF⟩ | ⟨z1, _, _, hz1, ho1, _⟩
      · exact q_n R (f53 hF) hz9 he S (J_e hm.1) (congrArg Int32.toInt64 (by rw [hv, q])) hr
      · exact absurd ho1 (hno z1 hz1)
    · rcases hv with ⟨_, hno, _⟩ | ⟨z1, ms, mk, hz1, ho1, hmin1, hv, hF, hP, rfl⟩
      · exact absurd ho2 (hno z2 hz2)
      · have hzz : z1 = z2 := by
          rcases Nat.lt_trichotomy z1 z2 with w | w | w
          · exact absurd ho1 (hmin2 z1 w)
          · exact w
          · exact absurd ho2 (hmin1 z2 w)
        have hans : ans = b9 := tI_eq hv q (by rw [hzz])
        have hms : ∀ g, (g < 53 ∨ 56 ≤ g) → ms g = mi g := fun g hg => hF g (by simp only [List.mem_cons, List.not_mem_nil, or_false, not_or]; omega)
        have R2 : Rel ms ml := R.q (fun g a1 a2 => hms g (by omega)) (by rw [hms 58 (by decide)]) (by rw [hms 61 (by decide)]) (by rw [hms 61 (by decide)]) R.2.2.2.2
        have s62 : ms 62 = mi 62 := hms 62 (by decide)
        have hP2 : PUS (pV ms) (zV ms) ms mk := by rw [show pV ms = pV mi by unfold pV; rw [hms 17 (by decide)], show zV ms = zV mi by unfold zV; rw [hms 17 (by decide)]]; exact hP
        have hq62 : mj 62 = ms 62 := kp_62 K ((S.1 62 (by decide)).trans (by rw [u2_p (by decide), u2_p (by decide), u2_p (by decide), u2_p (by decide), pus_h hP 62 (by decide)]))
        refine c_n R2 hP2 (fun g hg _ => by rw [u2_p (by omega), u2_p (by omega), u2_p (by omega), u2_p (by omega)]) S K (fun g hg => by rw [u2_p (by omega), u2_p (by omega), u2_p (by omega), u2_p (by omega)]) (fun k _ => by rw [u2_p (show (61 : Nat) ≠ 62 by decide), u2_p (show (61 : Nat) ≠ 62 by decide), u2_p (show (61 : Nat) ≠ 62 by decide), u2_p (show (61 : Nat) ≠ 62 by decide)]) ?_ hz9 he (J_e hm.1) (congrArg Int32.toInt64 hans) hr
        have hD2 := R2.2.1
        rw [s62] at hD2 hq62
        subst hans
        refine ch_ac R.1 hD2 wn.1 hn9 (by rw [hv]; omega) (by rw [hA]; exact ha) (fun j hj z => ho1.1 j hj (by rw [z]; exact hv)) (pus_m hP) rfl (by rw [u2_s]; exact hx) ((u2_n (Or.inr (by omega))).trans ((u2_n (Or.inr (by omega))).trans (u2_s _ _ _ _))) ((u2_n (Or.inr (by omega))).trans (u2_s _ _ _ _)) ((u2_n (Or.inr (by omega))).trans ((u2_n (Or.inr (by omega))).trans ((u2_n (Or.inr (by omega))).trans (u2_s _ _ _ _)))) (fun k a b c d => ?_)
        rw [u2_n (Or.inr a), u2_n (Or.inr c), u2_n (Or.inr b), u2_n (Or.inr d)]
        exact congrFun hq62 k
  · rcases ha with ⟨rfl, ha⟩ | ⟨rfl, ha, hb⟩
    · rcases hm.2 with ⟨_, rfl⟩ | ⟨q, _, _⟩ | ⟨q, _⟩ | ⟨q, _⟩
      · exact q_x R Fr_r R.2.2.2.2 SM_0 (J_e hm.1) (hr.trans cdA_A) (by decide)
      · exact absurd q ha
      · exact absurd q ha
      · exact absurd q ha
    · rcases hm.2 with ⟨q, _⟩ | ⟨_, _, rfl⟩ | ⟨_, q, _⟩ | ⟨_, q, _⟩
      · exact absurd ha q
      · exact q_x R Fr_r R.2.2.2.2 SM_0 (J_e hm.1) (hr.trans cdA_S) (by decide)
      · exact absurd q hb
      · exact absurd q hb
set_option maxRecDepth 100000 in
theorem b_append (l : Launch) (hfl : l.stackTraces = false) {mi mi1 : MI} {ml ml1 : MJ} (R : Rel mi ml) (a : Int32) (A : Int) (hA : a.toInt = A) (r : Int32) (h : (r = 0 ∧ ∃ (ans : Int32) (mk : MJ), (fun r mi9 ml9 => ml = ml9 ∧ (0 ≤ A ∧ A ≤ 127) ∧ (NV mi) < 120 ∧ r.toInt = ((NV mi) : Int) + 1 ∧ u2 (u2 mi 59 (NV mi) a) 58 1 r = mi9) ans mi1 mk ∧ u2 mk 73 0 ans.toInt64 = ml1) ∨ ∃ En, (fun En mi9 ml9 => mi = mi9 ∧ ml = ml9 ∧ ((En = xIA ∧ ¬ (0 ≤ A ∧ A ≤ 127)) ∨ (En = xIS ∧ (0 ≤ A ∧ A ≤ 127) ∧ ¬ (NV mi) < 120))) En mi1 ml1 ∧ r = cdA En) : Ct l yX6_append (.code yX6_append cX6_append 2 (some .int)) 1 0 0 [.ref 61, .int a] (wl mi1 ml1) (QI (fun b mi2 ml2 => Rel mi2 ml2 ∧ mi2 61 5 = r ∧ (r = 0 → ml2 73 0 = b.toInt64))) noX := by
  have f : ∀ g, 60 ≤ g → mi1 g = mi g := by
    rcases h with ⟨_, ans, mkl, ⟨_, _, _, _, rfl⟩, _⟩ | ⟨En, hx, _⟩
    · exact fun g hg => by rw [u2_p (by omega), u2_p (by omega)]
    · exact fun g _ => by rw [← hx.1]
  have e62 := f 62 (by decide)
  have wn := wf_n R.1
  have wm := wf_m R.1
  have wt := wf_t R.1
  obtain ⟨np, nz, nz2, nN, nN2, nT⟩ := R.nums
  have hn1 : (mi1 62 5).toInt = (nV (mi 62) : Int) := by rw [e62]; exact wn.1
  have hm1 : (mi1 62 26).toInt = (mV (mi 62) : Int) := by rw [e62]; exact wm.1
  have ht1 : (mi1 62 32).toInt = (tV (mi 62) : Int) := by rw [e62]; exact wt.1
  have hw1 : WFV (mi1 62) := by rw [e62]; exact R.1
  have hs1 : (mi1 61 2).toInt = (zV mi : Int) := by rw [f 61 (by decide)]; exact nz2
  have hN1 : (mi1 61 4).toInt = (NV mi : Int) := by rw [f 61 (by decide)]; exact nN2
  refine Ct.mono (c_X6_append l hfl mi1 ml1 _ hN1 (by omega) a A hA) (fun rv w hm => ?_)
  obtain ⟨b9, mi2, ml2, e1, e2, hm⟩ := hm
  refine ⟨b9, mi2, ml2, e1, e2, ?_⟩
  rcases h with ⟨hr, ans, mkl, ⟨rfl, ha, hN9, hv, rfl⟩, he⟩ | ⟨En, ⟨rfl, rfl, ha⟩, hr⟩
  · rcases hm.2 with ⟨q, _⟩ | ⟨_, q, _⟩ | ⟨_, _, q, rfl⟩
    · exact absurd ha q
    · omega
    · have hJ := J_e hm.1
      have hg : ∀ g, g ≠ 58 → g ≠ 59 → g ≠ 61 → g ≠ 64 → (u2 (u2 (u2 (u2 (u2 mi 59 (NV mi) a) 58 1 ans) 61 5 0) 64 (NV mi) a) 61 4 b9) g = mi g := fun g a1 a2 a3 a4 => by rw [u2_p a3, u2_p a4, u2_p a3, u2_p a1, u2_p a2]
      refine ⟨⟨?_, ?_, ?_, ?_, ?_⟩, ?_, fun _ => ?_⟩
      · rw [hg 62 (by decide) (by decide) (by decide) (by decide)]; exact R.1
      · rw [hg 62 (by decide) (by decide) (by decide) (by decide)]; exact R.2.1.fr (fun q hq => hg _ (by omega) (by omega) (by omega) (by omega))
      · exact R.2.2.1.c (fun g a1 a2 => hg g (by omega) (by omega) (by omega) (by omega)) (by rw [u2_n (Or.inr (by decide)), u2_p (by decide), u2_n (Or.inr (by decide)), u2_p (by decide), u2_p (by decide)]) (hg 63 (by decide) (by decide) (by decide) (by decide))
      · refine ⟨NV mi + 1, by omega, by rw [u2_p (by decide), u2_p (by decide), u2_p (by decide), u2_s, hv]; omega, by rw [u2_s, q]; omega, fun k hk => ?_⟩
        rw [u2_p (show (59 : Nat) ≠ 61 by decide), u2_p (show (59 : Nat) ≠ 64 by decide), u2_p (show (59 : Nat) ≠ 61 by decide), u2_p (show (59 : Nat) ≠ 58 by decide), u2_p (show (64 : Nat) ≠ 61 by decide)]
        rcases Nat.lt_or_ge k (NV mi) with z | z
        · rw [u2_n (Or.inr (by omega)), u2_n (Or.inr (by omega)), u2_p (show (64 : Nat) ≠ 61 by decide), u2_p (show (64 : Nat) ≠ 58 by decide), u2_p (show (64 : Nat) ≠ 59 by decide)]; exact nT k z
        · rw [show k = NV mi by omega, u2_s, u2_s]
      · rw [hJ 56 (by decide), hJ 57 (by decide), ← he, u2_p (show (56 : Nat) ≠ 73 by decide), u2_p (show (57 : Nat) ≠ 73 by decide)]; exact R.2.2.2.2
      · rw [u2_n (Or.inr (by decide)), u2_p (by decide), u2_s, hr]
      · rw [hJ 73 (by decide), ← he, u2_s, tI_eq hv q rfl]
  · rcases ha with ⟨rfl, ha⟩ | ⟨rfl, ha, hb⟩
    · rcases hm.2 with ⟨_, rfl⟩ | ⟨q, _, _⟩ | ⟨q, _⟩
      · exact q_x R Fr_r R.2.2.2.2 SM_0 (J_e hm.1) (hr.trans cdA_A) (by decide)
      · exact absurd q ha
      · exact absurd q ha
    · rcases hm.2 with ⟨q, _⟩ | ⟨_, _, rfl⟩ | ⟨_, q, _⟩
      · exact absurd ha q
      · exact q_x R Fr_r R.2.2.2.2 SM_0 (J_e hm.1) (hr.trans cdA_S) (by decide)
      · exact absurd q hb
set_option maxRecDepth 100000 in
theorem b_undo (l : Launch) (hfl : l.stackTraces = false) {mi mi1 : MI} {ml ml1 : MJ} (R : Rel mi ml)  (r : Int32) (h : (r = 0 ∧ ∃ (ans : Int32) (mk : MJ), (fun r mi9 ml9 => ml = ml9 ∧ 0 < (zV mi) ∧ r = mi9 17 2 ∧ POS (pV mi) (zV mi) mi mi9) ans mi1 mk ∧ u2 mk 73 0 ans.toInt64 = ml1) ∨ ∃ En, (fun En mi9 ml9 => mi = mi9 ∧ ml = ml9 ∧ En = xIS ∧ ¬ 0 < (zV mi)) En mi1 ml1 ∧ r = cd1 En) : Ct l yX6_undo (.code yX6_undo cX6_undo 2 (some .int)) 0 0 0 [.ref 61] (wl mi1 ml1) (QI (fun b mi2 ml2 => Rel mi2 ml2 ∧ mi2 61 5 = r ∧ (r = 0 → ml2 73 0 = b.toInt64))) noX := by
  have f : ∀ g, 60 ≤ g → mi1 g = mi g := by
    rcases h with ⟨_, ans, mkl, ⟨_, _, _, hP⟩, _⟩ | ⟨En, hx, _⟩
    · exact fun g hg => hP.1 g (by omega) (by omega)
    · exact fun g _ => by rw [← hx.1]
  have e62 := f 62 (by decide)
  have wn := wf_n R.1
  have wm := wf_m R.1
  have wt := wf_t R.1
  obtain ⟨np, nz, nz2, nN, nN2, nT⟩ := R.nums
  have hn1 : (mi1 62 5).toInt = (nV (mi 62) : Int) := by rw [e62]; exact wn.1
  have hm1 : (mi1 62 26).toInt = (mV (mi 62) : Int) := by rw [e62]; exact wm.1
  have ht1 : (mi1 62 32).toInt = (tV (mi 62) : Int) := by rw [e62]; exact wt.1
  have hw1 : WFV (mi1 62) := by rw [e62]; exact R.1
  have hs1 : (mi1 61 2).toInt = (zV mi : Int) := by rw [f 61 (by decide)]; exact nz2
  have hN1 : (mi1 61 4).toInt = (NV mi : Int) := by rw [f 61 (by decide)]; exact nN2
  refine Ct.mono (c_X6_undo l hfl mi1 ml1 _ hs1 (by omega)) (fun rv w hm => ?_)
  obtain ⟨b9, mi2, ml2, e1, e2, hm⟩ := hm
  refine ⟨b9, mi2, ml2, e1, e2, ?_⟩
  rcases h with ⟨hr, ans, mkl, ⟨rfl, hs9, hv, hP⟩, he⟩ | ⟨En, ⟨rfl, rfl, rfl, ha⟩, hr⟩
  · rcases hm.2 with ⟨q, _⟩ | ⟨_, q, F, h5, h2, hk, h62⟩
    · omega
    · have hJ := J_e hm.1
      have hF : ∀ g, g ≠ 61 → g ≠ 62 → mi2 g = mi1 g := fun g a1 a2 => F g (by simp only [List.mem_cons, List.not_mem_nil, or_false, not_or]; omega)
      have h9 := RH.un np.2 nz.2 R.hist hs9 hP (m2 := mi2) (fun g hg => hF g (by omega) (by omega)) (by rw [h2]; exact q) ((hF 63 (by decide) (by decide)).trans (f 63 (by decide))) (fun k hk2 => (h62 k hk2).trans (congrFun (f 63 (by decide)) _))
      have hpf : ∀ g, g ≠ 17 → 9 ≤ g → mi1 g = mi g := fun g a1 a2 => hP.1 g a1 (by omega)
      refine ⟨⟨h9.1, h9.2.1, h9.2.2, R.2.2.2.1.c ?_ ?_ ?_ ?_, ?_⟩, ?_, fun _ => ?_⟩
      · rw [hF 58 (by decide) (by decide), hpf 58 (by decide) (by decide)]
      · rw [hk 4 (by decide) (by decide), f 61 (by decide)]
      · rw [hF 59 (by decide) (by decide), hpf 59 (by decide) (by decide)]
      · rw [hF 64 (by decide) (by decide), f 64 (by decide)]
      · rw [hJ 56 (by decide), hJ 57 (by decide), ← he, u2_p (show (56 : Nat) ≠ 73 by decide), u2_p (show (57 : Nat) ≠ 73 by decide)]; exact R.2.2.2.2
      · rw [h5, hr]
      · have hx : ans.toInt = ((zV mi - 1 : Nat) : Int) := by rw [hv]; exact hP.2.2.1
        rw [hJ 73 (by decide), ← he, u2_s, tI_eq hx q (by omega)]
  · rcases hm.2 with ⟨_, rfl⟩ | ⟨q, _⟩
    · exact q_x R Fr_r R.2.2.2.2 SM_0 (J_e hm.1) hr (by decide)
    · omega
end PA3
