section PU4
/-! THE LISTENING TESTS. -/
theorem nI_i {k : Nat} (h : k < 64) : (nI k).toInt = (k : Int) := tI_nI (by omega)
theorem hbP_fall {V : Nat → Int32} {n act ch k : Nat} (hc : ch < 64) : hbP V n act ch k ↔ fallP V ((V (27 + k)).toInt.toNat &&& act) n ch := (Bt_fo V _ n).shr (nI_i hc) hc
theorem hbP_m {V : Nat → Int32} {n act ch k : Nat} (hc : ch < 64) (h : hbP V n act ch k) : hbP V n (2 ^ n - 1) ch k := by
  rw [hbP_fall hc] at h ⊢
  refine fallP_m (fun c hcn hb => ?_) h
  rw [Nat.testBit_and, Bool.and_eq_true] at hb ⊢
  exact ⟨hb.1, bit_all c hcn⟩
theorem an_st : ∀ k, k < 5 → ∀ a, a < 2 ^ k → ∀ b, b < 2 ^ k → (nI a &&& (nI b ^^^ (-1))) = 0 → (nI (a + 0) &&& (nI (b + 0) ^^^ (-1))) = 0 ∧ (nI (a + 0) &&& (nI (b + 2 ^ k) ^^^ (-1))) = 0 ∧ (nI (a + 2 ^ k) &&& (nI (b + 2 ^ k) ^^^ (-1))) = 0 := by decide +kernel
theorem hb_sub {V : Nat → Int32} {n act ch : Nat} (hc : ch < 64) : ∀ k, k ≤ 5 → (nI (hbS V n act ch k) &&& (nI (hbS V n (2 ^ n - 1) ch k) ^^^ (-1))) = 0
  | 0, _ => by rw [hbS, hbS]; decide
  | k + 1, hk => by
    have ih := an_st k (by omega) _ (hbS_lt V n act ch k) _ (hbS_lt V n (2 ^ n - 1) ch k) (hb_sub hc k (by omega))
    rw [hbS, hbS]
    rcases Classical.em (hbP V n act ch k) with q | q
    · rw [ifp_t q, ifp_t (hbP_m hc q)]; exact ih.2.2
    · rw [ifp_f q]
      rcases Classical.em (hbP V n (2 ^ n - 1) ch k) with w | w
      · rw [ifp_t w]; exact ih.2.1
      · rw [ifp_f w]; exact ih.1
theorem mem_fit {V : Nat → Int32} {n m t s : Nat} : ∀ {k : Nat}, s ∈ fitL V n m t k ↔ s < k ∧ fitN V n m s t
  | 0 => ⟨fun h => (by rw [fitL] at h; cases h), fun h => absurd h.1 (Nat.not_lt_zero _)⟩
  | k + 1 => by
    rw [fitL, List.mem_append, mem_fit (k := k), mem_ifp]
    constructor
    · rintro (⟨h1, h2⟩ | ⟨h1, h2⟩)
      · exact ⟨by omega, h2⟩
      · subst h2; exact ⟨Nat.lt_succ_self _, h1⟩
    · rintro ⟨h1, h2⟩
      rcases Nat.lt_or_ge s k with q | q
      · exact Or.inl ⟨q, h2⟩
      · obtain rfl : s = k := by omega
        exact Or.inr ⟨h2, rfl⟩
theorem fit_0 {V : Nat → Int32} {n m : Nat} : ∀ k, fitL V n m 0 k = List.range k
  | 0 => rfl
  | k + 1 => by rw [fitL_y (fun t ht => absurd ht (Nat.not_lt_zero _)), fit_0 k, List.range_succ]
theorem bs_range : ∀ k, bsF (List.range (k + 1)) = 0
  | 0 => rfl
  | k + 1 => by
    rw [List.range_succ, bsF_add, bs_range k, if_neg]
    rintro (h | h)
    · exact absurd h (by decide)
    · rw [show ((0 : Int).toNat) = 0 from rfl, popc_0] at h
      exact absurd h (Nat.not_lt_zero _)
theorem bs_none (L : List Nat) : bsF L = -1 ↔ L = [] := by
  rcases List.eq_nil_or_concat L with q | ⟨L', s, q⟩
  · subst q; exact ⟨fun _ => rfl, fun _ => rfl⟩
  · rw [List.concat_eq_append] at q
    subst q
    refine ⟨fun h => ?_, fun h => by simp at h⟩
    rw [bsF_add] at h
    by_cases c : bsF L' = -1 ∨ popc s < popc (bsF L').toNat
    · rw [if_pos c] at h; omega
    · rw [if_neg c] at h; exact absurd (Or.inl h) c
theorem bs_in {L : List Nat} (h : L ≠ []) : ∃ s, s ∈ L ∧ bsF L = (s : Int) := (bsF_or L).resolve_left (fun q => h ((bs_none L).mp q))
theorem and3 (a b c : Int32) : (a &&& b) &&& c = (a &&& c) &&& b := by rw [Int32.and_assoc, Int32.and_comm b c, ← Int32.and_assoc]
theorem ct_abs {f : Nat → Int32} : ∀ (L : List Nat) (w : Int32), (∀ s, s ∈ L → (L.foldl (fun w s => w &&& f s) w) &&& f s = L.foldl (fun w s => w &&& f s) w) ∧ ∀ u, w &&& u = w → (L.foldl (fun w s => w &&& f s) w) &&& u = L.foldl (fun w s => w &&& f s) w
  | [], w => ⟨fun s h => (by cases h), fun u h => h⟩
  | y :: L, w => by
    obtain ⟨h1, h2⟩ := ct_abs (f := f) L (w &&& f y)
    refine ⟨fun s hs => ?_, fun u hu => h2 u (by rw [and3, hu])⟩
    rcases List.mem_cons.mp hs with e | e
    · subst e
      exact h2 _ (by rw [Int32.and_assoc, Int32.and_self])
    · exact h1 s e
theorem ct_s {P : Prop} {m : Int32} {L : List Nat} {s : Nat} (hs : s ∈ L) : ctF P m L &&& ifp P (nI s) (nI s ^^^ (-1)) = ctF P m L := (ct_abs (f := fun s => ifp P (nI s) (nI s ^^^ (-1))) L m).1 s hs
theorem ct_m {P : Prop} {m : Int32} {L : List Nat} : ctF P m L &&& m = ctF P m L := (ct_abs (f := fun s => ifp P (nI s) (nI s ^^^ (-1))) L m).2 m Int32.and_self
theorem ct_t {m : Int32} {L : List Nat} {s : Nat} (hs : s ∈ L) : ctF True m L &&& nI s = ctF True m L := by
  have := ct_s (P := True) (m := m) hs
  rw [ifp_t trivial] at this
  exact this
theorem no_s : ∀ s, s < 32 → ((nI s ^^^ (-1)) &&& nI s) = 0 := by decide +kernel
theorem and_z (x : Int32) : x &&& 0 = 0 := Int32.toBitVec_inj.mp (by rw [Int32.toBitVec_and]; exact BitVec.and_zero)
theorem ct_f {m : Int32} {L : List Nat} {s : Nat} (hs : s ∈ L) (h : s < 32) : ctF False m L &&& nI s = 0 := by
  have := ct_s (P := False) (m := m) hs
  rw [ifp_f not_false] at this
  rw [← this, Int32.and_assoc, no_s s h, and_z]
/-- the numbers that are bad, that are good -/
theorem ct_rng {P : Prop} {m : Nat} {L : List Nat} (hm : m ≤ 5) : ∃ g, g < 32 ∧ ctF P (nI (2 ^ m - 1)) L = nI g := by
  have h5 := p2_5 hm
  have hp := Nat.two_pow_pos m
  have e := nI_i (k := 2 ^ m - 1) (by omega)
  have h := and_nn (x := ctF P (nI (2 ^ m - 1)) L) (y := nI (2 ^ m - 1)) (by omega)
  rw [ct_m] at h
  exact ⟨(ctF P (nI (2 ^ m - 1)) L).toInt.toNat, by omega, tI_nIx (by omega)⟩
theorem li_none {P : Prop} {m : Nat} : ctF P (nI (2 ^ m - 1)) [] = nI (2 ^ m - 1) := rfl
theorem li_bg {m : Int32} {L : List Nat} (hL : L ≠ []) (h : ∀ s, s ∈ L → s < 32) : (ctF True m L &&& ctF False m L) = 0 := by
  obtain ⟨s, hs⟩ := List.exists_mem_of_ne_nil L hL
  rw [← ct_t hs, Int32.and_assoc, Int32.and_comm (nI s), ct_f hs (h s hs), and_z]
theorem li_db {m : Int32} {L : List Nat} {x : Int32} {s : Nat} (hs : s ∈ L) (hx : x.toInt = (s : Int)) : (x &&& ctF True m L) = ctF True m L := by
  rw [tI_nIx hx, Int32.and_comm, ct_t hs]
theorem li_dg {m : Int32} {L : List Nat} {x : Int32} {s : Nat} (hs : s ∈ L) (h : s < 32) (hx : x.toInt = (s : Int)) : (x &&& ctF False m L) = 0 := by
  rw [tI_nIx hx, Int32.and_comm, ct_f hs h]
theorem nI_and : ∀ a, a < 32 → ∀ b, b < 32 → ((nI a &&& nI b) = 0 ↔ (b &&& a) = 0) := by decide +kernel
theorem nI_an : ∀ a, a < 32 → ∀ b, b < 32 → (nI a &&& (nI b ^^^ (-1))) = 0 → (nI a &&& nI b) = nI a := by decide +kernel
theorem cnt_all {L : List Nat} {h : Nat} (hL : ∀ s, s ∈ L → (s &&& h) ≠ 0) : cntF L h = L.length := by
  unfold cntF
  rw [List.filter_eq_self.mpr (fun s hs => decide_eq_true (hL s hs))]
theorem cnt_no {L : List Nat} {h : Nat} (hL : ∀ s, s ∈ L → (s &&& h) = 0) : cntF L h = 0 := by
  unfold cntF
  rw [List.filter_eq_nil_iff.mpr (fun s hs => by rw [decide_eq_true_iff]; exact fun q => q (hL s hs))]
  rfl
/-- where a bad one is heard, all hear -/
theorem li_pb {m : Nat} {L : List Nat} {p : Nat} (hp : p < 32) (h : ∀ s, s ∈ L → s < 32) (hq : (nI p &&& ctF True (nI (2 ^ m - 1)) L) ≠ 0) : cntF L p = L.length := by
  refine cnt_all (fun s hs e => hq ?_)
  have h1 := (nI_and p hp s (h s hs)).mpr e
  rw [← ct_t hs, Int32.and_comm (ctF True (nI (2 ^ m - 1)) L), ← Int32.and_assoc, h1, Int32.and_comm, and_z]
/-- where all that are heard are good, none hears -/
theorem li_pg {m : Nat} {L : List Nat} {p : Nat} (hm : m ≤ 5) (hp : p < 32) (h : ∀ s, s ∈ L → s < 32) (hq : (nI p &&& (ctF False (nI (2 ^ m - 1)) L ^^^ (-1))) = 0) : cntF L p = 0 := by
  refine cnt_no (fun s hs => ?_)
  obtain ⟨g, hg, e⟩ := ct_rng (P := False) (L := L) hm
  rw [e] at hq
  have h1 := nI_an p hp g hg hq
  have h2 := ct_f (m := nI (2 ^ m - 1)) hs (h s hs)
  rw [e] at h2
  refine (nI_and p hp s (h s hs)).mp ?_
  rw [← h1, Int32.and_assoc, h2, and_z]
/-- one more test -/
theorem fit_at {V : Nat → Int32} {n m t s act ch : Nat} {a c : Int32} {P : Prop} (h10 : n ≤ 10) (h5 : m ≤ 5) (ha : a.toInt = (act : Int)) (hc : c.toInt = (ch : Int)) : fitN (ATV V t a c (bI P)) n m s (t + 1) ↔ fitN V n m s t ∧ ((hbS V n act ch m &&& s) ≠ 0 ↔ P) := by
  have e32 : ∀ k, k < 32 → ATV V t a c (bI P) k = V k := fun k hk => ATV_n (by omega) (by omega)
  have hh : ∀ x y, hbS (ATV V t a c (bI P)) n x y m = hbS V n x y m := fun x y => hbS_c e32 h10 m h5
  have old : ∀ j, j < t → (fitT (ATV V t a c (bI P)) n m s j ↔ fitT V n m s j) := by
    intro j hj
    unfold fitT tA tC
    rw [hh, ATV_n (by omega) (by omega), ATV_n (by omega) (by omega), ATV_n (by omega) (by omega)]
  have new : fitT (ATV V t a c (bI P)) n m s t ↔ ((hbS V n act ch m &&& s) ≠ 0 ↔ P) := by
    unfold fitT tA tC
    rw [hh, ATV_a, ATV_b, ATV_c, ha, hc]
    show ((hbS V n act ch m &&& s) ≠ 0 ↔ bI P = 1) ↔ _
    rw [show (bI P = 1 ↔ P) from ⟨fun q => Classical.byContradiction (fun w => by rw [bI_f w] at q; exact absurd q (by decide)), bI_t⟩]
  constructor
  · intro h
    exact ⟨fun j hj => (old j hj).mp (h j (by omega)), new.mp (h t (by omega))⟩
  · rintro ⟨h1, h2⟩ j hj
    rcases Nat.lt_or_ge j t with q | q
    · exact (old j q).mpr (h1 j q)
    · obtain rfl : j = t := by omega
      exact new.mpr h2
theorem fit_yes {V : Nat → Int32} {n m t act ch : Nat} {a c : Int32} {P : Prop} (h10 : n ≤ 10) (h5 : m ≤ 5) (ha : a.toInt = (act : Int)) (hc : c.toInt = (ch : Int)) (hP : P) : ∀ k, (fitL (ATV V t a c (bI P)) n m (t + 1) k).length = cntF (fitL V n m t k) (hbS V n act ch m)
  | 0 => rfl
  | k + 1 => by
    have ih := fit_yes (V := V) (t := t) h10 h5 ha hc hP k
    have hf := fit_at (V := V) (t := t) (s := k) h10 h5 ha hc (P := P)
    rcases Classical.em (fitN V n m k t) with q | q
    · rw [fitL_y q]
      by_cases w : (k &&& hbS V n act ch m) = 0
      · rw [fitL_n (fun z => ((hf.mp z).2.mpr hP) (by rw [Nat.and_comm]; exact w)), ch_0 w, ih]
      · rw [fitL_y (hf.mpr ⟨q, fun _ => hP, fun _ => by rw [Nat.and_comm]; exact w⟩), ch_y w, List.length_append, ih]; rfl
    · rw [fitL_n q, fitL_n (fun z => q (hf.mp z).1), ih]
theorem fit_no {V : Nat → Int32} {n m t act ch : Nat} {a c : Int32} {P : Prop} (h10 : n ≤ 10) (h5 : m ≤ 5) (ha : a.toInt = (act : Int)) (hc : c.toInt = (ch : Int)) (hP : ¬ P) : ∀ k, (fitL (ATV V t a c (bI P)) n m (t + 1) k).length + cntF (fitL V n m t k) (hbS V n act ch m) = (fitL V n m t k).length
  | 0 => rfl
  | k + 1 => by
    have ih := fit_no (V := V) (t := t) h10 h5 ha hc hP k
    have hf := fit_at (V := V) (t := t) (s := k) h10 h5 ha hc (P := P)
    rcases Classical.em (fitN V n m k t) with q | q
    · rw [fitL_y q, List.length_append]
      show _ = _ + 1
      by_cases w : (k &&& hbS V n act ch m) = 0
      · rw [fitL_y (hf.mpr ⟨q, fun z => absurd (by rw [Nat.and_comm]; exact w) z, fun z => absurd z hP⟩), ch_0 w, List.length_append, ← ih]
        show _ + 1 + _ = _
        omega
      · rw [fitL_n (fun z => hP ((hf.mp z).2.mp (by rw [Nat.and_comm]; exact w))), ch_y w, ← ih]
        omega
    · rw [fitL_n q, fitL_n (fun z => q (hf.mp z).1), ih]
/-! ALL CHANNELS MOVED: the same products, the same hits. -/
theorem stC_sg {D D' : RD} {n s kd a b : Nat} (h : ∀ c, (kd = 1 → c < n) → (Sg D' kd a b c ↔ Sg D kd a b c)) : ∀ c, (kd = 1 → c ≤ n) → stC D' s kd a b c = stC D s kd a b c
  | 0, _ => rfl
  | c + 1, hc => by
    rw [stC, stC, stC_sg h c (fun e => by have := hc e; omega)]
    have e := h c (fun e => by have := hc e; omega)
    rcases Classical.em (vC s kd a b c ∧ Sg D kd a b c) with q | q
    · rw [ifp_t q, ifp_t ⟨q.1, e.mpr q.2⟩]
    · rw [ifp_f q, ifp_f (fun z => q ⟨z.1, e.mp z.2⟩)]
theorem stB_sg {D D' : RD} {n s kd a : Nat} (h : ∀ b, b < n → ∀ c, (kd = 1 → c < n) → (Sg D' kd a b c ↔ Sg D kd a b c)) : ∀ b, b ≤ n → stB D' s n kd a b = stB D s n kd a b
  | 0, _ => rfl
  | b + 1, hb => by
    rw [stB, stB, stB_sg h b (by omega), stC_sg (n := n) (h b (by omega)) (nCs n kd) (fun e => by unfold nCs; rw [if_pos e]; exact Nat.le_refl _)]
theorem stA_sg {D D' : RD} {n s kd : Nat} (h : ∀ a, a < n → ∀ b, b < n → ∀ c, (kd = 1 → c < n) → (Sg D' kd a b c ↔ Sg D kd a b c)) : ∀ a, a ≤ n → stA D' s n kd a = stA D s n kd a
  | 0, _ => rfl
  | a + 1, ha => by rw [stA, stA, stA_sg h a (by omega), stB_sg (h a (by omega)) n (Nat.le_refl _)]
theorem stK_sg {D D' : RD} {n s : Nat} : ∀ {K : Nat}, (∀ kd, kd < K → ∀ a, a < n → ∀ b, b < n → ∀ c, (kd = 1 → c < n) → (Sg D' kd a b c ↔ Sg D kd a b c)) → stK D' s n K = stK D s n K
  | 0, _ => rfl
  | kd + 1, h => by rw [stK, stK, stK_sg (fun k hk => h k (by omega)), stA_sg (h kd (by omega)) n (Nat.le_refl _)]
/-- V' is V moved by B -/
def mvV (V V' : Nat → Int32) (n : Nat) (B : Int) : Prop := (V' 0).toInt = (V 0).toInt ∧ (V' 1).toInt = (V 1).toInt ∧ (V' 2).toInt = (V 2).toInt ∧ (V' 3).toInt = (V 3).toInt ∧ (V' 4).toInt = (V 4).toInt ∧ ∀ j, j < n → (V' (6 + 2 * j)).toInt = (V (6 + 2 * j)).toInt + B ∧ (V' (7 + 2 * j)).toInt = (V (7 + 2 * j)).toInt
theorem mv_ch {V V' : Nat → Int32} {n : Nat} {B : Int} (h : mvV V V' n B) {kd a b c : Nat} (hk : kd < 3) (ha : a < n) (hb : b < n) (hc : kd = 1 → c < n) : pCh (DV V') kd a b c = pCh (DV V) kd a b c + B ∧ pLv (DV V') kd a b c = pLv (DV V) kd a b c := by
  obtain ⟨_, h1, h2, _, _, h6⟩ := h
  have xa := h6 a ha
  have xb := h6 b hb
  rcases (by omega : kd = 0 ∨ kd = 1 ∨ kd = 2) with q | q | q
  · subst q
    rw [pC0, pC0, pL0, pL0]
    show 2 * (V' (6 + 2 * a)).toInt - (V' (6 + 2 * b)).toInt = 2 * (V (6 + 2 * a)).toInt - (V (6 + 2 * b)).toInt + B ∧ (V' (7 + 2 * a)).toInt + (V' (7 + 2 * b)).toInt + (V' (7 + 2 * a)).toInt - (V' 1).toInt = (V (7 + 2 * a)).toInt + (V (7 + 2 * b)).toInt + (V (7 + 2 * a)).toInt - (V 1).toInt
    omega
  · subst q
    have xc := h6 c (hc rfl)
    rw [pC1, pC1, pL1, pL1]
    show (V' (6 + 2 * a)).toInt + (V' (6 + 2 * b)).toInt - (V' (6 + 2 * c)).toInt = (V (6 + 2 * a)).toInt + (V (6 + 2 * b)).toInt - (V (6 + 2 * c)).toInt + B ∧ (V' (7 + 2 * a)).toInt + (V' (7 + 2 * b)).toInt + (V' (7 + 2 * c)).toInt - (V' 1).toInt = (V (7 + 2 * a)).toInt + (V (7 + 2 * b)).toInt + (V (7 + 2 * c)).toInt - (V 1).toInt
    omega
  · subst q
    rw [pC2, pC2, pL2, pL2]
    show 3 * (V' (6 + 2 * a)).toInt - 2 * (V' (6 + 2 * b)).toInt = 3 * (V (6 + 2 * a)).toInt - 2 * (V (6 + 2 * b)).toInt + B ∧ 3 * (V' (7 + 2 * a)).toInt + 2 * (V' (7 + 2 * b)).toInt - (V' 2).toInt = 3 * (V (7 + 2 * a)).toInt + 2 * (V (7 + 2 * b)).toInt - (V 2).toInt
    omega
def midV (V : Nat → Int32) (n : Nat) : Prop := ∀ j, j < n → 26 < (V (6 + 2 * j)).toInt ∧ (V (6 + 2 * j)).toInt < 37
theorem mid_ch {V : Nat → Int32} {n : Nat} (h : midV V n) {kd a b c : Nat} (hk : kd < 3) (ha : a < n) (hb : b < n) (hc : kd = 1 → c < n) : 0 ≤ pCh (DV V) kd a b c ∧ pCh (DV V) kd a b c ≤ 63 := by
  have xa := h a ha
  have xb := h b hb
  rcases (by omega : kd = 0 ∨ kd = 1 ∨ kd = 2) with q | q | q
  · subst q
    rw [pC0]
    show 0 ≤ 2 * (V (6 + 2 * a)).toInt - (V (6 + 2 * b)).toInt ∧ 2 * (V (6 + 2 * a)).toInt - (V (6 + 2 * b)).toInt ≤ 63
    omega
  · subst q
    have xc := h c (hc rfl)
    rw [pC1]
    show 0 ≤ (V (6 + 2 * a)).toInt + (V (6 + 2 * b)).toInt - (V (6 + 2 * c)).toInt ∧ (V (6 + 2 * a)).toInt + (V (6 + 2 * b)).toInt - (V (6 + 2 * c)).toInt ≤ 63
    omega
  · subst q
    rw [pC2]
    show 0 ≤ 3 * (V (6 + 2 * a)).toInt - 2 * (V (6 + 2 * b)).toInt ∧ 3 * (V (6 + 2 * a)).toInt - 2 * (V (6 + 2 * b)).toInt ≤ 63
    omega
theorem mv_pr {V V' : Nat → Int32} {n s : Nat} {B : Int} (h : mvV V V' n B) (m1 : midV V n) (m2 : midV V' n) : prV V' s n = prV V s n := by
  refine stK_sg (fun kd hk a ha b hb c hc => ?_)
  have e := mv_ch h hk ha hb hc
  have r1 := mid_ch m1 hk ha hb hc
  have r2 := mid_ch m2 hk ha hb hc
  have hk9 : (DV V').1 = (DV V).1 := by show (V' 0).toInt.toNat = (V 0).toInt.toNat; rw [h.1]
  constructor
  · rintro ⟨_, h2, h3⟩
    exact ⟨r1, by rw [← hk9]; exact h2, by rw [← e.2]; exact h3⟩
  · rintro ⟨_, h2, h3⟩
    exact ⟨r2, by rw [hk9]; exact h2, by rw [e.2]; exact h3⟩
theorem mv_hc {V V' : Nat → Int32} {n s : Nat} {B g x : Int} (h : mvV V V' n B) : ∀ i, hcA (DV V') g (x + B) (prV V s n) i = hcA (DV V) g x (prV V s n) i
  | 0 => rfl
  | i + 1 => by
    have ih := mv_hc (g := g) (x := x) (s := s) h i
    cases e : (prV V s n)[i]? with
    | none => rw [hcA, hcA, e, ih]
    | some q =>
      have hq := mem_pr.mp (List.mem_of_getElem? e)
      have hc9 : q.1 = 1 → q.2.2.2 < n := fun e1 => by
        have := hq.2.2.2.1
        unfold nCs at this
        rw [if_pos e1] at this
        exact this
      have e9 := (mv_ch h hq.1 hq.2.1 hq.2.2.1 hc9).1
      rcases Classical.em (-g ≤ pCh (DV V) q.1 q.2.1 q.2.2.1 q.2.2.2 - x ∧ pCh (DV V) q.1 q.2.1 q.2.2.1 q.2.2.2 - x ≤ g) with w | w
      · rw [hcA_t e w, hcA_t e (by rw [e9]; omega), ih]
      · rw [hcA_f e w, hcA_f e (by rw [e9]; omega), ih]
theorem mv_hs {V V' : Nat → Int32} {n s : Nat} {B : Int} (h : mvV V V' n B) : ∀ k, k ≤ n → hsA V' (prV V s n) k = hsA V (prV V s n) k
  | 0, _ => rfl
  | k + 1, hk => by
    rw [hsA, hsA, mv_hs h k (by omega), (h.2.2.2.2.2 k (by omega)).1, h.2.2.2.1, mv_hc h]
theorem mv_cl {V V' : Nat → Int32} {n : Nat} {B : Int} (h : mvV V V' n B) (m1 : midV V n) (m2 : midV V' n) : ClR (DV V') (V' 3).toInt (V' 4).toInt n ↔ ClR (DV V) (V 3).toInt (V 4).toInt n := by
  rw [clean_iff, clean_iff, mv_pr h m1 m2, mv_hs h n (Nat.le_refl _), h.2.2.2.2.1]
  refine and_congr Iff.rfl ?_
  have e : ∀ a b, a < n → b < n → (cwP (DV V') (V 4).toInt a b ↔ cwP (DV V) (V 4).toInt a b) := fun a b ha hb => by
    have xa := (h.2.2.2.2.2 a ha).1
    have xb := (h.2.2.2.2.2 b hb).1
    show ((1 - (V 4).toInt) ≤ (V' (6 + 2 * a)).toInt - (V' (6 + 2 * b)).toInt ∧ (V' (6 + 2 * a)).toInt - (V' (6 + 2 * b)).toInt ≤ ((V 4).toInt - 1)) ↔ ((1 - (V 4).toInt) ≤ (V (6 + 2 * a)).toInt - (V (6 + 2 * b)).toInt ∧ (V (6 + 2 * a)).toInt - (V (6 + 2 * b)).toInt ≤ ((V 4).toInt - 1))
    rw [xa, xb]
    constructor <;> intro z <;> omega
  exact ⟨fun q a b ha hb hab z => q a b ha hb hab ((e a b ha hb).mpr z), fun q a b ha hb hab z => q a b ha hb hab ((e a b ha hb).mp z)⟩
end PU4
