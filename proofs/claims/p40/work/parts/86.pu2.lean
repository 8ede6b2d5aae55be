section PU2
/-! NUMBERS AND BITS of the law's own little methods. -/
theorem and_nn {x y : Int32} (h : 0 ≤ y.toInt) : 0 ≤ (x &&& y).toInt ∧ (x &&& y).toInt ≤ y.toInt := by
  have hy : 2 * y.toBitVec.toNat < 2 ^ 32 := by
    have h2 : 0 ≤ y.toBitVec.toInt := h
    rw [BitVec.toInt_eq_toNat_cond] at h2
    split at h2
    · assumption
    · have := y.toBitVec.isLt
      omega
  have e1 : y.toInt = (y.toBitVec.toNat : Int) := BitVec.toInt_eq_toNat_of_lt hy
  have l1 : (x &&& y).toBitVec.toNat ≤ y.toBitVec.toNat := by
    rw [Int32.toBitVec_and, BitVec.toNat_and]
    exact Nat.and_le_right
  have e2 : (x &&& y).toInt = ((x &&& y).toBitVec.toNat : Int) := BitVec.toInt_eq_toNat_of_lt (by omega)
  omega
theorem rem_rng {x y : Int32} (hx : 0 ≤ x.toInt) (hy : 0 < y.toInt) : 0 ≤ (x - x / y * y).toInt ∧ (x - x / y * y).toInt < y.toInt ∧ (x - x / y * y).toInt = x.toInt % y.toInt := by
  have rx := tI_rng x
  have q1 : (x / y).toInt = x.toInt / y.toInt := by
    rw [Int32.toInt_div, Int.tdiv_eq_ediv_of_nonneg hx]
    have h1 : 0 ≤ x.toInt / y.toInt := Int.ediv_nonneg hx (by omega)
    have h2 : x.toInt / y.toInt ≤ x.toInt := Int.ediv_le_self _ hx
    exact bmI (by omega)
  have h0 : 0 ≤ x.toInt / y.toInt := Int.ediv_nonneg hx (by omega)
  have h1 : x.toInt / y.toInt * y.toInt ≤ x.toInt := Int.ediv_mul_le _ (by omega)
  have h2 : 0 ≤ x.toInt / y.toInt * y.toInt := Int.mul_nonneg h0 (by omega)
  have q2 : (x / y * y).toInt = x.toInt / y.toInt * y.toInt := tI_mul q1 rfl (by omega)
  have q3 : (x - x / y * y).toInt = x.toInt - x.toInt / y.toInt * y.toInt := tI_sub rfl q2 (by omega)
  have h3 := Int.emod_add_ediv_mul x.toInt y.toInt
  have h4 := Int.emod_nonneg x.toInt (show y.toInt ≠ 0 by omega)
  have h5 := Int.emod_lt_of_pos x.toInt hy
  omega
theorem m31_nn (x : Int32) : 0 ≤ (x &&& 2147483647).toInt := (and_nn (by decide)).1
theorem pw_10n : ∀ k, k < 11 → ((1 : Int32) <<< (nI k &&& 31)) = nI (2 ^ k) := by decide +kernel
theorem pw_s {x : Int32} {k : Nat} (h : x.toInt = (k : Int)) (hk : k ≤ 10) : ((1 : Int32) <<< (x &&& 31)).toInt = ((2 ^ k : Nat) : Int) := by
  have : 2 ^ k ≤ 2 ^ 10 := Nat.pow_le_pow_right (by decide) hk
  rw [tI_nIx h, pw_10n k (by omega)]
  exact tI_nI (by omega)
theorem pw_a {x : Int32} {k : Nat} (h : x.toInt = (k : Int)) (hk : k ≤ 10) : (((1 : Int32) <<< (x &&& 31)) - 1).toInt = ((2 ^ k - 1 : Nat) : Int) := by
  have h1 : 2 ^ k ≤ 2 ^ 10 := Nat.pow_le_pow_right (by decide) hk
  have h2 := Nat.two_pow_pos k
  exact (tI_sub (pw_s h hk) (show (1 : Int32).toInt = 1 from rfl) (by omega)).trans (by omega)
/-- counted bits -/
def pcB (x : Int64) : Nat → Nat
  | 0 => 0
  | i + 1 => pcB x i + (if lb x i = true then 1 else 0)
theorem pcB_le (x : Int64) : ∀ i, pcB x i ≤ i
  | 0 => Nat.le_refl _
  | i + 1 => by
    have := pcB_le x i
    rw [pcB]
    split <;> omega
theorem pcB_0 : ∀ i, pcB 0 i = 0
  | 0 => rfl
  | i + 1 => by rw [pcB, pcB_0 i, lb_0]; rfl
theorem pcB_z {x : Int64} : ∀ i, (∀ c, c < i → lb x c = false) → pcB x i = 0
  | 0, _ => rfl
  | i + 1, h => by
    rw [pcB, pcB_z i (fun c hc => h c (by omega)), h i (by omega)]; rfl
theorem pcB_s {x y : Int64} {c : Nat} (h : ∀ i, i < 64 → lb y i = (lb x i || decide (i = c))) (hc : lb x c = false) : ∀ N, N ≤ 64 → pcB y N = pcB x N + (if c < N then 1 else 0)
  | 0, _ => by rw [pcB, pcB, if_neg (Nat.not_lt_zero _)]
  | N + 1, hN => by
    have ih := pcB_s h hc N (by omega)
    rw [pcB, pcB, ih, h N (by omega)]
    by_cases e : N = c
    · subst e
      rw [hc, if_neg (Nat.lt_irrefl _), if_pos (Nat.lt_succ_self _)]
      simp
    · have e1 : decide (N = c) = false := decide_eq_false e
      rw [e1, Bool.or_false]
      by_cases e2 : c < N
      · rw [if_pos e2, if_pos (by omega : c < N + 1)]; omega
      · rw [if_neg e2, if_neg (by omega : ¬ c < N + 1), Nat.add_zero, Nat.add_zero]
theorem pcB_or {x : Int64} {y : Int32} {c : Nat} (hy : y.toInt = (c : Int)) (hc : c < 64) (h : lb x c = false) : pcB (x ||| ((1 : Int64) <<< (y.toInt64 &&& 63))) 64 = pcB x 64 + 1 := by
  have := pcB_s (x := x) (y := x ||| ((1 : Int64) <<< (y.toInt64 &&& 63))) (c := c) (fun i hi => by rw [lb_or, tI_nIx hy, lb_one hc hi]) h 64 (Nat.le_refl _)
  rw [this, if_pos hc]
theorem low_bit (X : Nat) : 0 < X → ∃ c, X.testBit c = true ∧ ∀ i, (X.testBit i && (X - 1).testBit i) = (X.testBit i && decide (i ≠ c)) := by
  induction X using Nat.strongRecOn with
  | _ X ih =>
    intro h
    rcases Nat.mod_two_eq_zero_or_one X with e | e
    · obtain ⟨c, h1, h2⟩ := ih (X / 2) (by omega) (by omega)
      refine ⟨c + 1, by rw [Nat.testBit_succ]; exact h1, fun i => ?_⟩
      match i with
      | 0 => rw [Nat.testBit_zero, e]; rfl
      | i + 1 =>
        rw [Nat.testBit_succ, Nat.testBit_succ, show (X - 1) / 2 = X / 2 - 1 by omega, h2 i]
        by_cases e3 : i = c
        · subst e3; simp
        · rw [decide_eq_true (show i ≠ c from e3), decide_eq_true (show i + 1 ≠ c + 1 by omega)]
    · refine ⟨0, by rw [Nat.testBit_zero, e]; rfl, fun i => ?_⟩
      match i with
      | 0 => rw [Nat.testBit_zero, Nat.testBit_zero, show (X - 1) % 2 = 0 by omega, e]; rfl
      | i + 1 =>
        rw [Nat.testBit_succ, Nat.testBit_succ, show (X - 1) / 2 = X / 2 by omega, decide_eq_true (show i + 1 ≠ 0 by omega), Bool.and_self, Bool.and_true]
theorem lb_nat (x : Int64) (i : Nat) : lb x i = x.toBitVec.toNat.testBit i := rfl
theorem lb_big {x : Int64} {i : Nat} (h : 64 ≤ i) : lb x i = false := BitVec.getLsbD_of_ge _ _ h
theorem i64_low {x : Int64} (h : x ≠ 0) : ∃ c, c < 64 ∧ lb x c = true ∧ ∀ i, lb (x &&& (x - 1)) i = (lb x i && decide (i ≠ c)) := by
  have h0 : 0 < x.toBitVec.toNat := by
    rcases Nat.eq_zero_or_pos x.toBitVec.toNat with q | q
    · exact absurd (Int64.toBitVec_inj.mp (BitVec.eq_of_toNat_eq (q.trans rfl))) h
    · exact q
  obtain ⟨c, h1, h2⟩ := low_bit x.toBitVec.toNat h0
  have hc : c < 64 := by
    rcases Nat.lt_or_ge c 64 with q | q
    · exact q
    · have := lb_big (x := x) q
      rw [lb_nat, h1] at this
      cases this
  have e : (x - 1).toBitVec.toNat = x.toBitVec.toNat - 1 := by
    rw [Int64.toBitVec_sub, BitVec.toNat_sub]
    have := x.toBitVec.isLt
    have e1 : (1 : Int64).toBitVec.toNat = 1 := rfl
    rw [e1]
    omega
  refine ⟨c, hc, h1, fun i => ?_⟩
  rw [lb_and, lb_nat x, lb_nat (x - 1), e]
  exact h2 i
theorem pcB_clear {x : Int64} (h : x ≠ 0) : pcB (x &&& (x - 1)) 64 + 1 = pcB x 64 := by
  obtain ⟨c, h1, h2, h3⟩ := i64_low h
  have := pcB_s (x := x &&& (x - 1)) (y := x) (c := c) (fun i hi => by
    rw [h3]
    by_cases e : i = c
    · subst e; rw [h2]; simp
    · rw [decide_eq_true (show i ≠ c from e), decide_eq_false e, Bool.and_true, Bool.or_false]) (by rw [h3]; simp) 64 (Nat.le_refl _)
  rw [this, if_pos h1]
theorem pcB_pos {x : Int64} (h : x ≠ 0) : 0 < pcB x 64 := by have := pcB_clear h; omega
/-- a list of bits, put in one by one -/
theorem rb_go : ∀ (R : List Nat) (w : Int64) (P : Nat → Prop), Bt w P → (∀ x, x ∈ R → x < 64) → Bt (R.foldl (fun w x => w ||| ((1 : Int64) <<< ((nI x).toInt64 &&& 63))) w) (fun c => P c ∨ c ∈ R)
  | [], w, P, h, _ => h.iff (fun c _ => ⟨Or.inl, fun q => q.elim id (fun q => by cases q)⟩)
  | y :: R, w, P, h, hR => by
    have hy := hR y List.mem_cons_self
    have hn : (nI y).toInt = (y : Int) := tI_nI (by omega)
    have ih := rb_go R _ _ (h.or (Bt_one hn hy)) (fun x hx => hR x (List.mem_cons_of_mem _ hx))
    refine ih.iff (fun c _ => ?_)
    rw [List.mem_cons, or_assoc]
theorem rb_Bt {R : List Nat} (hR : ∀ x, x ∈ R → x < 64) : Bt (rbF R) (fun c => c ∈ R) := (rb_go R 0 _ Bt_0 hR).iff (fun c _ => ⟨fun q => q.elim (fun q => q.elim) id, Or.inr⟩)
theorem rb_cnt : ∀ (R : List Nat) (w : Int64), (∀ x, x ∈ R → x < 64 ∧ lb w x = false) → R.Nodup → pcB (R.foldl (fun w x => w ||| ((1 : Int64) <<< ((nI x).toInt64 &&& 63))) w) 64 = pcB w 64 + R.length
  | [], w, _, _ => rfl
  | y :: R, w, h, hd => by
    obtain ⟨h1, h2⟩ := List.nodup_cons.mp hd
    obtain ⟨hy, hy2⟩ := h y List.mem_cons_self
    have hn : (nI y).toInt = (y : Int) := tI_nI (by omega)
    have ih := rb_cnt R (w ||| ((1 : Int64) <<< ((nI y).toInt64 &&& 63))) (fun x hx => ⟨(h x (List.mem_cons_of_mem _ hx)).1, by
      have hx2 := h x (List.mem_cons_of_mem _ hx)
      rw [lb_or, hx2.2, lb_one hy hx2.1, decide_eq_false (fun e => h1 (by rw [← e]; exact hx))]; rfl⟩) h2
    rw [List.foldl_cons, ih, pcB_or hn hy hy2, List.length_cons]
    omega
theorem rb_pc {R : List Nat} (hR : ∀ x, x ∈ R → x < 64) (hd : R.Nodup) : pcB (rbF R) 64 = R.length := by
  have := rb_cnt R 0 (fun x hx => ⟨hR x hx, lb_0 x⟩) hd
  rw [pcB_0] at this
  unfold rbF
  omega
theorem ch_pc {V : Nat → Int32} {n : Nat} (h : WFV V) (hn : (V 5).toInt = (n : Int)) : ∀ k, k ≤ n → pcB (chS (fun j => V (6 + 2 * j)) k) 64 = k
  | 0, _ => by rw [chS]; exact pcB_0 64
  | k + 1, hk => by
    have hr := h.ch hn k (by omega)
    obtain ⟨x, hx⟩ : ∃ x : Nat, (V (6 + 2 * k)).toInt = (x : Int) := ⟨(V (6 + 2 * k)).toInt.toNat, by omega⟩
    have hb := chS_Bt (f := fun j => V (6 + 2 * j)) (n := k) (fun j hj => h.ch hn j (by omega))
    rw [chS, pcB_or hx (by omega) (by
      rcases Bool.eq_false_or_eq_true (lb (chS (fun j => V (6 + 2 * j)) k) x) with q | q
      · obtain ⟨j, h1, h2⟩ := (hb x (by omega)).mp q
        have := h.df hn (i := j) (j := k) (by omega) (by omega) (h2.trans hx.symm)
        omega
      · exact q), ch_pc h hn k (by omega)]
/-- the highest of some bits -/
def hiB (x : Int64) (r : Int) : Prop := (r = -1 ∧ ∀ c, c < 64 → lb x c = false) ∨ ∃ k : Nat, k < 64 ∧ r = (k : Int) ∧ lb x k = true ∧ ∀ c, k < c → c < 64 → lb x c = false
theorem hi_rb {R : List Nat} {s : Nat} {r : Int} (hR : ∀ x, x ∈ R → x ≤ s) (hs : s < 64) (hm : s ∈ R) (h : hiB (rbF R) r) : r = (s : Int) := by
  have hb := rb_Bt (fun x hx => Nat.lt_of_le_of_lt (hR x hx) hs)
  have h1 := (hb s hs).mpr hm
  rcases h with ⟨_, h2⟩ | ⟨k, h2, h3, h4, h5⟩
  · rw [h2 s hs] at h1; cases h1
  · have h6 := hR k ((hb k h2).mp h4)
    rcases Nat.lt_or_ge k s with q | q
    · rw [h5 s q hs] at h1; cases h1
    · omega
/-- the bits below one -/
theorem lowm : ∀ c, c < 64 → ∀ i, i < 64 → lb (((1 : Int64) <<< ((nI c).toInt64 &&& 63)) - 1) i = decide (i < c) := by decide +kernel
theorem Bt_low {y : Int32} {c : Nat} (hy : y.toInt = (c : Int)) (hc : c < 64) : Bt (((1 : Int64) <<< (y.toInt64 &&& 63)) - 1) (fun i => i < c) := fun i hi => by
  rw [tI_nIx hy, lowm c hc i hi, decide_eq_true_iff]
theorem pr_div : ∀ p, p < 541 → ∃ d, d < 136 ∧ (nI p / 4 : Int32) = nI d := by
  intro p hp
  have h : ∀ p, p < 541 → (nI p / 4 : Int32) = nI (p / 4) := by decide +kernel
  exact ⟨p / 4, by omega, h p hp⟩
theorem step_e {x : Int32} {p : Nat} (hx : x.toInt = (p : Int)) (hp : p ≤ 540) : ∃ d : Nat, 1 ≤ d ∧ d ≤ 136 ∧ (1 + x / 4 : Int32).toInt = (d : Int) := by
  obtain ⟨d, h1, h2⟩ := pr_div p (by omega)
  refine ⟨d + 1, by omega, by omega, ?_⟩
  rw [tI_nIx hx, h2]
  exact (tI_add (show (1 : Int32).toInt = 1 from rfl) (tI_nI (n := d) (by omega)) (by omega)).trans (by omega)
end PU2
