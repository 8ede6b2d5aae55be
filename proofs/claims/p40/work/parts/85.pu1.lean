section PU1
/-! THE PRODUCTS: who is in the lists, their order, their channels' bits. -/
theorem mem_ifp {α : Type} {P : Prop} {x y : α} : y ∈ ifp P [x] [] ↔ P ∧ y = x := by
  rcases Classical.em P with h | h
  · rw [ifp_t h, List.mem_singleton]; exact ⟨fun q => ⟨h, q⟩, fun q => q.2⟩
  · rw [ifp_f h]; exact ⟨fun q => (by cases q), fun q => absurd q.1 h⟩
theorem mem_ifl {α : Type} {P : Prop} {L : List α} {y : α} : y ∈ ifp P L [] ↔ P ∧ y ∈ L := by
  rcases Classical.em P with h | h
  · rw [ifp_t h]; exact ⟨fun q => ⟨h, q⟩, fun q => q.2⟩
  · rw [ifp_f h]; exact ⟨fun q => (by cases q), fun q => absurd q.1 h⟩
theorem mem_stC {D : RD} {s kd a b : Nat} {q : Q4} : ∀ {c : Nat}, q ∈ stC D s kd a b c ↔ ∃ c', c' < c ∧ q = (kd, a, b, c') ∧ vC s kd a b c' ∧ Sg D kd a b c'
  | 0 => ⟨fun h => (by cases h), fun h => by obtain ⟨c', h, _⟩ := h; exact absurd h (Nat.not_lt_zero _)⟩
  | c + 1 => by
    rw [stC, List.mem_append, mem_stC (c := c), mem_ifp]
    constructor
    · rintro (⟨c', h1, h2, h3, h4⟩ | ⟨⟨h3, h4⟩, h2⟩)
      · exact ⟨c', by omega, h2, h3, h4⟩
      · exact ⟨c, by omega, h2, h3, h4⟩
    · rintro ⟨c', h1, h2, h3, h4⟩
      rcases Nat.lt_or_ge c' c with h | h
      · exact Or.inl ⟨c', h, h2, h3, h4⟩
      · obtain rfl : c' = c := by omega
        exact Or.inr ⟨⟨h3, h4⟩, h2⟩
theorem mem_stB {D : RD} {s n kd a : Nat} {q : Q4} : ∀ {b : Nat}, q ∈ stB D s n kd a b ↔ ∃ b', b' < b ∧ vB s kd a b' ∧ q ∈ stC D s kd a b' (nCs n kd)
  | 0 => ⟨fun h => (by cases h), fun h => by obtain ⟨c', h, _⟩ := h; exact absurd h (Nat.not_lt_zero _)⟩
  | b + 1 => by
    rw [stB, List.mem_append, mem_stB (b := b), mem_ifl]
    constructor
    · rintro (⟨c', h1, h2, h3⟩ | ⟨h2, h3⟩)
      · exact ⟨c', by omega, h2, h3⟩
      · exact ⟨b, by omega, h2, h3⟩
    · rintro ⟨c', h1, h2, h3⟩
      rcases Nat.lt_or_ge c' b with h | h
      · exact Or.inl ⟨c', h, h2, h3⟩
      · obtain rfl : c' = b := by omega
        exact Or.inr ⟨h2, h3⟩
theorem mem_stA {D : RD} {s n kd : Nat} {q : Q4} : ∀ {a : Nat}, q ∈ stA D s n kd a ↔ ∃ a', a' < a ∧ q ∈ stB D s n kd a' n
  | 0 => ⟨fun h => (by cases h), fun h => by obtain ⟨c', h, _⟩ := h; exact absurd h (Nat.not_lt_zero _)⟩
  | a + 1 => by
    rw [stA, List.mem_append, mem_stA (a := a)]
    constructor
    · rintro (⟨c', h1, h2⟩ | h2)
      · exact ⟨c', by omega, h2⟩
      · exact ⟨a, by omega, h2⟩
    · rintro ⟨c', h1, h2⟩
      rcases Nat.lt_or_ge c' a with h | h
      · exact Or.inl ⟨c', h, h2⟩
      · obtain rfl : c' = a := by omega
        exact Or.inr h2
theorem mem_stK {D : RD} {s n : Nat} {q : Q4} : ∀ {kd : Nat}, q ∈ stK D s n kd ↔ ∃ kd', kd' < kd ∧ q ∈ stA D s n kd' n
  | 0 => ⟨fun h => (by cases h), fun h => by obtain ⟨c', h, _⟩ := h; exact absurd h (Nat.not_lt_zero _)⟩
  | a + 1 => by
    rw [stK, List.mem_append, mem_stK (kd := a)]
    constructor
    · rintro (⟨c', h1, h2⟩ | h2)
      · exact ⟨c', by omega, h2⟩
      · exact ⟨a, by omega, h2⟩
    · rintro ⟨c', h1, h2⟩
      rcases Nat.lt_or_ge c' a with h | h
      · exact Or.inl ⟨c', h, h2⟩
      · obtain rfl : c' = a := by omega
        exact Or.inr h2
/-- what a product of the list is -/
def okQ (D : RD) (s n : Nat) (q : Q4) : Prop := q.1 < 3 ∧ q.2.1 < n ∧ q.2.2.1 < n ∧ q.2.2.2 < nCs n q.1 ∧ vB s q.1 q.2.1 q.2.2.1 ∧ vC s q.1 q.2.1 q.2.2.1 q.2.2.2 ∧ Sg D q.1 q.2.1 q.2.2.1 q.2.2.2
theorem mem_st {D : RD} {s n : Nat} {q : Q4} : q ∈ stK D s n 3 ↔ okQ D s n q := by
  rw [mem_stK]
  constructor
  · rintro ⟨kd, h1, h2⟩
    obtain ⟨a, h3, h4⟩ := mem_stA.mp h2
    obtain ⟨b, h5, h6, h7⟩ := mem_stB.mp h4
    obtain ⟨c, h8, h9, ha, hb⟩ := mem_stC.mp h7
    subst h9
    exact ⟨h1, h3, h5, h8, h6, ha, hb⟩
  · obtain ⟨kd, a, b, c⟩ := q
    rintro ⟨h1, h2, h3, h4, h5, h6, h7⟩
    exact ⟨kd, h1, mem_stA.mpr ⟨a, h2, mem_stB.mpr ⟨b, h3, h5, mem_stC.mpr ⟨c, h4, rfl, h6, h7⟩⟩⟩⟩
theorem mem_pr {V : Nat → Int32} {s n : Nat} {q : Q4} : q ∈ prV V s n ↔ okQ (DV V) s n q := mem_st
theorem okQ_m {D : RD} {s s2 n : Nat} {q : Q4} (hs : ∀ c, c < n → s.testBit c = true → s2.testBit c = true) (h : okQ D s n q) : okQ D s2 n q := by
  obtain ⟨h1, h2, h3, h4, ⟨h5, h6, h7, h8⟩, h9, ha⟩ := h
  refine ⟨h1, h2, h3, h4, ⟨h5, h6, hs _ h2 h7, hs _ h3 h8⟩, ?_, ha⟩
  rcases h9 with h | ⟨b1, b2, b3⟩
  · exact Or.inl h
  · rcases Classical.em (q.1 = 1) with e | e
    · rw [e] at h4
      exact Or.inr ⟨b1, b2, hs _ h4 b3⟩
    · exact Or.inl e
theorem bit_all {n : Nat} : ∀ c, c < n → (2 ^ n - 1).testBit c = true := fun c h => by rw [tb_all c h, Nat.zero_testBit]; rfl
theorem okQ_all {D : RD} {s n : Nat} {q : Q4} (h : okQ D s n q) : okQ D (2 ^ n - 1) n q := okQ_m (fun c hc _ => bit_all c hc) h
/-- the order of the list -/
def qKey (q : Q4) : Nat := 4096 * q.1 + 256 * q.2.1 + 16 * q.2.2.1 + (if q.1 = 1 then q.2.2.2 + 1 else 0)
theorem or_stC {D : RD} {s kd a b : Nat} : ∀ {c : Nat}, (kd = 1 ∨ c ≤ 1) → (stC D s kd a b c).Pairwise (fun p q => qKey p < qKey q)
  | 0, _ => List.Pairwise.nil
  | c + 1, h => by
    rw [stC, List.pairwise_append]
    refine ⟨or_stC (h.imp id (fun h => by omega)), ?_, ?_⟩
    · rcases Classical.em (vC s kd a b c ∧ Sg D kd a b c) with q | q
      · rw [ifp_t q]; exact List.pairwise_singleton _ _
      · rw [ifp_f q]; exact List.Pairwise.nil
    · intro p hp q hq
      obtain ⟨_, hq2⟩ := mem_ifp.mp hq
      obtain ⟨c', h1, h2, _⟩ := mem_stC.mp hp
      subst h2; subst hq2
      unfold qKey
      rcases h with h | h
      · subst h
        show 4096 * 1 + 256 * a + 16 * b + (if (1 : Nat) = 1 then c' + 1 else 0) < 4096 * 1 + 256 * a + 16 * b + (if (1 : Nat) = 1 then c + 1 else 0)
        rw [if_pos rfl, if_pos rfl]; omega
      · omega
theorem key_C {D : RD} {s n kd a b : Nat} {q : Q4} (hn : n ≤ 10) (h : q ∈ stC D s kd a b (nCs n kd)) : 4096 * kd + 256 * a + 16 * b ≤ qKey q ∧ qKey q < 4096 * kd + 256 * a + 16 * (b + 1) := by
  obtain ⟨c, h1, h2, _⟩ := mem_stC.mp h
  subst h2
  unfold qKey
  show 4096 * kd + 256 * a + 16 * b ≤ 4096 * kd + 256 * a + 16 * b + (if kd = 1 then c + 1 else 0) ∧ 4096 * kd + 256 * a + 16 * b + (if kd = 1 then c + 1 else 0) < 4096 * kd + 256 * a + 16 * (b + 1)
  by_cases e : kd = 1
  · rw [if_pos e]
    unfold nCs at h1
    rw [if_pos e] at h1
    omega
  · rw [if_neg e]; omega
theorem or_stB {D : RD} {s n kd a : Nat} (hn : n ≤ 10) : ∀ {b : Nat}, (stB D s n kd a b).Pairwise (fun p q => qKey p < qKey q)
  | 0 => List.Pairwise.nil
  | b + 1 => by
    rw [stB, List.pairwise_append]
    refine ⟨or_stB hn, ?_, ?_⟩
    · rcases Classical.em (vB s kd a b) with q | q
      · rw [ifp_t q]
        refine or_stC ?_
        by_cases e : kd = 1
        · exact Or.inl e
        · refine Or.inr ?_
          unfold nCs
          rw [if_neg e]
          exact Nat.le_refl _
      · rw [ifp_f q]; exact List.Pairwise.nil
    · intro p hp q hq
      obtain ⟨_, hq2⟩ := mem_ifl.mp hq
      obtain ⟨b', h1, _, h2⟩ := mem_stB.mp hp
      have k1 := key_C hn h2
      have k2 := key_C hn hq2
      omega
theorem key_B {D : RD} {s n kd a b : Nat} {q : Q4} (hn : n ≤ 10) (hb : b ≤ n) (h : q ∈ stB D s n kd a b) : 4096 * kd + 256 * a ≤ qKey q ∧ qKey q < 4096 * kd + 256 * (a + 1) := by
  obtain ⟨b', h1, _, h2⟩ := mem_stB.mp h
  have k1 := key_C hn h2
  omega
theorem or_stA {D : RD} {s n kd : Nat} (hn : n ≤ 10) : ∀ {a : Nat}, (stA D s n kd a).Pairwise (fun p q => qKey p < qKey q)
  | 0 => List.Pairwise.nil
  | a + 1 => by
    rw [stA, List.pairwise_append]
    refine ⟨or_stA hn, or_stB hn, ?_⟩
    intro p hp q hq
    obtain ⟨a', h1, h2⟩ := mem_stA.mp hp
    have k1 := key_B hn (Nat.le_refl _) h2
    have k2 := key_B hn (Nat.le_refl _) hq
    omega
theorem key_A {D : RD} {s n kd : Nat} {q : Q4} (hn : n ≤ 10) (h : q ∈ stA D s n kd n) : 4096 * kd ≤ qKey q ∧ qKey q < 4096 * (kd + 1) := by
  obtain ⟨a', h1, h2⟩ := mem_stA.mp h
  have k1 := key_B hn (Nat.le_refl _) h2
  omega
theorem or_stK {D : RD} {s n : Nat} (hn : n ≤ 10) : ∀ {kd : Nat}, (stK D s n kd).Pairwise (fun p q => qKey p < qKey q)
  | 0 => List.Pairwise.nil
  | a + 1 => by
    rw [stK, List.pairwise_append]
    refine ⟨or_stK hn, or_stA hn, ?_⟩
    intro p hp q hq
    obtain ⟨a', h1, h2⟩ := mem_stK.mp hp
    have k1 := key_A hn h2
    have k2 := key_A hn hq
    omega
theorem pr_ord {V : Nat → Int32} {s n i j : Nat} {p q : Q4} (hn : n ≤ 10) (hi : (prV V s n)[i]? = some p) (hj : (prV V s n)[j]? = some q) (hij : i < j) : qKey p < qKey q := by
  obtain ⟨h1, e1⟩ := List.getElem?_eq_some_iff.mp hi
  obtain ⟨h2, e2⟩ := List.getElem?_eq_some_iff.mp hj
  have h := List.pairwise_iff_getElem.mp (or_stK (D := DV V) (s := s) hn (kd := 3)) i j h1 h2 hij
  rw [← e1, ← e2]
  exact h
/-- the channels of a list of products, as bits -/
theorem Bt_foA {D : RD} {L : List Q4} (h : ∀ q, q ∈ L → 0 ≤ pCh D q.1 q.2.1 q.2.2.1 q.2.2.2 ∧ pCh D q.1 q.2.1 q.2.2.1 q.2.2.2 ≤ 63) : ∀ i, i ≤ L.length → Bt (foA D L i) (fun x => ∃ j q, j < i ∧ L[j]? = some q ∧ pCh D q.1 q.2.1 q.2.2.1 q.2.2.2 = (x : Int))
  | 0, _ => by
    rw [foA]
    exact Bt_0.iff (fun c _ => ⟨fun q => q.elim, fun q => by obtain ⟨j, q, h, _⟩ := q; omega⟩)
  | i + 1, hi => by
    have ih := Bt_foA h i (by omega)
    have e : L[i]? = some (L[i]'(by omega)) := List.getElem?_eq_getElem (by omega)
    have hr := h _ (List.getElem_mem (by omega : i < L.length))
    obtain ⟨x, hx⟩ : ∃ x : Nat, pCh D (L[i]'(by omega)).1 (L[i]'(by omega)).2.1 (L[i]'(by omega)).2.2.1 (L[i]'(by omega)).2.2.2 = (x : Int) := ⟨(pCh D (L[i]'(by omega)).1 (L[i]'(by omega)).2.1 (L[i]'(by omega)).2.2.1 (L[i]'(by omega)).2.2.2).toNat, by omega⟩
    have hn : (nI x).toInt = (x : Int) := tI_nI (by omega)
    rw [foA_s e (hn.trans hx.symm)]
    refine (ih.or (Bt_one hn (by omega))).iff (fun c _ => ⟨fun q => ?_, fun q => ?_⟩)
    · rcases q with ⟨j, p, h1, h2, h3⟩ | q
      · exact ⟨j, p, by omega, h2, h3⟩
      · exact ⟨i, _, by omega, e, by rw [hx, q]⟩
    · obtain ⟨j, p, h1, h2, h3⟩ := q
      rcases Nat.lt_or_ge j i with hj | hj
      · exact Or.inl ⟨j, p, hj, h2, h3⟩
      · obtain rfl : j = i := by omega
        rw [e] at h2
        cases h2
        rw [hx] at h3
        exact Or.inr (by omega)
/-- on which channels something falls -/
def fallP (V : Nat → Int32) (s n : Nat) (x : Nat) : Prop := ∃ q, okQ (DV V) s n q ∧ pCh (DV V) q.1 q.2.1 q.2.2.1 q.2.2.2 = (x : Int)
theorem Bt_fo (V : Nat → Int32) (s n : Nat) : Bt (foA (DV V) (prV V s n) (prV V s n).length) (fallP V s n) := by
  refine (Bt_foA (fun q hq => (mem_pr.mp hq).2.2.2.2.2.2.1) _ (Nat.le_refl _)).iff (fun c _ => ⟨fun q => ?_, fun q => ?_⟩)
  · obtain ⟨j, p, h1, h2, h3⟩ := q
    exact ⟨p, mem_pr.mp (List.mem_of_getElem? h2), h3⟩
  · obtain ⟨p, h1, h2⟩ := q
    obtain ⟨j, hj, e⟩ := List.mem_iff_getElem.mp (mem_pr.mpr h1)
    exact ⟨j, p, hj, by rw [List.getElem?_eq_getElem hj, e], h2⟩
theorem fallP_m {V : Nat → Int32} {s s2 n x : Nat} (hs : ∀ c, c < n → s.testBit c = true → s2.testBit c = true) (h : fallP V s n x) : fallP V s2 n x := by
  obtain ⟨q, h1, h2⟩ := h
  exact ⟨q, okQ_m hs h1, h2⟩
theorem lb_xor (x y : Int64) (i : Nat) : lb (x ^^^ y) i = (lb x i ^^ lb y i) := by unfold lb; rw [Int64.toBitVec_xor, BitVec.getLsbD_xor]
theorem lb_m1 : ∀ i, i < 64 → lb (-1) i = true := by decide +kernel
theorem Bt.not {x : Int64} {P : Nat → Prop} (h : Bt x P) : Bt (x ^^^ (-1)) (fun c => ¬ P c) := by
  intro c hc
  rw [lb_xor, lb_m1 c hc, Bool.xor_true, Bool.not_eq_true', ← Bool.not_eq_true]
  exact not_congr (h c hc)
/-- what falls with fewer falls with all -/
theorem fo_sub {V : Nat → Int32} {s n : Nat} : (foA (DV V) (prV V s n) (prV V s n).length &&& (foA (DV V) (prV V (2 ^ n - 1) n) (prV V (2 ^ n - 1) n).length ^^^ (-1))) = 0 :=
  (Bt_and (Bt_fo V s n) (Bt_fo V (2 ^ n - 1) n).not).mpr (fun c _ h => h.2 (fallP_m (fun c hc _ => bit_all c hc) h.1))
theorem chS_Bt {f : Nat → Int32} : ∀ {n : Nat}, (∀ j, j < n → 0 ≤ (f j).toInt ∧ (f j).toInt ≤ 63) → Bt (chS f n) (fun x => ∃ j, j < n ∧ (f j).toInt = (x : Int))
  | 0, _ => by
    rw [chS]
    exact Bt_0.iff (fun c _ => ⟨fun q => q.elim, fun q => by obtain ⟨j, h, _⟩ := q; omega⟩)
  | n + 1, h => by
    have ih := chS_Bt (f := f) (n := n) (fun j hj => h j (by omega))
    have hr := h n (by omega)
    obtain ⟨x, hx⟩ : ∃ x : Nat, (f n).toInt = (x : Int) := ⟨(f n).toInt.toNat, by omega⟩
    rw [chS]
    refine (ih.or (Bt_one hx (by omega))).iff (fun c _ => ⟨fun q => ?_, fun q => ?_⟩)
    · rcases q with ⟨j, h1, h2⟩ | q
      · exact ⟨j, by omega, h2⟩
      · exact ⟨n, by omega, by rw [hx, q]⟩
    · obtain ⟨j, h1, h2⟩ := q
      rcases Nat.lt_or_ge j n with hj | hj
      · exact Or.inl ⟨j, hj, h2⟩
      · obtain rfl : j = n := by omega
        rw [hx] at h2
        exact Or.inr (by omega)
theorem Bt.shr {x : Int64} {P : Nat → Prop} {y : Int32} {c : Nat} (h : Bt x P) (hy : y.toInt = (c : Int)) (hc : c < 64) : ((x >>> (y.toInt64 &&& 63)) &&& 1) = 1 ↔ P c := by
  rw [tI_nIx hy, ← h c hc]
  constructor
  · intro e
    rcases Bool.eq_false_or_eq_true (lb x c) with q | q
    · exact q
    · rw [(lb_bit hc x).mpr q] at e
      exact absurd e (by decide)
  · intro e
    refine and1_or _ (fun z => ?_)
    rw [(lb_bit hc x).mp z] at e
    cases e
theorem WFV.ch {V : Nat → Int32} {n : Nat} (h : WFV V) (hn : (V 5).toInt = (n : Int)) : ∀ j, j < n → 0 ≤ (V (6 + 2 * j)).toInt ∧ (V (6 + 2 * j)).toInt ≤ 63 := fun j hj => (h.2.2.1 j (by omega)).1
theorem WFV.lv {V : Nat → Int32} {n : Nat} (h : WFV V) (hn : (V 5).toInt = (n : Int)) : ∀ j, j < n → 0 ≤ (V (7 + 2 * j)).toInt ∧ (V (7 + 2 * j)).toInt ≤ 60 := fun j hj => (h.2.2.1 j (by omega)).2
theorem WFV.df {V : Nat → Int32} {n : Nat} (h : WFV V) (hn : (V 5).toInt = (n : Int)) {i j : Nat} (hi : i < n) (hj : j < n) (e : (V (6 + 2 * i)).toInt = (V (6 + 2 * j)).toInt) : i = j := h.2.2.2.1 i j (by omega) (by omega) (Int32.toInt_inj.mp e)
theorem chV_Bt {V : Nat → Int32} {n : Nat} (h : WFV V) (hn : (V 5).toInt = (n : Int)) : Bt (chS (fun j => V (6 + 2 * j)) n) (fun x => ∃ j, j < n ∧ (V (6 + 2 * j)).toInt = (x : Int)) := chS_Bt (h.ch hn)
/-- the hits -/
theorem hcA_0 {D : RD} {g x : Int} {L : List Q4} : ∀ i, i ≤ L.length → (hcA D g x L i = 0 ↔ ∀ j q, j < i → L[j]? = some q → ¬ (-g ≤ pCh D q.1 q.2.1 q.2.2.1 q.2.2.2 - x ∧ pCh D q.1 q.2.1 q.2.2.1 q.2.2.2 - x ≤ g))
  | 0, _ => ⟨fun _ j q hj => absurd hj (Nat.not_lt_zero _), fun _ => rfl⟩
  | i + 1, hi => by
    have ih := hcA_0 (D := D) (g := g) (x := x) (L := L) i (by omega)
    have e : L[i]? = some (L[i]'(by omega)) := List.getElem?_eq_getElem (by omega)
    rcases Classical.em (-g ≤ pCh D (L[i]'(by omega)).1 (L[i]'(by omega)).2.1 (L[i]'(by omega)).2.2.1 (L[i]'(by omega)).2.2.2 - x ∧ pCh D (L[i]'(by omega)).1 (L[i]'(by omega)).2.1 (L[i]'(by omega)).2.2.1 (L[i]'(by omega)).2.2.2 - x ≤ g) with q | q
    · rw [hcA_t e q]
      exact ⟨fun h => by omega, fun h => absurd q (h i _ (by omega) e)⟩
    · rw [hcA_f e q, Nat.add_zero, ih]
      constructor
      · intro h j p hj hp
        rcases Nat.lt_or_ge j i with h2 | h2
        · exact h j p h2 hp
        · obtain rfl : j = i := by omega
          rw [e] at hp
          cases hp
          exact q
      · exact fun h j p hj hp => h j p (by omega) hp
theorem hcA_z {V : Nat → Int32} {s n : Nat} {g x : Int} : hcA (DV V) g x (prV V s n) (prV V s n).length = 0 ↔ ∀ q, okQ (DV V) s n q → ¬ (-g ≤ pCh (DV V) q.1 q.2.1 q.2.2.1 q.2.2.2 - x ∧ pCh (DV V) q.1 q.2.1 q.2.2.1 q.2.2.2 - x ≤ g) := by
  rw [hcA_0 _ (Nat.le_refl _)]
  constructor
  · intro h q hq
    obtain ⟨j, hj, e⟩ := List.mem_iff_getElem.mp (mem_pr.mpr hq)
    exact h j q hj (by rw [List.getElem?_eq_getElem hj, e])
  · exact fun h j q _ hq => h q (mem_pr.mp (List.mem_of_getElem? hq))
theorem hsA_0 {V : Nat → Int32} {L : List Q4} : ∀ n, hsA V L n = 0 ↔ ∀ k, k < n → hcA (DV V) (V 3).toInt (V (6 + 2 * k)).toInt L L.length = 0
  | 0 => ⟨fun _ j hj => absurd hj (Nat.not_lt_zero _), fun _ => rfl⟩
  | n + 1 => by
    have ih := hsA_0 (V := V) (L := L) n
    rw [hsA]
    constructor
    · intro h k hk
      rcases Nat.lt_or_ge k n with h2 | h2
      · exact ih.mp (by omega) k h2
      · obtain rfl : k = n := by omega
        omega
    · intro h
      have h1 := ih.mpr (fun k hk => h k (by omega))
      have h2 := h n (by omega)
      omega
theorem VT_ok {D : RD} {n kd a b c : Nat} : (VT n kd a b c ∧ Sg D kd a b c) ↔ okQ D (2 ^ n - 1) n (kd, a, b, c) := by
  constructor
  · rintro ⟨⟨h1, h2, h3, h4⟩, h5⟩
    rcases h4 with ⟨e, h6, h7, h8⟩ | ⟨e, h6, h7⟩
    · subst e
      exact ⟨by show (1 : Nat) < 3; decide, h1, h2, by show c < nCs n 1; unfold nCs; rw [if_pos rfl]; exact h3, ⟨fun _ => h6, by show a ≠ b; omega, bit_all _ h1, bit_all _ h2⟩, Or.inr ⟨h7, h8, bit_all _ h3⟩, h5⟩
    · subst h7
      have e1 : kd ≠ 1 := by omega
      exact ⟨by show kd < 3; omega, h1, h2, by show 0 < nCs n kd; unfold nCs; rw [if_neg e1]; decide, ⟨fun q => absurd q e1, h6, bit_all _ h1, bit_all _ h2⟩, Or.inl e1, h5⟩
  · rintro ⟨h1, h2, h3, h4, ⟨h5, h6, _, _⟩, h7, h8⟩
    refine ⟨?_, h8⟩
    have h1' : kd < 3 := h1
    have h4' : c < nCs n kd := h4
    by_cases e : kd = 1
    · subst e
      unfold nCs at h4'
      rw [if_pos rfl] at h4'
      rcases h7 with h | ⟨h, h9, _⟩
      · exact absurd rfl h
      · exact ⟨h2, h3, h4', Or.inl ⟨rfl, h5 rfl, h, h9⟩⟩
    · unfold nCs at h4'
      rw [if_neg e] at h4'
      have h2' : a < n := h2
      exact ⟨h2, h3, by omega, Or.inr ⟨by omega, h6, by omega⟩⟩
theorem Fal_iff {V : Nat → Int32} {n x : Nat} : Fal (DV V) n x ↔ fallP V (2 ^ n - 1) n x := by
  constructor
  · rintro ⟨kd, a, b, c, h1, h2, h3⟩
    exact ⟨(kd, a, b, c), VT_ok.mp ⟨h1, h2⟩, h3⟩
  · rintro ⟨⟨kd, a, b, c⟩, h1, h2⟩
    have h := VT_ok.mpr h1
    exact ⟨kd, a, b, c, h.1, h.2, h2⟩
/-- clean: no hits, and all apart -/
theorem clean_iff {V : Nat → Int32} {n : Nat} {sp : Int} : ClR (DV V) (V 3).toInt sp n ↔ hsA V (prV V (2 ^ n - 1) n) n = 0 ∧ Spd (DV V) sp n := by
  rw [ClR_iff, hsA_0]
  constructor
  · rintro ⟨h1, h2⟩
    refine ⟨fun k hk => hcA_z.mpr (fun q hq hz => ?_), h1⟩
    have hr := hq.2.2.2.2.2.2.1
    obtain ⟨x, hx⟩ : ∃ x : Nat, pCh (DV V) q.1 q.2.1 q.2.2.1 q.2.2.2 = (x : Int) := ⟨(pCh (DV V) q.1 q.2.1 q.2.2.1 q.2.2.2).toNat, by omega⟩
    rw [hx] at hz hr
    exact h2 x (by omega) ⟨⟨k, hk, by show (0 - (V 3).toInt) ≤ (x : Int) - (V (6 + 2 * k)).toInt; omega, hz.2⟩, Fal_iff.mpr ⟨q, hq, hx⟩⟩
  · rintro ⟨h1, h2⟩
    refine ⟨h2, fun x hx hz => ?_⟩
    obtain ⟨⟨k, hk, hk2, hk3⟩, hf⟩ := hz
    obtain ⟨q, hq, hq2⟩ := Fal_iff.mp hf
    refine hcA_z.mp (h1 k hk) q hq ?_
    rw [hq2]
    have hk2' : (0 - (V 3).toInt) ≤ (x : Int) - (V (6 + 2 * k)).toInt := hk2
    exact ⟨by omega, hk3⟩
theorem fo_len {V : Nat → Int32} {n : Nat} : (prV V (2 ^ n - 1) n).length = 0 ↔ foA (DV V) (prV V (2 ^ n - 1) n) (prV V (2 ^ n - 1) n).length = 0 := by
  constructor
  · intro h
    rw [h, foA]
  · intro h
    rcases Nat.eq_zero_or_pos (prV V (2 ^ n - 1) n).length with q | q
    · exact q
    · have hq := mem_pr.mp (List.getElem_mem q)
      have hr := hq.2.2.2.2.2.2.1
      obtain ⟨x, hx⟩ : ∃ x : Nat, pCh (DV V) ((prV V (2 ^ n - 1) n)[0]'q).1 ((prV V (2 ^ n - 1) n)[0]'q).2.1 ((prV V (2 ^ n - 1) n)[0]'q).2.2.1 ((prV V (2 ^ n - 1) n)[0]'q).2.2.2 = (x : Int) := ⟨(pCh (DV V) ((prV V (2 ^ n - 1) n)[0]'q).1 ((prV V (2 ^ n - 1) n)[0]'q).2.1 ((prV V (2 ^ n - 1) n)[0]'q).2.2.1 ((prV V (2 ^ n - 1) n)[0]'q).2.2.2).toNat, by omega⟩
      have hb := (Bt_fo V (2 ^ n - 1) n x (by omega)).mpr ⟨_, hq, hx⟩
      rw [h, lb_0] at hb
      cases hb
/-- the closest two -/
theorem close_iff {V : Nat → Int32} {n : Nat} {x sp : Int} (hw : WFV V) (hn : (V 5).toInt = (n : Int)) (h1 : 1 ≤ sp) (h : mnP (fun a b => (V (6 + 2 * a)).toInt - (V (6 + 2 * b)).toInt) (fun a1 b1 => a1 < n ∧ b1 < n) x) : (Spd (DV V) sp n ↔ x < 0 ∨ sp ≤ x) ∧ (x < 0 ↔ n < 2) ∧ -1 ≤ x ∧ x ≤ 63 := by
  rcases h with ⟨h2, h3⟩ | ⟨⟨a, b, ⟨ha, hb⟩, h3, h4⟩, h5⟩
  · have hno : ∀ a b, a < n → b < n → a = b := fun a b ha hb => by
      have p : (V (6 + 2 * a)).toInt - (V (6 + 2 * b)).toInt ≤ 0 := h3 a b ⟨ha, hb⟩
      have q : (V (6 + 2 * b)).toInt - (V (6 + 2 * a)).toInt ≤ 0 := h3 b a ⟨hb, ha⟩
      exact hw.df hn ha hb (by omega)
    refine ⟨⟨fun _ => Or.inl (by omega), fun _ a b ha hb hab => absurd (hno a b ha hb) hab⟩, ⟨fun _ => ?_, fun _ => by omega⟩, by omega, by omega⟩
    rcases Nat.lt_or_ge n 2 with q | q
    · exact q
    · exact absurd (hno 0 1 (by omega) (by omega)) (by decide)
  · have ra := hw.ch hn a ha
    have rb := hw.ch hn b hb
    have h3' : 0 < (V (6 + 2 * a)).toInt - (V (6 + 2 * b)).toInt := h3
    have h4' : x = (V (6 + 2 * a)).toInt - (V (6 + 2 * b)).toInt := h4
    refine ⟨⟨fun hs => Or.inr ?_, fun hx c d hc hd hcd hz => ?_⟩, ⟨fun q => by omega, fun q => ?_⟩, by omega, by omega⟩
    · have hab : a ≠ b := fun e => by rw [e] at h3'; omega
      rcases Classical.em (sp ≤ x) with q | q
      · exact q
      · refine absurd ?_ (hs a b ha hb hab)
        show (1 - sp) ≤ ((V (6 + 2 * a)).toInt - (V (6 + 2 * b)).toInt) ∧ ((V (6 + 2 * a)).toInt - (V (6 + 2 * b)).toInt) ≤ (sp - 1)
        omega
    · have hz' : (1 - sp) ≤ ((V (6 + 2 * c)).toInt - (V (6 + 2 * d)).toInt) ∧ ((V (6 + 2 * c)).toInt - (V (6 + 2 * d)).toInt) ≤ (sp - 1) := hz
      have e : (V (6 + 2 * c)).toInt ≠ (V (6 + 2 * d)).toInt := fun e => hcd (hw.df hn hc hd e)
      have q1 : 0 < (V (6 + 2 * c)).toInt - (V (6 + 2 * d)).toInt → x ≤ (V (6 + 2 * c)).toInt - (V (6 + 2 * d)).toInt := h5 c d ⟨hc, hd⟩
      have q2 : 0 < (V (6 + 2 * d)).toInt - (V (6 + 2 * c)).toInt → x ≤ (V (6 + 2 * d)).toInt - (V (6 + 2 * c)).toInt := h5 d c ⟨hd, hc⟩
      rcases Int.lt_or_gt_of_ne e with w | w
      · have := q2 (by omega); omega
      · have := q1 (by omega); omega
    · have hab : a = b := by omega
      rw [hab] at h3'
      omega
/-- what must go -/
theorem rm_0 {V : Nat → Int32} {n b : Nat} (h : rmS V n b) : b = 0 ↔ ClR (DV V) (V 3).toInt (V 4).toInt n := by
  obtain ⟨h1, h2, h3⟩ := h
  constructor
  · intro e
    subst e
    exact all_Cl.mp h2
  · intro hc
    have p0 := popc_0
    rcases h3 0 (Nat.zero_le _) (all_Cl.mpr hc) with q | q
    · omega
    · omega
end PU1
