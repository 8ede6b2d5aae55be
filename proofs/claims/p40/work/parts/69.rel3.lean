section RL3
theorem nm1 : (-1 : Int32) = nI (2 ^ 32 - 1) := by decide
theorem hf_1 : ∀ s, s < 1024 → (nI s >>> ((1 : Int32) &&& 31)) = nI (s / 2) := by decide +kernel
theorem pw_m : ∀ c, c < 10 → ((1 : Int32) <<< (nI c &&& 31)) - 1 = nI (2 ^ c - 1) := by decide +kernel
/-- a mixer's carriers when carrier c goes -/
theorem rmB_lt {x : Int32} {s c n : Nat} (hx : x.toInt = (s : Int)) (hs : s < 2 ^ n) (hc : c < n) (h10 : n ≤ 10) {xc : Int32} (hxc : xc.toInt = (c : Int)) : 0 ≤ (rmB x (((1 : Int32) <<< (xc &&& 31)) - 1)).toInt ∧ (rmB x (((1 : Int32) <<< (xc &&& 31)) - 1)).toInt < ((2 ^ (n - 1) : Nat) : Int) := by
  have h1024 := p2_mono h10
  have hs2 : s / 2 < 2 ^ (n - 1) := by
    have e : (2 : Nat) ^ n = 2 ^ (n - 1) * 2 := by rw [← Nat.pow_succ]; congr 1; omega
    omega
  have hp : (2 : Nat) ^ c ≤ 2 ^ (n - 1) := p2_mono (by omega)
  have hcp := Nat.two_pow_pos c
  have e1 : rmB x (((1 : Int32) <<< (xc &&& 31)) - 1) = nI ((s &&& (2 ^ c - 1)) ||| ((s / 2) &&& ((2 ^ c - 1) ^^^ (2 ^ 32 - 1)))) := by
    unfold rmB
    rw [tI_nIx hx, tI_nIx hxc, pw_m c (by omega), hf_1 s (by omega), nm1, nx_and, nx_xor, nx_and, nx_or]
  have h2 : (s &&& (2 ^ c - 1)) ||| ((s / 2) &&& ((2 ^ c - 1) ^^^ (2 ^ 32 - 1))) < 2 ^ (n - 1) := by
    refine Nat.or_lt_two_pow ?_ ?_
    · have := Nat.and_le_right (n := s) (m := 2 ^ c - 1); omega
    · exact Nat.lt_of_le_of_lt Nat.and_le_left hs2
  have h3 := p2_mono (show n - 1 ≤ 10 by omega)
  rw [e1, tI_nI (by omega)]
  omega
/-- a carrier gone -/
theorem ch_rm {mi mk m9 : MI} {V V' : Nat → Int32} {n m c : Nat} {xc : Int32} (hw : WFV V) (hD : DR 1 mi V) (hn : (V 5).toInt = (n : Int)) (h10 : n ≤ 10) (hm : (V 26).toInt = (m : Int)) (hc : c < n) (hxc : xc.toInt = (c : Int)) (em : ∀ g, 1 ≤ g → g < 9 → mk g = mi g)
    (hT : TOS 1 mk m9 c n m (((1 : Int32) <<< (xc &&& 31)) - 1)) (v1 : ∀ j, c ≤ j → j + 1 < n → V' (6 + 2 * j) = V (6 + 2 * (j + 1)) ∧ V' (7 + 2 * j) = V (7 + 2 * (j + 1))) (v2 : ∀ k, k < m → V' (27 + k) = rmB (V (27 + k)) (((1 : Int32) <<< (xc &&& 31)) - 1)) (v3 : ∀ k, k < 6 + 2 * c → k ≠ 5 → V' k = V k) (v26 : V' 26 = V 26) (v5 : (V' 5).toInt = (n : Int) - 1) (v32 : V' 32 = 0) : WFV V' ∧ DR 1 m9 V' := by
  obtain ⟨d1, d2, d3, d4, d5⟩ := hD
  obtain ⟨_, t1, t2, t3, t4, t5⟩ := hT
  have er := em 1 (by decide) (by decide)
  have h26 := hw.2.1.2.1
  -- the carriers behind it come down
  have cv : ∀ j, j + 1 < n → V' (6 + 2 * j) = V (6 + 2 * (if j < c then j else j + 1)) ∧ V' (7 + 2 * j) = V (7 + 2 * (if j < c then j else j + 1)) := by
    intro j hj
    rcases Nat.lt_or_ge j c with q | q
    · rw [if_pos q]; exact ⟨v3 _ (by omega) (by omega), v3 _ (by omega) (by omega)⟩
    · rw [if_neg (by omega)]; exact v1 j q hj
  constructor
  · refine WFV_t0 v32 ?_ ?_ (fun j hj => ?_) (fun x y hx hy hab => ?_) (fun k hk2 => ?_)
    · rw [v3 0 (by omega) (by decide), v3 1 (by omega) (by decide), v3 2 (by omega) (by decide), v3 3 (by omega) (by decide), v3 4 (by omega) (by decide)]; exact hw.1
    · rw [v5, v26]; exact ⟨by omega, hw.2.1.2.1⟩
    · rw [v5] at hj
      rw [(cv j (by omega)).1, (cv j (by omega)).2]
      exact hw.2.2.1 _ (by split <;> omega)
    · rw [v5] at hx hy
      rw [(cv x (by omega)).1, (cv y (by omega)).1] at hab
      have h := hw.2.2.2.1 (if x < c then x else x + 1) (if y < c then y else y + 1) (by split <;> omega) (by split <;> omega) hab
      split at h <;> split at h <;> omega
    · rw [v26, hm] at hk2
      have h6 := hw.2.2.2.2.1 k (by omega)
      rw [v2 k (by omega), v5, show ((n : Int) - 1).toNat = n - 1 by omega]
      rw [show (V 5).toInt.toNat = n by omega] at h6
      obtain ⟨s, hs⟩ : ∃ s : Nat, (V (27 + k)).toInt = (s : Int) := ⟨(V (27 + k)).toInt.toNat, by omega⟩
      exact rmB_lt hs (by omega) hc h10 hxc
  · refine DR_t0 ?_ ?_ ?_ t3 v32 (fun j hj => ?_) (fun k hk2 => ?_)
    · rw [t1 0 (by decide) (by decide), t1 1 (by decide) (by decide), t1 2 (by decide) (by decide), t1 3 (by decide) (by decide), t1 4 (by decide) (by decide), er, v3 0 (by omega) (by decide), v3 1 (by omega) (by decide), v3 2 (by omega) (by decide), v3 3 (by omega) (by decide), v3 4 (by omega) (by decide)]; exact d1
    · rw [t2, er, d2.1]
      exact tI_eq (tI_sub hn (show (1 : Int32).toInt = 1 from rfl) (by omega)) v5 rfl
    · rw [t1 8 (by decide) (by decide), er, v26]; exact d2.2.1
    · rw [v5] at hj
      have h := t4 j (by omega)
      have q2 : m9 2 j = delR (mk 2) c j := h.1
      have q3 : m9 3 j = delR (mk 3) c j := h.2
      rw [q2, q3, em 2 (by decide) (by decide), em 3 (by decide) (by decide), (cv j (by omega)).1, (cv j (by omega)).2]
      unfold delR
      rcases Nat.lt_or_ge j c with q | q
      · rw [if_pos q, if_pos q, if_pos q]; exact d3 j (by omega)
      · rw [if_neg (by omega), if_neg (by omega), if_neg (by omega)]; exact d3 (j + 1) (by omega)
    · rw [v26] at hk2
      have h : m9 4 k = rmB (mk 4 k) (((1 : Int32) <<< (xc &&& 31)) - 1) := t5 k (by omega)
      rw [h, em 4 (by decide) (by decide), v2 k (by omega)]
      rw [show mi 4 k = V (27 + k) from d4 k hk2]
/-- all carriers shifted -/
theorem ch_sh {mi mk m1 m9 : MI} {V V' : Nat → Int32} {n : Nat} {a : Int32} {B : Int} (hw : WFV V) (hD : DR 1 mi V) (hn : (V 5).toInt = (n : Int)) (h10 : n ≤ 10) (hB : a.toInt = B) (hB2 : -64 < B ∧ B < 64) (hr : ∀ j, j < n → (0 ≤ (V (6 + 2 * j)).toInt + B ∧ (V (6 + 2 * j)).toInt + B < 64)) (em : ∀ g, 1 ≤ g → g < 9 → mk g = mi g)
    (hS : SHI 1 a mk m1 n) (e9 : u2 m1 1 10 0 = m9) (v1 : ∀ j, j < n → (V' (6 + 2 * j)).toInt = (V (6 + 2 * j)).toInt + B ∧ V' (7 + 2 * j) = V (7 + 2 * j)) (v32 : V' 32 = 0) (ve : ∀ k, (k < 6 ∨ 6 + 2 * n ≤ k) → k ≠ 32 → V' k = V k) : WFV V' ∧ DR 1 m9 V' := by
  obtain ⟨d1, d2, d3, d4, d5⟩ := hD
  obtain ⟨s1, s2, s3, s4, s5⟩ := hS
  have e5 : V' 5 = V 5 := ve 5 (by omega) (by decide)
  have e26 : V' 26 = V 26 := ve 26 (by omega) (by decide)
  have er := em 1 (by decide) (by decide)
  have h26 := hw.2.1.2.1
  have r1 : ∀ k, k ≠ 10 → m9 1 k = mi 1 k := fun k hk => by rw [← e9, u2_n (Or.inr hk), s2 k hk, er]
  constructor
  · refine WFV_t0 v32 ?_ ?_ (fun j hj => ?_) (fun x y hx hy hab => ?_) (fun k hk2 => ?_)
    · rw [ve 0 (by omega) (by decide), ve 1 (by omega) (by decide), ve 2 (by omega) (by decide), ve 3 (by omega) (by decide), ve 4 (by omega) (by decide)]; exact hw.1
    · rw [e5, e26]; exact ⟨hw.2.1.1, hw.2.1.2.1⟩
    · rw [e5] at hj
      have h := hr j (by omega)
      rw [(v1 j (by omega)).1, (v1 j (by omega)).2]
      exact ⟨by omega, (hw.2.2.1 j hj).2⟩
    · rw [e5] at hx hy
      have h1 := (v1 x (by omega)).1
      have h2 := (v1 y (by omega)).1
      rw [hab] at h1
      exact hw.2.2.2.1 x y hx hy (Int32.toInt_inj.mp (by omega))
    · rw [e26] at hk2
      rw [ve (27 + k) (by omega) (by omega), e5]
      exact hw.2.2.2.2.1 k hk2
  · refine DR_t0 ?_ ?_ ?_ (by rw [← e9, u2_s]) v32 (fun j hj => ?_) (fun k hk2 => ?_)
    · rw [r1 0 (by decide), r1 1 (by decide), r1 2 (by decide), r1 3 (by decide), r1 4 (by decide), ve 0 (by omega) (by decide), ve 1 (by omega) (by decide), ve 2 (by omega) (by decide), ve 3 (by omega) (by decide), ve 4 (by omega) (by decide)]; exact d1
    · rw [r1 5 (by decide), e5]; exact d2.1
    · rw [r1 8 (by decide), e26]; exact d2.2.1
    · rw [e5] at hj
      have h := hr j (by omega)
      have q2 : m1 2 j = mk 2 j + a := s3 j (by omega)
      have q3 : m1 3 j = mk 3 j := s5 j
      have a2 : m9 2 j = mi 2 j + a := by rw [← e9, u2_p (show (2 : Nat) ≠ 1 by decide), q2, em 2 (by decide) (by decide)]
      have a3 : m9 3 j = mi 3 j := by rw [← e9, u2_p (show (3 : Nat) ≠ 1 by decide), q3, em 3 (by decide) (by decide)]
      have q4 : mi 2 j = V (6 + 2 * j) := (d3 j hj).1
      have q5 : mi 3 j = V (7 + 2 * j) := (d3 j hj).2
      rw [a2, a3, q4, q5, (v1 j (by omega)).2]
      exact ⟨tI_eq (tI_add rfl hB (by omega)) (v1 j (by omega)).1 rfl, rfl⟩
    · rw [e26] at hk2
      have q1 : m1 4 = mk 4 := s1 4 (by decide)
      rw [← e9, u2_p (show (4 : Nat) ≠ 1 by decide), q1, em 4 (by decide) (by decide), ve (27 + k) (by omega) (by omega)]
      exact d4 k hk2
/-- the masks of setMember -/
theorem sm_eq {x y : Int32} : (x &&& (y ^^^ (-1))) ||| y = x ||| y := by
  refine b_ext (fun i hi => ?_)
  rw [b_or, b_or, b_and, b_xor, b_m1 i hi]
  cases bt x i <;> cases bt y i <;> rfl
theorem sm_y {x xd : Int32} {s d n : Nat} (hx : x.toInt = (s : Int)) (hs : s < 2 ^ n) (h10 : n ≤ 10) (hxd : xd.toInt = (d : Int)) (hd : d < n) : 0 ≤ (x ||| ((1 : Int32) <<< (xd &&& 31))).toInt ∧ (x ||| ((1 : Int32) <<< (xd &&& 31))).toInt < ((2 ^ n : Nat) : Int) := by
  have h1024 := p2_mono h10
  have h := Nat.or_lt_two_pow (n := n) hs (Nat.pow_lt_pow_right (by decide) hd)
  rw [or_pw hx hxd (by omega), tI_nI (by omega)]
  omega
theorem sm_n {x xd : Int32} {s d n : Nat} (hx : x.toInt = (s : Int)) (hs : s < 2 ^ n) (h10 : n ≤ 10) (hxd : xd.toInt = (d : Int)) (hd : d < n) : 0 ≤ (x &&& (((1 : Int32) <<< (xd &&& 31)) ^^^ (-1))).toInt ∧ (x &&& (((1 : Int32) <<< (xd &&& 31)) ^^^ (-1))).toInt < ((2 ^ n : Nat) : Int) := by
  have h1024 := p2_mono h10
  have e : (x &&& (((1 : Int32) <<< (xd &&& 31)) ^^^ (-1))) = nI (s &&& (2 ^ d ^^^ (2 ^ 32 - 1))) := by
    rw [tI_nIx hx, tI_nIx hxd, pw_10 d (by omega), nm1, nx_xor, nx_and]
  have h : s &&& (2 ^ d ^^^ (2 ^ 32 - 1)) ≤ s := Nat.and_le_left
  rw [e, tI_nI (by omega)]
  omega
end RL3
