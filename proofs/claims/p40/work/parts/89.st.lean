section STA
/-! THE STATE as the law sees it: the desk's block V and the saved blocks H, the newest first. -/
def HI (H : List (Nat → Int32)) (mi : MI) : Prop := ∃ p : Nat, p < 4 ∧ H.length ≤ 4 ∧ (mi 17 1).toInt = (p : Int) ∧ (mi 17 2).toInt = (H.length : Int) ∧ ∀ j U, H[j]? = some U → WFV U ∧ DR (19 + 8 * ((p + 4 - j) % 4)) mi U
def ST (V : Nat → Int32) (H : List (Nat → Int32)) (mi : MI) (ml : MJ) : Prop := WFV V ∧ DR 1 mi V ∧ HI H mi ∧ (mi 58 1).toInt = 0 ∧ (ml 56 0 = 0 ∧ ml 57 0 = 0)
theorem HI.c {H : List (Nat → Int32)} {mi mj : MI} (h : HI H mi) (e : ∀ g, 17 ≤ g → g < 51 → mj g = mi g) : HI H mj := by
  obtain ⟨p, h1, h2, h3, h4, h5⟩ := h
  exact ⟨p, h1, h2, by rw [e 17 (by decide) (by decide)]; exact h3, by rw [e 17 (by decide) (by decide)]; exact h4, fun j U hj => ⟨(h5 j U hj).1, (h5 j U hj).2.fr (fun q hq => e _ (by omega) (by omega))⟩⟩
theorem ST.q {V : Nat → Int32} {H : List (Nat → Int32)} {mi mj : MI} {ml mk : MJ} (h : ST V H mi ml) (e : ∀ g, 1 ≤ g → (g < 51 ∨ g = 58) → mj g = mi g) (hz : mk 56 0 = 0 ∧ mk 57 0 = 0) : ST V H mj mk :=
  ⟨h.1, h.2.1.fr (fun q hq => e _ (by omega) (by omega)), h.2.2.1.c (fun g a b => e g (by omega) (Or.inl b)), by rw [e 58 (by decide) (Or.inr rfl)]; exact h.2.2.2.1, hz⟩
theorem ST.q2 {V : Nat → Int32} {H : List (Nat → Int32)} {mi mj : MI} {ml mk : MJ} (h : ST V H mi ml) (e : Fr [51, 52] mi mj) (hz : mk = ml) : ST V H mj mk := h.q (fun g a b => e g (by simp; omega)) (by rw [hz]; exact h.2.2.2.2)
theorem ST.q2z {V : Nat → Int32} {H : List (Nat → Int32)} {mi mj : MI} {ml mk : MJ} (h : ST V H mi ml) (e : Fr [51, 52] mi mj) (hz : mk 56 0 = 0 ∧ mk 57 0 = 0) : ST V H mj mk := h.q (fun g a b => e g (by simp; omega)) hz
theorem ST.q3 {V : Nat → Int32} {H : List (Nat → Int32)} {mi mj : MI} {ml mk : MJ} (h : ST V H mi ml) (e : Fr [53, 54, 55] mi mj) (hz : mk 56 0 = 0 ∧ mk 57 0 = 0) : ST V H mj mk := h.q (fun g a b => e g (by simp; omega)) hz
theorem ST.ps {V V' : Nat → Int32} {H : List (Nat → Int32)} {mi mk m9 : MI} {ml mq : MJ} {p : Nat} (S : ST V H mi ml) (hp : (mi 17 1).toInt = (p : Int)) (hp4 : p < 4) (hP : PUS p H.length mi mk) (e : ∀ g, 9 ≤ g → (g < 51 ∨ g = 58) → m9 g = mk g) (hV : WFV V' ∧ DR 1 m9 V') (hz : mq 56 0 = 0 ∧ mq 57 0 = 0) : ST V' ((V :: H).take 4) m9 mq := by
  obtain ⟨hW, hD, ⟨p', q1, q2, q3, q4, q5⟩, hN, _⟩ := S
  obtain rfl : p = p' := by omega
  obtain ⟨f1, f2, f3, f4⟩ := hP
  refine ⟨hV.1, hV.2, ⟨(p + 1) % 4, by omega, by rw [List.length_take]; omega, by rw [e 17 (by decide) (by decide)]; exact f2, ?_, fun j U hj => ?_⟩, by rw [e 58 (by decide) (by decide), f1 58 (by decide) (by omega)]; exact hN, hz⟩
  · rw [e 17 (by decide) (by decide), f3, List.length_take, List.length_cons, Nat.min_comm]
  · rw [List.getElem?_take] at hj
    by_cases hj4 : j < 4
    · rw [if_pos hj4] at hj
      match j, hj with
      | 0, hj =>
        cases hj
        refine ⟨hW, ?_⟩
        rw [show ((p + 1) % 4 + 4 - 0) % 4 = (p + 1) % 4 by omega]
        exact (f4 V hW hD).fr (fun q hq => e _ (by omega) (by omega))
      | i + 1, hj =>
        obtain ⟨w1, w2⟩ := q5 i U hj
        refine ⟨w1, ?_⟩
        rw [show ((p + 1) % 4 + 4 - (i + 1)) % 4 = (p + 4 - i) % 4 by omega]
        exact w2.fr (fun q hq => by rw [e _ (by omega) (by omega)]; exact f1 _ (by omega) (by omega))
    · rw [if_neg hj4] at hj; cases hj
theorem ST.un {V U : Nat → Int32} {H : List (Nat → Int32)} {mi m9 : MI} {ml : MJ} {p : Nat} (S : ST V (U :: H) mi ml) (hp : (mi 17 1).toInt = (p : Int)) (hP : POS p (U :: H).length mi m9) : ST U H m9 ml := by
  obtain ⟨hW, hD, ⟨p', q1, q2, q3, q4, q5⟩, hN, hz⟩ := S
  obtain rfl : p = p' := by omega
  obtain ⟨f1, f2, f3, f4⟩ := hP
  obtain ⟨w1, w2⟩ := q5 0 U rfl
  rw [show (p + 4 - 0) % 4 = p by omega] at w2
  rw [List.length_cons] at q2 f3
  refine ⟨w1, f4 U w1 w2, ⟨(p + 3) % 4, by omega, by omega, f2, by rw [f3]; omega, fun j X hj => ?_⟩, by rw [f1 58 (by decide) (by omega)]; exact hN, hz⟩
  have hjl := (List.getElem?_eq_some_iff.mp hj).1
  obtain ⟨u1, u2⟩ := q5 (j + 1) X hj
  refine ⟨u1, ?_⟩
  rw [show ((p + 3) % 4 + 4 - j) % 4 = (p + 4 - (j + 1)) % 4 by omega]
  exact u2.fr (fun q hq => f1 _ (by omega) (by omega))
/-! The blocks behind a change. -/
def addV (V : Nat → Int32) (n : Nat) (c v : Int32) : Nat → Int32 := fun k => if k = 5 then V 5 + 1 else if k = 6 + 2 * n then c else if k = 7 + 2 * n then v else if k = 32 then 0 else V k
def movV (V : Nat → Int32) (b : Nat) (c v : Int32) : Nat → Int32 := fun k => if k = 6 + 2 * b then c else if k = 7 + 2 * b then v else if k = 32 then 0 else V k
def prdV (V : Nat → Int32) (a b c : Int32) : Nat → Int32 := fun k => if k = 0 then a else if k = 1 then b else if k = 2 then c else if k = 32 then 0 else V k
def spcV (V : Nat → Int32) (a b : Int32) : Nat → Int32 := fun k => if k = 3 then a else if k = 4 then b else if k = 32 then 0 else V k
def mixV (V : Nat → Int32) (m : Nat) (a : Int32) : Nat → Int32 := fun k => if k = 26 then V 26 + 1 else if k = 27 + m then a else if k = 32 then 0 else V k
def memV (V : Nat → Int32) (b : Nat) (r : Int32) : Nat → Int32 := fun k => if k = 27 + b then r else if k = 32 then 0 else V k
def remV (V : Nat → Int32) (c : Nat) (low : Int32) : Nat → Int32 := fun k => if k = 5 then V 5 - 1 else if k = 32 then 0 else if 6 + 2 * c ≤ k ∧ k < 26 then V (k + 2) else if 27 ≤ k ∧ k < 32 then rmB (V k) low else V k
def shfV (V : Nat → Int32) (n : Nat) (a : Int32) : Nat → Int32 := fun k => if k = 32 then 0 else if 6 ≤ k ∧ k < 6 + 2 * n ∧ k % 2 = 0 then V k + a else V k
theorem PUS.em {p sz : Nat} {mi mk : MI} (h : PUS p sz mi mk) : ∀ g, 1 ≤ g → g < 9 → mk g = mi g := fun g _ hg => h.1 g (by omega) (by omega)
theorem not_tk {V : Nat → Int32} {n : Nat} {e : Int} {c : Int32} (h : ¬ tkV V n e c) : ∀ j : Nat, j < n → (j : Int) ≠ e → V (6 + 2 * j) ≠ c := fun j hj he q => h ⟨j, hj, he, q⟩
theorem st_ac {V : Nat → Int32} {H : List (Nat → Int32)} {mi mk m9 : MI} {ml mq : MJ} {p : Nat} {c v : Int32} (S : ST V H mi ml) (hp : (mi 17 1).toInt = (p : Int)) (hp4 : p < 4) (hP : PUS p H.length mi mk) (hz : mq 56 0 = 0 ∧ mq 57 0 = 0) (hn10 : nV V < 10) (hc : 0 ≤ c.toInt ∧ c.toInt < 64) (hv : 0 ≤ v.toInt ∧ v.toInt ≤ 60) (hk : ¬ tkV V (nV V) (-1) c) (e9 : u2 (u2 (u2 (u2 mk 1 5 (V 5 + 1)) 2 (nV V) c) 3 (nV V) v) 1 10 0 = m9) : ST (addV V (nV V) c v) ((V :: H).take 4) m9 mq := by
  have wn := wf_n S.1
  refine S.ps hp hp4 hP (fun g g1 g2 => ?_) (ch_ac S.1 S.2.1 wn.1 hn10 hc hv (fun j hj => not_tk hk j hj (by omega)) hP.em e9 ?_ ?_ ?_ ?_ ?_) hz
  · rw [← e9, u2_p (by omega), u2_p (by omega), u2_p (by omega), u2_p (by omega)]
  · show (V 5 + 1).toInt = (nV V : Int) + 1
    exact tI_add wn.1 rfl (by omega)
  · unfold addV; rw [if_neg (by omega), if_pos rfl]
  · unfold addV; rw [if_neg (by omega), if_neg (by omega), if_pos rfl]
  · unfold addV; rw [if_neg (by omega), if_neg (by omega), if_neg (by omega), if_pos rfl]
  · intro k k1 k2 k3 k4
    unfold addV; rw [if_neg k1, if_neg k2, if_neg k3, if_neg k4]
theorem st_mv {V : Nat → Int32} {H : List (Nat → Int32)} {mi mk m9 : MI} {ml mq : MJ} {p b : Nat} {c v : Int32} (S : ST V H mi ml) (hp : (mi 17 1).toInt = (p : Int)) (hp4 : p < 4) (hP : PUS p H.length mi mk) (hz : mq 56 0 = 0 ∧ mq 57 0 = 0) (hb : b < nV V) (hc : 0 ≤ c.toInt ∧ c.toInt < 64) (hv : 0 ≤ v.toInt ∧ v.toInt ≤ 60) (hk : ¬ tkV V (nV V) (b : Int) c) (e9 : u2 (u2 (u2 mk 2 b c) 3 b v) 1 10 0 = m9) : ST (movV V b c v) ((V :: H).take 4) m9 mq := by
  have wn := wf_n S.1
  refine S.ps hp hp4 hP (fun g g1 g2 => ?_) (ch_mv S.1 S.2.1 wn.1 wn.2 hb hc hv (fun j hj hjb => not_tk hk j hj (by omega)) hP.em e9 ?_ ?_ ?_ ?_) hz
  · rw [← e9, u2_p (by omega), u2_p (by omega), u2_p (by omega)]
  · unfold movV; rw [if_pos rfl]
  · unfold movV; rw [if_neg (by omega), if_pos rfl]
  · unfold movV; rw [if_neg (by omega), if_neg (by omega), if_pos rfl]
  · intro k k1 k2 k3
    unfold movV; rw [if_neg k1, if_neg k2, if_neg k3]
theorem st_rm {V : Nat → Int32} {H : List (Nat → Int32)} {mi mk m9 : MI} {ml mq : MJ} {p b : Nat} {q : Int32} (S : ST V H mi ml) (hp : (mi 17 1).toInt = (p : Int)) (hp4 : p < 4) (hP : PUS p H.length mi mk) (hz : mq 56 0 = 0 ∧ mq 57 0 = 0) (hb : b < nV V) (hq : q.toInt = (b : Int)) (hT : TOS 1 mk m9 b (nV V) (mV V) (((1 : Int32) <<< (q &&& 31)) - 1)) : ST (remV V b (((1 : Int32) <<< (q &&& 31)) - 1)) ((V :: H).take 4) m9 mq := by
  have wn := wf_n S.1
  have wm := wf_m S.1
  refine S.ps hp hp4 hP (fun g g1 g2 => hT.1 g (by simp; omega)) (ch_rm S.1 S.2.1 wn.1 wn.2 wm.1 hb hq hP.em hT ?_ ?_ ?_ ?_ ?_ ?_) hz
  · intro j j1 j2
    unfold remV
    rw [if_neg (by omega), if_neg (by omega), if_pos (by omega), if_neg (by omega), if_neg (by omega), if_pos (by omega)]
    exact ⟨by rw [show 6 + 2 * j + 2 = 6 + 2 * (j + 1) by omega], by rw [show 7 + 2 * j + 2 = 7 + 2 * (j + 1) by omega]⟩
  · intro k hk
    unfold remV
    rw [if_neg (by omega), if_neg (by omega), if_neg (by omega), if_pos (by omega)]
  · intro k k1 k2
    unfold remV
    rw [if_neg k2, if_neg (by omega), if_neg (by omega), if_neg (by omega)]
  · unfold remV
    rw [if_neg (by decide), if_neg (by decide), if_neg (by omega), if_neg (by omega)]
  · show (V 5 - 1).toInt = (nV V : Int) - 1
    exact tI_sub wn.1 rfl (by omega)
  · unfold remV
    rw [if_neg (by decide), if_pos rfl]
theorem st_sh {V : Nat → Int32} {H : List (Nat → Int32)} {mi mk m1 m9 : MI} {ml mq : MJ} {p : Nat} {a : Int32} {B : Int} (S : ST V H mi ml) (hp : (mi 17 1).toInt = (p : Int)) (hp4 : p < 4) (hP : PUS p H.length mi mk) (hz : mq 56 0 = 0 ∧ mq 57 0 = 0) (hB : a.toInt = B) (hB2 : -64 < B ∧ B < 64) (hr : ∀ j, j < nV V → (0 ≤ (V (6 + 2 * j)).toInt + B ∧ (V (6 + 2 * j)).toInt + B < 64)) (hS : SHI 1 a mk m1 (nV V)) (e9 : u2 m1 1 10 0 = m9) : ST (shfV V (nV V) a) ((V :: H).take 4) m9 mq := by
  have wn := wf_n S.1
  refine S.ps hp hp4 hP (fun g g1 g2 => by rw [← e9, u2_p (by omega)]; exact hS.1 g (by simp; omega)) (ch_sh S.1 S.2.1 wn.1 wn.2 hB hB2 hr hP.em hS e9 ?_ ?_ ?_) hz
  · intro j hj
    have hc := S.1.ch wn.1 j hj
    have h1 := hr j hj
    unfold shfV
    rw [if_neg (by omega), if_pos (by omega), if_neg (by omega), if_neg (by omega)]
    exact ⟨tI_add rfl hB (by omega), rfl⟩
  · unfold shfV; rw [if_pos rfl]
  · intro k k1 k2
    unfold shfV; rw [if_neg k2, if_neg (by omega)]
theorem st_pr {V : Nat → Int32} {H : List (Nat → Int32)} {mi mk m9 : MI} {ml mq : MJ} {p : Nat} {a b c : Int32} (S : ST V H mi ml) (hp : (mi 17 1).toInt = (p : Int)) (hp4 : p < 4) (hP : PUS p H.length mi mk) (hz : mq 56 0 = 0 ∧ mq 57 0 = 0) (ha : 0 ≤ a.toInt ∧ a.toInt ≤ 7) (hb : 0 ≤ b.toInt ∧ b.toInt ≤ 300) (hc : 0 ≤ c.toInt ∧ c.toInt ≤ 300) (e9 : u2 (u2 (u2 (u2 mk 1 0 a) 1 1 b) 1 2 c) 1 10 0 = m9) : ST (prdV V a b c) ((V :: H).take 4) m9 mq := by
  have h1 := S.1.1
  have hD := S.2.1.1
  have em := hP.em 1 (by decide) (by decide)
  refine S.ps hp hp4 hP (fun g g1 g2 => by rw [← e9, u2_p (by omega), u2_p (by omega), u2_p (by omega), u2_p (by omega)]) (ch_st S.1 S.2.1 hP.em ?_ ?_ ?_ ?_ ?_ ?_ ?_ ⟨ha, hb, hc, h1.2.2.2.1, h1.2.2.2.2⟩) hz
  · intro k hk
    rcases (by omega : k = 0 ∨ k = 1 ∨ k = 2 ∨ k = 3 ∨ k = 4) with q | q | q | q | q <;> subst q
    · rw [← e9, u2_n (by omega), u2_n (by omega), u2_n (by omega), u2_s]; rfl
    · rw [← e9, u2_n (by omega), u2_n (by omega), u2_s]; rfl
    · rw [← e9, u2_n (by omega), u2_s]; rfl
    · rw [← e9, u2_n (by omega), u2_n (by omega), u2_n (by omega), u2_n (by omega), em]; exact hD.2.2.2.1
    · rw [← e9, u2_n (by omega), u2_n (by omega), u2_n (by omega), u2_n (by omega), em]; exact hD.2.2.2.2
  · rw [← e9, u2_n (by omega), u2_n (by omega), u2_n (by omega), u2_n (by omega)]
  · rw [← e9, u2_n (by omega), u2_n (by omega), u2_n (by omega), u2_n (by omega)]
  · rw [← e9, u2_s]
  · intro g g1 g2
    rw [← e9, u2_p (by omega), u2_p (by omega), u2_p (by omega), u2_p (by omega)]
  · rfl
  · intro k k1 k2
    unfold prdV; rw [if_neg (by omega), if_neg (by omega), if_neg (by omega), if_neg k2]
theorem st_sp {V : Nat → Int32} {H : List (Nat → Int32)} {mi mk m9 : MI} {ml mq : MJ} {p : Nat} {a b : Int32} (S : ST V H mi ml) (hp : (mi 17 1).toInt = (p : Int)) (hp4 : p < 4) (hP : PUS p H.length mi mk) (hz : mq 56 0 = 0 ∧ mq 57 0 = 0) (ha : 0 ≤ a.toInt ∧ a.toInt ≤ 5) (hb : 1 ≤ b.toInt ∧ b.toInt ≤ 10) (e9 : u2 (u2 (u2 mk 1 3 a) 1 4 b) 1 10 0 = m9) : ST (spcV V a b) ((V :: H).take 4) m9 mq := by
  have h1 := S.1.1
  have hD := S.2.1.1
  have em := hP.em 1 (by decide) (by decide)
  refine S.ps hp hp4 hP (fun g g1 g2 => by rw [← e9, u2_p (by omega), u2_p (by omega), u2_p (by omega)]) (ch_st S.1 S.2.1 hP.em ?_ ?_ ?_ ?_ ?_ ?_ ?_ ⟨h1.1, h1.2.1, h1.2.2.1, ha, hb⟩) hz
  · intro k hk
    rcases (by omega : k = 0 ∨ k = 1 ∨ k = 2 ∨ k = 3 ∨ k = 4) with q | q | q | q | q <;> subst q
    · rw [← e9, u2_n (by omega), u2_n (by omega), u2_n (by omega), em]; exact hD.1
    · rw [← e9, u2_n (by omega), u2_n (by omega), u2_n (by omega), em]; exact hD.2.1
    · rw [← e9, u2_n (by omega), u2_n (by omega), u2_n (by omega), em]; exact hD.2.2.1
    · rw [← e9, u2_n (by omega), u2_n (by omega), u2_s]; rfl
    · rw [← e9, u2_n (by omega), u2_s]; rfl
  · rw [← e9, u2_n (by omega), u2_n (by omega), u2_n (by omega)]
  · rw [← e9, u2_n (by omega), u2_n (by omega), u2_n (by omega)]
  · rw [← e9, u2_s]
  · intro g g1 g2
    rw [← e9, u2_p (by omega), u2_p (by omega), u2_p (by omega)]
  · rfl
  · intro k k1 k2
    unfold spcV; rw [if_neg (by omega), if_neg (by omega), if_neg k2]
theorem st_mx {V : Nat → Int32} {H : List (Nat → Int32)} {mi mk m9 : MI} {ml mq : MJ} {p : Nat} {a : Int32} (S : ST V H mi ml) (hp : (mi 17 1).toInt = (p : Int)) (hp4 : p < 4) (hP : PUS p H.length mi mk) (hz : mq 56 0 = 0 ∧ mq 57 0 = 0) (hm : mV V < 5) (ha : 0 ≤ a.toInt ∧ a.toInt ≤ ((2 ^ nV V - 1 : Nat) : Int)) (e9 : u2 (u2 (u2 mk 1 8 (V 26 + 1)) 4 (mV V) a) 1 10 0 = m9) : ST (mixV V (mV V) a) ((V :: H).take 4) m9 mq := by
  have wm := wf_m S.1
  have hp2 := Nat.two_pow_pos (nV V)
  have em := hP.em
  refine S.ps hp hp4 hP (fun g g1 g2 => by rw [← e9, u2_p (by omega), u2_p (by omega), u2_p (by omega)]) (ch_mx (m' := mV V + 1) S.1 S.2.1 hP.em ?_ ?_ ?_ ?_ ?_ ?_ ?_ (by omega) ?_ ?_ ?_) hz
  · intro k k1 k2
    rw [← e9, u2_n (by omega), u2_n (by omega), u2_n (by omega)]
  · rw [← e9, u2_n (by omega), u2_n (by omega), u2_s]; rfl
  · rw [← e9, u2_s]
  · rw [← e9, u2_p (by omega), u2_p (by omega), u2_p (by omega)]
  · rw [← e9, u2_p (by omega), u2_p (by omega), u2_p (by omega)]
  · intro k hk
    unfold mixV
    rw [if_neg (by omega)]
    rcases Nat.lt_or_ge k (mV V) with q | q
    · rw [if_neg (by omega), if_neg (by omega), ← e9, u2_n (by omega), u2_n (by omega), u2_n (by omega), em 4 (by decide) (by decide)]
      exact S.2.1.2.2.2.1 k (by omega)
    · obtain rfl : k = mV V := by omega
      rw [if_pos rfl, ← e9, u2_n (by omega), u2_s]
  · show (V 26 + 1).toInt = ((mV V + 1 : Nat) : Int)
    exact (tI_add wm.1 (show (1 : Int32).toInt = 1 from rfl) (by omega)).trans (by omega)
  · unfold mixV; rw [if_neg (by omega), if_neg (by omega), if_pos rfl]
  · intro k hk
    unfold mixV; rw [if_neg (by omega), if_neg (by omega), if_neg (by omega)]
  · intro k hk
    show 0 ≤ (mixV V (mV V) a (27 + k)).toInt ∧ (mixV V (mV V) a (27 + k)).toInt < ((2 ^ nV V : Nat) : Int)
    unfold mixV
    rw [if_neg (by omega)]
    rcases Nat.lt_or_ge k (mV V) with q | q
    · rw [if_neg (by omega), if_neg (by omega)]
      exact S.1.2.2.2.2.1 k (by omega)
    · obtain rfl : k = mV V := by omega
      rw [if_pos rfl]
      omega
theorem st_me {V : Nat → Int32} {H : List (Nat → Int32)} {mi mk m9 : MI} {ml mq : MJ} {p b : Nat} {r : Int32} (S : ST V H mi ml) (hp : (mi 17 1).toInt = (p : Int)) (hp4 : p < 4) (hP : PUS p H.length mi mk) (hz : mq 56 0 = 0 ∧ mq 57 0 = 0) (hb : b < mV V) (hr : 0 ≤ r.toInt ∧ r.toInt < ((2 ^ nV V : Nat) : Int)) (e9 : u2 (u2 mk 4 b r) 1 10 0 = m9) : ST (memV V b r) ((V :: H).take 4) m9 mq := by
  have wm := wf_m S.1
  have em := hP.em
  refine S.ps hp hp4 hP (fun g g1 g2 => by rw [← e9, u2_p (by omega), u2_p (by omega)]) (ch_mx (m' := mV V) S.1 S.2.1 hP.em ?_ ?_ ?_ ?_ ?_ ?_ ?_ wm.2 ?_ ?_ ?_) hz
  · intro k k1 k2
    rw [← e9, u2_n (by omega), u2_n (by omega)]
  · rw [← e9, u2_n (by omega), u2_n (by omega), em 1 (by decide) (by decide)]
    unfold memV
    rw [if_neg (by omega), if_neg (by omega)]
    exact S.2.1.2.1.2.1
  · rw [← e9, u2_s]
  · rw [← e9, u2_p (by omega), u2_p (by omega)]
  · rw [← e9, u2_p (by omega), u2_p (by omega)]
  · intro k hk
    unfold memV
    by_cases q : k = b
    · subst q
      rw [if_pos rfl, ← e9, u2_n (by omega), u2_s]
    · rw [if_neg (by omega), if_neg (by omega), ← e9, u2_n (by omega), u2_n (by omega), em 4 (by decide) (by decide)]
      exact S.2.1.2.2.2.1 k (by omega)
  · unfold memV; rw [if_neg (by omega), if_neg (by omega)]; exact wm.1
  · unfold memV; rw [if_neg (by omega), if_pos rfl]
  · intro k hk
    unfold memV; rw [if_neg (by omega), if_neg (by omega)]
  · intro k hk
    show 0 ≤ (memV V b r (27 + k)).toInt ∧ (memV V b r (27 + k)).toInt < ((2 ^ nV V : Nat) : Int)
    unfold memV
    by_cases q : k = b
    · subst q; rw [if_pos rfl]; exact hr
    · rw [if_neg (by omega), if_neg (by omega)]
      exact S.1.2.2.2.2.1 k (by omega)
end STA
