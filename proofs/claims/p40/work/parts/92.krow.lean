section KRW
/-- the facts of a product -/
def prF (D : RD) (q : Q4) (j : Nat) : Int := if j = 0 then (q.1 : Int) else if j = 1 then (q.2.1 : Int) else if j = 2 then (q.2.2.1 : Int) else if j = 3 then (if q.1 = 1 then (q.2.2.2 : Int) else -1) else if j = 4 then pCh D q.1 q.2.1 q.2.2.1 q.2.2.2 else pLv D q.1 q.2.1 q.2.2.1 q.2.2.2
theorem encq_F {D : RD} {row : Nat → Int32} {i j : Nat} {q : Q4} (h : encq D row i q) (hj : j < 6) : (row (6 * i + j)).toInt = prF D q j := by
  obtain ⟨h0, h1, h2, h3, h4, h5⟩ := h
  rcases (by omega : j = 0 ∨ j = 1 ∨ j = 2 ∨ j = 3 ∨ j = 4 ∨ j = 5) with e | e | e | e | e | e <;> subst e
  · exact h0
  · exact h1
  · exact h2
  · exact h3
  · exact h4
  · exact h5
/-- may a carrier stand on c with v -/
def okC (V : Nat → Int32) (e : Int) (c v : Int32) : Prop := (0 ≤ c.toInt ∧ c.toInt < 64) ∧ (0 ≤ v.toInt ∧ v.toInt ≤ 60) ∧ ¬ tkV V (nV V) e c
abbrev okS (V : Nat → Int32) (a : Int32) : Prop := 0 ≤ a.toInt ∧ a.toInt ≤ ((2 ^ nV V - 1 : Nat) : Int)
set_option maxRecDepth 100000 in
theorem k_addCarrier (l : Launch) (hfl : l.stackTraces = false) {V : Nat → Int32} {H : List (Nat → Int32)} {mi : MI} {ml : MJ} (S : ST V H mi ml) (c v : Int32) : CtH l yL_addCarrier (.codeWith yL_addCarrier cL_addCarrier 4 (some .int) [((0 : Nat), (6 : Nat), (7 : Nat), (15 : Nat)), ((0 : Nat), (6 : Nat), (12 : Nat), (17 : Nat))]) 4 2 12 [.ref 0, .int c, .int v] (wl mi ml) (QI (fun r mi9 ml9 => ∃ V2 H2, ST V2 H2 mi9 ml9 ∧ ((¬ okC V (-1) c v ∧ r.toInt = -901 ∧ V = V2 ∧ H = H2) ∨ (okC V (-1) c v ∧ r.toInt = -902 ∧ nV V = 10 ∧ V = V2 ∧ H = H2) ∨ (okC V (-1) c v ∧ r.toInt = (nV V : Int) ∧ nV V < 10 ∧ addV V (nV V) c v = V2 ∧ (V :: H).take 4 = H2)))) noX := by
  obtain ⟨p, hp4, hs4, hp, hsz, hh⟩ := id S.2.2.1
  have wn := wf_n S.1
  have wm := wf_m S.1
  have wt := wf_t S.1
  have z9 := S.2.2.2.2
  refine CtH.mono (h_L_addCarrier l hfl mi ml V S.1 S.2.1 (nV V) wn.1 wn.2 p H.length hp hp4 hsz hs4 c v _ _ rfl rfl) (fun rv w hq => ?_)
  obtain ⟨r, mi9, ml9, e1, e2, hq⟩ := hq
  refine ⟨r, mi9, ml9, e1, e2, ?_⟩
  rcases hq with ⟨hml, hok, hn10, hr, mk, hP, e9⟩ | ⟨En, ⟨hmi, hml, hx⟩, hr⟩
  · subst hml
    exact ⟨_, _, st_ac S hp hp4 hP z9 hn10 hok.1 hok.2.1 hok.2.2 e9, Or.inr (Or.inr ⟨hok, hr, hn10, rfl, rfl⟩)⟩
  · subst hmi; subst hml
    rcases hx with ⟨e, hno⟩ | ⟨e, hok, hno⟩
    · subst e; exact ⟨V, H, S, Or.inl ⟨hno, by rw [hr, cThr_IA]; rfl, rfl, rfl⟩⟩
    · subst e; exact ⟨V, H, S, Or.inr (Or.inl ⟨hok, by rw [hr, cThr_IS]; rfl, by omega, rfl, rfl⟩)⟩
set_option maxRecDepth 100000 in
theorem k_moveCarrier (l : Launch) (hfl : l.stackTraces = false) {V : Nat → Int32} {H : List (Nat → Int32)} {mi : MI} {ml : MJ} (S : ST V H mi ml) (q c v : Int32) : CtH l yL_moveCarrier (.codeWith yL_moveCarrier cL_moveCarrier 5 (some .int) [((0 : Nat), (7 : Nat), (8 : Nat), (23 : Nat)), ((0 : Nat), (7 : Nat), (14 : Nat), (15 : Nat))]) 4 3 18 [.ref 0, .int q, .int c, .int v] (wl mi ml) (QI (fun r mi9 ml9 => ∃ V2 H2, ST V2 H2 mi9 ml9 ∧ ((¬ (0 ≤ q.toInt ∧ q.toInt < (nV V : Int)) ∧ r.toInt = -903 ∧ V = V2 ∧ H = H2) ∨ ((0 ≤ q.toInt ∧ q.toInt < (nV V : Int)) ∧ ¬ okC V q.toInt c v ∧ r.toInt = -901 ∧ V = V2 ∧ H = H2) ∨ (∃ b, b < nV V ∧ q.toInt = (b : Int) ∧ okC V (b : Int) c v ∧ r = V (6 + 2 * b) ∧ movV V b c v = V2 ∧ (V :: H).take 4 = H2)))) noX := by
  obtain ⟨p, hp4, hs4, hp, hsz, hh⟩ := id S.2.2.1
  have wn := wf_n S.1
  have wm := wf_m S.1
  have wt := wf_t S.1
  have z9 := S.2.2.2.2
  refine CtH.mono (h_L_moveCarrier l hfl mi ml V S.1 S.2.1 (nV V) wn.1 wn.2 p H.length hp hp4 hsz hs4 q _ rfl c v _ _ rfl rfl) (fun rv w hq => ?_)
  obtain ⟨r, mi9, ml9, e1, e2, hq⟩ := hq
  refine ⟨r, mi9, ml9, e1, e2, ?_⟩
  rcases hq with ⟨hml, hB, hok, b, mk, hb, hq2, hr, hP, e9⟩ | ⟨En, ⟨hmi, hml, hx⟩, hr⟩
  · subst hml
    rw [hq2] at hok
    exact ⟨_, _, st_mv S hp hp4 hP z9 hb hok.1 hok.2.1 hok.2.2 e9, Or.inr (Or.inr ⟨b, hb, hq2, hok, hr, rfl, rfl⟩)⟩
  · subst hmi; subst hml
    rcases hx with ⟨e, hno⟩ | ⟨e, hok, hno⟩
    · subst e; exact ⟨V, H, S, Or.inl ⟨hno, by rw [hr, cThr_IO]; rfl, rfl, rfl⟩⟩
    · subst e; exact ⟨V, H, S, Or.inr (Or.inl ⟨hok, hno, by rw [hr, cThr_IA]; rfl, rfl, rfl⟩)⟩
set_option maxRecDepth 100000 in
theorem k_removeCarrier (l : Launch) (hfl : l.stackTraces = false) {V : Nat → Int32} {H : List (Nat → Int32)} {mi : MI} {ml : MJ} (S : ST V H mi ml) (q : Int32) : CtH l yL_removeCarrier (.codeWith yL_removeCarrier cL_removeCarrier 3 (some .int) [((0 : Nat), (5 : Nat), (6 : Nat), (23 : Nat))]) 5 1 6 [.ref 0, .int q] (wl mi ml) (QI (fun r mi9 ml9 => ∃ V2 H2, ST V2 H2 mi9 ml9 ∧ ((¬ (0 ≤ q.toInt ∧ q.toInt < (nV V : Int)) ∧ r.toInt = -903 ∧ V = V2 ∧ H = H2) ∨ (∃ b, b < nV V ∧ q.toInt = (b : Int) ∧ r.toInt = (nV V : Int) - 1 ∧ remV V b (((1 : Int32) <<< (q &&& 31)) - 1) = V2 ∧ (V :: H).take 4 = H2)))) noX := by
  obtain ⟨p, hp4, hs4, hp, hsz, hh⟩ := id S.2.2.1
  have wn := wf_n S.1
  have wm := wf_m S.1
  have wt := wf_t S.1
  have z9 := S.2.2.2.2
  refine CtH.mono (h_L_removeCarrier l hfl mi ml V S.1 S.2.1 (nV V) wn.1 wn.2 (mV V) wm.1 wm.2 p H.length hp hp4 hsz hs4 q _ rfl) (fun rv w hq => ?_)
  obtain ⟨r, mi9, ml9, e1, e2, hq⟩ := hq
  refine ⟨r, mi9, ml9, e1, e2, ?_⟩
  rcases hq with ⟨hml, b, mk, hb, hq2, hr, hP, hT⟩ | ⟨En, ⟨hmi, hml, e, hno⟩, hr⟩
  · subst hml
    exact ⟨_, _, st_rm S hp hp4 hP z9 hb hq2 hT, Or.inr ⟨b, hb, hq2, hr, rfl, rfl⟩⟩
  · subst hmi; subst hml; subst e
    exact ⟨V, H, S, Or.inl ⟨hno, by rw [hr, cThr_IO]; rfl, rfl, rfl⟩⟩
set_option maxRecDepth 100000 in
theorem k_shift (l : Launch) (hfl : l.stackTraces = false) {V : Nat → Int32} {H : List (Nat → Int32)} {mi : MI} {ml : MJ} (S : ST V H mi ml) (a : Int32) : CtH l yL_shift (.codeWith yL_shift cL_shift 3 (some .int) [((0 : Nat), (5 : Nat), (6 : Nat), (15 : Nat)), ((0 : Nat), (5 : Nat), (11 : Nat), (17 : Nat))]) 4 1 6 [.ref 0, .int a] (wl mi ml) (QI (fun r mi9 ml9 => ∃ V2 H2, ST V2 H2 mi9 ml9 ∧ ((¬ (-64 < a.toInt ∧ a.toInt < 64) ∧ r.toInt = -901 ∧ V = V2 ∧ H = H2) ∨ ((-64 < a.toInt ∧ a.toInt < 64) ∧ r.toInt = -902 ∧ V = V2 ∧ H = H2) ∨ ((-64 < a.toInt ∧ a.toInt < 64) ∧ (∀ j, j < nV V → (0 ≤ (V (6 + 2 * j)).toInt + a.toInt ∧ (V (6 + 2 * j)).toInt + a.toInt < 64)) ∧ r.toInt = (nV V : Int) ∧ shfV V (nV V) a = V2 ∧ (V :: H).take 4 = H2)))) noX := by
  obtain ⟨p, hp4, hs4, hp, hsz, hh⟩ := id S.2.2.1
  have wn := wf_n S.1
  have wm := wf_m S.1
  have wt := wf_t S.1
  have z9 := S.2.2.2.2
  refine CtH.mono (h_L_shift l hfl mi ml V S.1 S.2.1 (nV V) wn.1 wn.2 p H.length hp hp4 hsz hs4 a _ rfl) (fun rv w hq => ?_)
  obtain ⟨r, mi9, ml9, e1, e2, hq⟩ := hq
  refine ⟨r, mi9, ml9, e1, e2, ?_⟩
  rcases hq with ⟨hml, hB, hall, hr, mk, m1, hP, hS, e9⟩ | ⟨En, ⟨hmi, hml, hx⟩, hr⟩
  · subst hml
    exact ⟨_, _, st_sh S hp hp4 hP z9 rfl hB hall hS e9, Or.inr (Or.inr ⟨hB, hall, hr, rfl, rfl⟩)⟩
  · subst hmi; subst hml
    rcases hx with ⟨e, hno⟩ | ⟨e, hok, hno⟩
    · subst e; exact ⟨V, H, S, Or.inl ⟨hno, by rw [hr, cThr_IA]; rfl, rfl, rfl⟩⟩
    · subst e; exact ⟨V, H, S, Or.inr (Or.inl ⟨hok, by rw [hr, cThr_IS]; rfl, rfl, rfl⟩)⟩
set_option maxRecDepth 100000 in
theorem k_setProducts (l : Launch) (hfl : l.stackTraces = false) {V : Nat → Int32} {H : List (Nat → Int32)} {mi : MI} {ml : MJ} (S : ST V H mi ml) (a b c : Int32) : CtH l yL_setProducts (.codeWith yL_setProducts cL_setProducts 5 (some .int) [((0 : Nat), (7 : Nat), (8 : Nat), (15 : Nat))]) 4 1 6 [.ref 0, .int a, .int b, .int c] (wl mi ml) (QI (fun r mi9 ml9 => ∃ V2 H2, ST V2 H2 mi9 ml9 ∧ ((¬ ((0 ≤ a.toInt ∧ a.toInt ≤ 7) ∧ (0 ≤ b.toInt ∧ b.toInt ≤ 300) ∧ (0 ≤ c.toInt ∧ c.toInt ≤ 300)) ∧ r.toInt = -901 ∧ V = V2 ∧ H = H2) ∨ (((0 ≤ a.toInt ∧ a.toInt ≤ 7) ∧ (0 ≤ b.toInt ∧ b.toInt ≤ 300) ∧ (0 ≤ c.toInt ∧ c.toInt ≤ 300)) ∧ r = V 0 ∧ prdV V a b c = V2 ∧ (V :: H).take 4 = H2)))) noX := by
  obtain ⟨p, hp4, hs4, hp, hsz, hh⟩ := id S.2.2.1
  have wn := wf_n S.1
  have wm := wf_m S.1
  have wt := wf_t S.1
  have z9 := S.2.2.2.2
  refine CtH.mono (h_L_setProducts l hfl mi ml V S.1 S.2.1 p H.length hp hp4 hsz hs4 a _ rfl b _ rfl c _ rfl) (fun rv w hq => ?_)
  obtain ⟨r, mi9, ml9, e1, e2, hq⟩ := hq
  refine ⟨r, mi9, ml9, e1, e2, ?_⟩
  rcases hq with ⟨hml, hok, hr, mk, hP, e9⟩ | ⟨En, ⟨hmi, hml, e, hno⟩, hr⟩
  · subst hml
    exact ⟨_, _, st_pr S hp hp4 hP z9 hok.1 hok.2.1 hok.2.2 e9, Or.inr ⟨hok, hr, rfl, rfl⟩⟩
  · subst hmi; subst hml; subst e
    exact ⟨V, H, S, Or.inl ⟨hno, by rw [hr, cThr_IA]; rfl, rfl, rfl⟩⟩
set_option maxRecDepth 100000 in
theorem k_setSpacing (l : Launch) (hfl : l.stackTraces = false) {V : Nat → Int32} {H : List (Nat → Int32)} {mi : MI} {ml : MJ} (S : ST V H mi ml) (a b : Int32) : CtH l yL_setSpacing (.codeWith yL_setSpacing cL_setSpacing 4 (some .int) [((0 : Nat), (6 : Nat), (7 : Nat), (15 : Nat))]) 4 1 6 [.ref 0, .int a, .int b] (wl mi ml) (QI (fun r mi9 ml9 => ∃ V2 H2, ST V2 H2 mi9 ml9 ∧ ((¬ ((0 ≤ a.toInt ∧ a.toInt ≤ 5) ∧ (1 ≤ b.toInt ∧ b.toInt ≤ 10)) ∧ r.toInt = -901 ∧ V = V2 ∧ H = H2) ∨ (((0 ≤ a.toInt ∧ a.toInt ≤ 5) ∧ (1 ≤ b.toInt ∧ b.toInt ≤ 10)) ∧ r = V 3 ∧ spcV V a b = V2 ∧ (V :: H).take 4 = H2)))) noX := by
  obtain ⟨p, hp4, hs4, hp, hsz, hh⟩ := id S.2.2.1
  have wn := wf_n S.1
  have wm := wf_m S.1
  have wt := wf_t S.1
  have z9 := S.2.2.2.2
  refine CtH.mono (h_L_setSpacing l hfl mi ml V S.1 S.2.1 p H.length hp hp4 hsz hs4 a _ rfl b _ rfl) (fun rv w hq => ?_)
  obtain ⟨r, mi9, ml9, e1, e2, hq⟩ := hq
  refine ⟨r, mi9, ml9, e1, e2, ?_⟩
  rcases hq with ⟨hml, hok, hr, mk, hP, e9⟩ | ⟨En, ⟨hmi, hml, e, hno⟩, hr⟩
  · subst hml
    exact ⟨_, _, st_sp S hp hp4 hP z9 hok.1 hok.2 e9, Or.inr ⟨hok, hr, rfl, rfl⟩⟩
  · subst hmi; subst hml; subst e
    exact ⟨V, H, S, Or.inl ⟨hno, by rw [hr, cThr_IA]; rfl, rfl, rfl⟩⟩
set_option maxRecDepth 100000 in
theorem k_size (l : Launch) (hfl : l.stackTraces = false) {V : Nat → Int32} {H : List (Nat → Int32)} {mi : MI} {ml : MJ} (S : ST V H mi ml) (a : Int32) : CtH l yL_size (.codeWith yL_size cL_size 3 (some .int) [((0 : Nat), (5 : Nat), (6 : Nat), (15 : Nat))]) 2 1 6 [.ref 0, .int a] (wl mi ml) (QI (fun r mi9 ml9 => ST V H mi9 ml9 ∧ ((a.toInt = 0 ∧ r.toInt = (nV V : Int)) ∨ (a.toInt = 1 ∧ r.toInt = (mV V : Int)) ∨ (a.toInt = 2 ∧ r.toInt = (tV V : Int)) ∨ (¬ (0 ≤ a.toInt ∧ a.toInt ≤ 2) ∧ r.toInt = -901)))) noX := by
  obtain ⟨p, hp4, hs4, hp, hsz, hh⟩ := id S.2.2.1
  have wn := wf_n S.1
  have wm := wf_m S.1
  have wt := wf_t S.1
  have z9 := S.2.2.2.2
  refine CtH.mono (h_L_size l hfl mi ml V S.2.1 a _ rfl) (fun rv w hq => ?_)
  obtain ⟨r, mi9, ml9, e1, e2, hq⟩ := hq
  refine ⟨r, mi9, ml9, e1, e2, ?_⟩
  rcases hq with ⟨hmi, hml, _, hx⟩ | ⟨En, ⟨hmi, hml, e, hno⟩, hr⟩
  · subst hmi; subst hml
    refine ⟨S, ?_⟩
    rcases hx with ⟨q1, q2⟩ | ⟨q1, q2⟩ | ⟨q1, q2⟩
    · exact Or.inl ⟨q1, by rw [q2]; exact wn.1⟩
    · exact Or.inr (Or.inl ⟨q1, by rw [q2]; exact wm.1⟩)
    · exact Or.inr (Or.inr (Or.inl ⟨q1, by rw [q2]; exact wt.1⟩))
  · subst hmi; subst hml; subst e
    exact ⟨S, Or.inr (Or.inr (Or.inr ⟨hno, by rw [hr, cThr_IA]; rfl⟩))⟩
set_option maxRecDepth 100000 in
theorem k_carrier (l : Launch) (hfl : l.stackTraces = false) {V : Nat → Int32} {H : List (Nat → Int32)} {mi : MI} {ml : MJ} (S : ST V H mi ml) (a : Int32) (xb : Int32) (Q : Prop) (hxb : xb = bI Q) : CtH l yL_carrier (.codeWith yL_carrier cL_carrier 4 (some .int) [((0 : Nat), (6 : Nat), (7 : Nat), (23 : Nat))]) 4 1 6 [.ref 0, .int a, .int xb] (wl mi ml) (QI (fun r mi9 ml9 => ST V H mi9 ml9 ∧ ((∃ b, b < nV V ∧ a.toInt = (b : Int) ∧ ((Q ∧ r = V (7 + 2 * b)) ∨ (¬ Q ∧ r = V (6 + 2 * b)))) ∨ (¬ (0 ≤ a.toInt ∧ a.toInt < (nV V : Int)) ∧ r.toInt = -903)))) noX := by
  obtain ⟨p, hp4, hs4, hp, hsz, hh⟩ := id S.2.2.1
  have wn := wf_n S.1
  have wm := wf_m S.1
  have wt := wf_t S.1
  have z9 := S.2.2.2.2
  refine CtH.mono (h_L_carrier l hfl mi ml V S.1 S.2.1 (nV V) wn.1 wn.2 a _ rfl xb Q hxb) (fun rv w hq => ?_)
  obtain ⟨r, mi9, ml9, e1, e2, hq⟩ := hq
  refine ⟨r, mi9, ml9, e1, e2, ?_⟩
  rcases hq with ⟨hmi, hml, hx⟩ | ⟨En, ⟨hmi, hml, e, hno⟩, hr⟩
  · subst hmi; subst hml
    exact ⟨S, Or.inl hx⟩
  · subst hmi; subst hml; subst e
    exact ⟨S, Or.inr ⟨hno, by rw [hr, cThr_IO]; rfl⟩⟩
set_option maxRecDepth 100000 in
theorem k_product (l : Launch) (hfl : l.stackTraces = false) {V : Nat → Int32} {H : List (Nat → Int32)} {mi : MI} {ml : MJ} (S : ST V H mi ml) (x a : Int32) : CtH l yL_product (.codeWith yL_product cL_product 4 (some .int) [((0 : Nat), (6 : Nat), (7 : Nat), (23 : Nat)), ((0 : Nat), (6 : Nat), (12 : Nat), (15 : Nat))]) 5 1 6 [.ref 0, .int x, .int a] (wl mi ml) (QI (fun r mi9 ml9 => ST V H mi9 ml9 ∧ ((∃ (i : Nat) (q : Q4) (j : Nat), x.toInt = (i : Int) ∧ (prV V (2 ^ nV V - 1) (nV V))[i]? = some q ∧ a.toInt = (j : Int) ∧ j < 6 ∧ r.toInt = prF (DV V) q j) ∨ (¬ (0 ≤ x.toInt ∧ x.toInt < ((prV V (2 ^ nV V - 1) (nV V)).length : Int)) ∧ r.toInt = -903) ∨ ((0 ≤ x.toInt ∧ x.toInt < ((prV V (2 ^ nV V - 1) (nV V)).length : Int)) ∧ ¬ (0 ≤ a.toInt ∧ a.toInt ≤ 5) ∧ r.toInt = -901)))) noX := by
  obtain ⟨p, hp4, hs4, hp, hsz, hh⟩ := id S.2.2.1
  have wn := wf_n S.1
  have wm := wf_m S.1
  have wt := wf_t S.1
  have z9 := S.2.2.2.2
  refine CtH.mono (h_L_product l hfl mi ml V S.1 S.2.1 (nV V) wn.1 wn.2 x a _ _ rfl rfl) (fun rv w hq => ?_)
  obtain ⟨r, mi9, ml9, e1, e2, hq⟩ := hq
  refine ⟨r, mi9, ml9, e1, e2, ?_⟩
  rcases hq with ⟨hml, hF, i, j, row, hi, hil, hj, hj6, he, hr⟩ | ⟨En, ⟨hml, hF, hx⟩, hr⟩
  · refine ⟨S.q2 hF hml.symm, Or.inl ⟨i, (prV V (2 ^ nV V - 1) (nV V))[i], j, hi, List.getElem?_eq_getElem hil, hj, hj6, ?_⟩⟩
    rw [hr]
    exact encq_F (he i _ (List.getElem?_eq_getElem hil)) hj6
  · refine ⟨S.q2 hF hml.symm, ?_⟩
    rcases hx with ⟨e, hno⟩ | ⟨e, hok, hno⟩
    · subst e; exact Or.inr (Or.inl ⟨hno, by rw [hr, cThr_IO]; rfl⟩)
    · subst e; exact Or.inr (Or.inr ⟨hok, hno, by rw [hr, cThr_IA]; rfl⟩)
set_option maxRecDepth 100000 in
theorem k_fallout (l : Launch) (hfl : l.stackTraces = false) {V : Nat → Int32} {H : List (Nat → Int32)} {mi : MI} {ml : MJ} (S : ST V H mi ml) (a : Int32) : CtH l yL_fallout (.codeWith yL_fallout cL_fallout 3 (some .long) [((0 : Nat), (5 : Nat), (6 : Nat), (15 : Nat))]) 6 1 6 [.ref 0, .int a] (wl mi ml) (QJ (fun r mi9 ml9 => ST V H mi9 ml9 ∧ ((∃ s : Nat, a.toInt = (s : Int) ∧ okS V a ∧ r = foA (DV V) (prV V s (nV V)) (prV V s (nV V)).length) ∨ (¬ okS V a ∧ r = -901)))) noX := by
  obtain ⟨p, hp4, hs4, hp, hsz, hh⟩ := id S.2.2.1
  have wn := wf_n S.1
  have wm := wf_m S.1
  have wt := wf_t S.1
  have z9 := S.2.2.2.2
  refine CtH.mono (h_L_fallout l hfl mi ml V S.1 S.2.1 (nV V) wn.1 wn.2 a _ rfl) (fun rv w hq => ?_)
  obtain ⟨r, mi9, ml9, e1, e2, hq⟩ := hq
  refine ⟨r, mi9, ml9, e1, e2, ?_⟩
  rcases hq with ⟨hml, hF, hok, s, hs, hr⟩ | ⟨En, ⟨hml, hmi, e, hno⟩, hr⟩
  · exact ⟨S.q2 hF hml.symm, Or.inl ⟨s, hs, hok, hr⟩⟩
  · subst hmi; subst hml
    exact ⟨S, Or.inr ⟨hno, hr⟩⟩
set_option maxRecDepth 100000 in
theorem k_hitsOn (l : Launch) (hfl : l.stackTraces = false) {V : Nat → Int32} {H : List (Nat → Int32)} {mi : MI} {ml : MJ} (S : ST V H mi ml) (a : Int32) : CtH l yL_hitsOn (.codeWith yL_hitsOn cL_hitsOn 3 (some .int) [((0 : Nat), (5 : Nat), (6 : Nat), (23 : Nat))]) 5 1 6 [.ref 0, .int a] (wl mi ml) (QI (fun r mi9 ml9 => ST V H mi9 ml9 ∧ ((∃ b, b < nV V ∧ a.toInt = (b : Int) ∧ r.toInt = (hcA (DV V) (V 3).toInt (V (6 + 2 * b)).toInt (prV V (2 ^ nV V - 1) (nV V)) (prV V (2 ^ nV V - 1) (nV V)).length : Int)) ∨ (¬ (0 ≤ a.toInt ∧ a.toInt < (nV V : Int)) ∧ r.toInt = -903)))) noX := by
  obtain ⟨p, hp4, hs4, hp, hsz, hh⟩ := id S.2.2.1
  have wn := wf_n S.1
  have wm := wf_m S.1
  have wt := wf_t S.1
  have z9 := S.2.2.2.2
  refine CtH.mono (h_L_hitsOn l hfl mi ml V S.1 S.2.1 (nV V) wn.1 wn.2 a _ rfl) (fun rv w hq => ?_)
  obtain ⟨r, mi9, ml9, e1, e2, hq⟩ := hq
  refine ⟨r, mi9, ml9, e1, e2, ?_⟩
  rcases hq with ⟨hml, hF, hx⟩ | ⟨En, ⟨hml, hmi, e, hno⟩, hr⟩
  · exact ⟨S.q2 hF hml.symm, Or.inl hx⟩
  · subst hmi; subst hml; subst e
    exact ⟨S, Or.inr ⟨hno, by rw [hr, cThr_IO]; rfl⟩⟩
set_option maxRecDepth 100000 in
theorem k_leastSpan (l : Launch) (hfl : l.stackTraces = false) {V : Nat → Int32} {H : List (Nat → Int32)} {mi : MI} {ml : MJ} (S : ST V H mi ml) (a : Int32) : CtH l yL_leastSpan (.codeWith yL_leastSpan cL_leastSpan 3 (some .int) [((0 : Nat), (5 : Nat), (6 : Nat), (15 : Nat))]) 11 1 6 [.ref 0, .int a] (wl mi ml) (QI (fun r mi9 ml9 => ST V H mi9 ml9 ∧ (((1 ≤ a.toInt ∧ a.toInt ≤ 6) ∧ ∃ m : Nat, a.toInt = (m : Int) ∧ LspP V m r.toInt) ∨ (¬ (1 ≤ a.toInt ∧ a.toInt ≤ 6) ∧ r.toInt = -901)))) noX := by
  obtain ⟨p, hp4, hs4, hp, hsz, hh⟩ := id S.2.2.1
  have wn := wf_n S.1
  have wm := wf_m S.1
  have wt := wf_t S.1
  have z9 := S.2.2.2.2
  refine CtH.mono (h_L_leastSpan l hfl mi ml V S.1 S.2.1 (nV V) wn.1 wn.2 S.2.2.2.2 (V 4).toInt.toNat (by have := S.1.1; omega) (by have := S.1.1; omega) (by have := S.1.1; omega) a _ rfl) (fun rv w hq => ?_)
  obtain ⟨r, mi9, ml9, e1, e2, hq⟩ := hq
  refine ⟨r, mi9, ml9, e1, e2, ?_⟩
  rcases hq with ⟨hF, hL, hz9, hok, m, hm, hx⟩ | ⟨En, ⟨hmi, hml, e, hno⟩, hr⟩
  · exact ⟨S.q3 hF hz9, Or.inl ⟨hok, m, hm, LspP_of hx⟩⟩
  · subst hmi; subst hml; subst e
    exact ⟨S, Or.inr ⟨hno, by rw [hr, cThr_IA]; rfl⟩⟩
set_option maxRecDepth 100000 in
theorem k_bestRuler (l : Launch) (hfl : l.stackTraces = false) {V : Nat → Int32} {H : List (Nat → Int32)} {mi : MI} {ml : MJ} (S : ST V H mi ml) (a : Int32) : CtH l yL_bestRuler (.codeWith yL_bestRuler cL_bestRuler 3 (some .long) [((0 : Nat), (5 : Nat), (6 : Nat), (15 : Nat))]) 11 1 6 [.ref 0, .int a] (wl mi ml) (QJ (fun r mi9 ml9 => ST V H mi9 ml9 ∧ (((1 ≤ a.toInt ∧ a.toInt ≤ 6) ∧ ∃ m : Nat, a.toInt = (m : Int) ∧ ((r = 0 ∧ ∀ t, t ≤ 40 → skFA V m t = none) ∨ (∃ (s : Nat) (R : List Nat), s ≤ 40 ∧ skFA V m s = some R ∧ (∀ t, t < s → skFA V m t = none) ∧ r = rbF R))) ∨ (¬ (1 ≤ a.toInt ∧ a.toInt ≤ 6) ∧ r = -901)))) noX := by
  obtain ⟨p, hp4, hs4, hp, hsz, hh⟩ := id S.2.2.1
  have wn := wf_n S.1
  have wm := wf_m S.1
  have wt := wf_t S.1
  have z9 := S.2.2.2.2
  refine CtH.mono (h_L_bestRuler l hfl mi ml V S.1 S.2.1 (nV V) wn.1 wn.2 S.2.2.2.2 (V 4).toInt.toNat (by have := S.1.1; omega) (by have := S.1.1; omega) (by have := S.1.1; omega) a _ rfl) (fun rv w hq => ?_)
  obtain ⟨r, mi9, ml9, e1, e2, hq⟩ := hq
  refine ⟨r, mi9, ml9, e1, e2, ?_⟩
  rcases hq with ⟨hF, hL, hz9, hok, hx⟩ | ⟨En, ⟨hmi, hml, e, hno⟩, hr⟩
  · exact ⟨S.q3 hF hz9, Or.inl ⟨hok, hx⟩⟩
  · subst hmi; subst hml
    exact ⟨S, Or.inr ⟨hno, hr⟩⟩
set_option maxRecDepth 100000 in
theorem k_rulers (l : Launch) (hfl : l.stackTraces = false) {V : Nat → Int32} {H : List (Nat → Int32)} {mi : MI} {ml : MJ} (S : ST V H mi ml) (a b : Int32) : CtH l yL_rulers (.codeWith yL_rulers cL_rulers 4 (some .int) [((0 : Nat), (6 : Nat), (7 : Nat), (15 : Nat))]) 10 2 12 [.ref 0, .int a, .int b] (wl mi ml) (QI (fun r mi9 ml9 => ST V H mi9 ml9 ∧ ((((1 ≤ a.toInt ∧ a.toInt ≤ 5) ∧ (0 ≤ b.toInt ∧ b.toInt ≤ 40)) ∧ ∃ m s : Nat, a.toInt = (m : Int) ∧ b.toInt = (s : Int) ∧ (skFA V m s = none → r.toInt = 0) ∧ (skFA V m s ≠ none → 1 ≤ r.toInt)) ∨ (¬ ((1 ≤ a.toInt ∧ a.toInt ≤ 5) ∧ (0 ≤ b.toInt ∧ b.toInt ≤ 40)) ∧ r.toInt = -901)))) noX := by
  obtain ⟨p, hp4, hs4, hp, hsz, hh⟩ := id S.2.2.1
  have wn := wf_n S.1
  have wm := wf_m S.1
  have wt := wf_t S.1
  have z9 := S.2.2.2.2
  refine CtH.mono (h_L_rulers l hfl mi ml V S.1 S.2.1 (nV V) wn.1 wn.2 S.2.2.2.2 (V 4).toInt.toNat (by have := S.1.1; omega) (by have := S.1.1; omega) (by have := S.1.1; omega) a _ rfl b _ rfl) (fun rv w hq => ?_)
  obtain ⟨r, mi9, ml9, e1, e2, hq⟩ := hq
  refine ⟨r, mi9, ml9, e1, e2, ?_⟩
  rcases hq with ⟨hF, hL, hz9, hok, m, s, hm, hs, hx⟩ | ⟨En, ⟨hmi, hml, e, hno⟩, hr⟩
  · exact ⟨S.q3 hF hz9, Or.inl ⟨hok, m, s, hm, hs, CrE_n0 hx, CrE_n1 hx⟩⟩
  · subst hmi; subst hml; subst e
    exact ⟨S, Or.inr ⟨hno, by rw [hr, cThr_IA]; rfl⟩⟩
set_option maxRecDepth 100000 in
theorem k_openings (l : Launch) (hfl : l.stackTraces = false) {V : Nat → Int32} {H : List (Nat → Int32)} {mi : MI} {ml : MJ} (S : ST V H mi ml) (a : Int32) : CtH l yL_openings (.codeWith yL_openings cL_openings 3 (some .long) [((0 : Nat), (5 : Nat), (6 : Nat), (15 : Nat))]) 7 1 6 [.ref 0, .int a] (wl mi ml) (QJ (fun r mi9 ml9 => ST V H mi9 ml9 ∧ (((0 ≤ a.toInt ∧ a.toInt ≤ 60) ∧ r = opS V (nV V) a.toInt 64) ∨ (¬ (0 ≤ a.toInt ∧ a.toInt ≤ 60) ∧ r = -901)))) noX := by
  obtain ⟨p, hp4, hs4, hp, hsz, hh⟩ := id S.2.2.1
  have wn := wf_n S.1
  have wm := wf_m S.1
  have wt := wf_t S.1
  have z9 := S.2.2.2.2
  refine CtH.mono (h_L_openings l hfl mi ml V S.1 S.2.1 (nV V) wn.1 wn.2 S.2.2.2.2 a _ rfl) (fun rv w hq => ?_)
  obtain ⟨r, mi9, ml9, e1, e2, hq⟩ := hq
  refine ⟨r, mi9, ml9, e1, e2, ?_⟩
  rcases hq with ⟨hF, hL, hz9, hok, hx⟩ | ⟨En, ⟨hmi, hml, e, hno⟩, hr⟩
  · exact ⟨S.q3 hF hz9, Or.inl ⟨hok, hx⟩⟩
  · subst hmi; subst hml
    exact ⟨S, Or.inr ⟨hno, hr⟩⟩
set_option maxRecDepth 100000 in
theorem k_putIn (l : Launch) (hfl : l.stackTraces = false) {V : Nat → Int32} {H : List (Nat → Int32)} {mi : MI} {ml : MJ} (S : ST V H mi ml) (a : Int32) : CtH l yL_putIn (.codeWith yL_putIn cL_putIn 3 (some .int) [((0 : Nat), (5 : Nat), (6 : Nat), (15 : Nat)), ((0 : Nat), (5 : Nat), (11 : Nat), (17 : Nat))]) 7 3 18 [.ref 0, .int a] (wl mi ml) (QI (fun r mi9 ml9 => ∃ V2 H2, ST V2 H2 mi9 ml9 ∧ ((¬ (0 ≤ a.toInt ∧ a.toInt ≤ 60) ∧ r.toInt = -901 ∧ V = V2 ∧ H = H2) ∨ ((0 ≤ a.toInt ∧ a.toInt ≤ 60) ∧ nV V = 10 ∧ r.toInt = -902 ∧ V = V2 ∧ H = H2) ∨ ((0 ≤ a.toInt ∧ a.toInt ≤ 60) ∧ nV V < 10 ∧ r.toInt = -1 ∧ (∀ c, c < 64 → ¬ opP V (nV V) a.toInt c) ∧ V = V2 ∧ H = H2) ∨ ((0 ≤ a.toInt ∧ a.toInt ≤ 60) ∧ nV V < 10 ∧ ∃ z, z < 64 ∧ opP V (nV V) a.toInt z ∧ (∀ c, c < z → ¬ opP V (nV V) a.toInt c) ∧ r.toInt = (z : Int) ∧ addV V (nV V) r a = V2 ∧ (V :: H).take 4 = H2)))) noX := by
  obtain ⟨p, hp4, hs4, hp, hsz, hh⟩ := id S.2.2.1
  have wn := wf_n S.1
  have wm := wf_m S.1
  have wt := wf_t S.1
  have z9 := S.2.2.2.2
  refine CtH.mono (h_L_putIn l hfl mi ml V S.1 S.2.1 (nV V) wn.1 wn.2 S.2.2.2.2 p H.length hp hp4 hsz hs4 a _ rfl) (fun rv w hq => ?_)
  obtain ⟨r, mi9, ml9, e1, e2, hq⟩ := hq
  refine ⟨r, mi9, ml9, e1, e2, ?_⟩
  rcases hq with ⟨hL, hz9, hok, hn10, hx⟩ | ⟨En, ⟨hmi, hml, hx⟩, hr⟩
  · rcases hx with ⟨hr, hno, hF⟩ | ⟨z, mj, mk, hz, ho, hno, hr, hF, hP, e9⟩
    · exact ⟨V, H, S.q3 hF hz9, Or.inr (Or.inr (Or.inl ⟨hok, hn10, by rw [hr]; rfl, hno, rfl, rfl⟩))⟩
    · have S2 := S.q3 hF hz9
      have hp2 : (mj 17 1).toInt = (p : Int) := by rw [hF 17 (by decide)]; exact hp
      refine ⟨_, _, st_ac S2 hp2 hp4 hP hz9 hn10 (by omega) hok (fun h => ?_) e9, Or.inr (Or.inr (Or.inr ⟨hok, hn10, z, hz, ho, hno, hr, rfl, rfl⟩))⟩
      obtain ⟨j, hj, _, e⟩ := h
      exact ho.1 j hj (by rw [e]; exact hr)
  · subst hmi; subst hml
    rcases hx with ⟨e, hno⟩ | ⟨e, hok, hno⟩
    · subst e; exact ⟨V, H, S, Or.inl ⟨hno, by rw [hr, cThr_IA]; rfl, rfl, rfl⟩⟩
    · subst e; exact ⟨V, H, S, Or.inr (Or.inl ⟨hok, by omega, by rw [hr, cThr_IS]; rfl, rfl, rfl⟩)⟩
set_option maxRecDepth 100000 in
theorem k_addMixer (l : Launch) (hfl : l.stackTraces = false) {V : Nat → Int32} {H : List (Nat → Int32)} {mi : MI} {ml : MJ} (S : ST V H mi ml) (a : Int32) : CtH l yL_addMixer (.codeWith yL_addMixer cL_addMixer 3 (some .int) [((0 : Nat), (5 : Nat), (6 : Nat), (15 : Nat)), ((0 : Nat), (5 : Nat), (11 : Nat), (17 : Nat))]) 4 2 12 [.ref 0, .int a] (wl mi ml) (QI (fun r mi9 ml9 => ∃ V2 H2, ST V2 H2 mi9 ml9 ∧ ((¬ okS V a ∧ r.toInt = -901 ∧ V = V2 ∧ H = H2) ∨ (okS V a ∧ mV V = 5 ∧ r.toInt = -902 ∧ V = V2 ∧ H = H2) ∨ (okS V a ∧ mV V < 5 ∧ r.toInt = (mV V : Int) ∧ mixV V (mV V) a = V2 ∧ (V :: H).take 4 = H2)))) noX := by
  obtain ⟨p, hp4, hs4, hp, hsz, hh⟩ := id S.2.2.1
  have wn := wf_n S.1
  have wm := wf_m S.1
  have wt := wf_t S.1
  have z9 := S.2.2.2.2
  refine CtH.mono (h_L_addMixer l hfl mi ml V S.1 S.2.1 (nV V) wn.1 wn.2 (mV V) wm.1 wm.2 p H.length hp hp4 hsz hs4 a _ rfl) (fun rv w hq => ?_)
  obtain ⟨r, mi9, ml9, e1, e2, hq⟩ := hq
  refine ⟨r, mi9, ml9, e1, e2, ?_⟩
  rcases hq with ⟨hml, hok, hm5, hr, mk, hP, e9⟩ | ⟨En, ⟨hmi, hml, hx⟩, hr⟩
  · subst hml
    exact ⟨_, _, st_mx S hp hp4 hP z9 hm5 hok e9, Or.inr (Or.inr ⟨hok, hm5, hr, rfl, rfl⟩)⟩
  · subst hmi; subst hml
    rcases hx with ⟨e, hno⟩ | ⟨e, hok, hno⟩
    · subst e; exact ⟨V, H, S, Or.inl ⟨hno, by rw [hr, cThr_IA]; rfl, rfl, rfl⟩⟩
    · subst e; exact ⟨V, H, S, Or.inr (Or.inl ⟨hok, by omega, by rw [hr, cThr_IS]; rfl, rfl, rfl⟩)⟩
set_option maxRecDepth 100000 in
theorem k_setMember (l : Launch) (hfl : l.stackTraces = false) {V : Nat → Int32} {H : List (Nat → Int32)} {mi : MI} {ml : MJ} (S : ST V H mi ml) (a c : Int32) (xb : Int32) (Q : Prop) (hxb : xb = bI Q) : CtH l yL_setMember (.codeWith yL_setMember cL_setMember 5 (some .int) [((0 : Nat), (7 : Nat), (8 : Nat), (23 : Nat))]) 4 2 12 [.ref 0, .int a, .int c, .int xb] (wl mi ml) (QI (fun r mi9 ml9 => ∃ V2 H2, ST V2 H2 mi9 ml9 ∧ ((¬ ((0 ≤ a.toInt ∧ a.toInt < (mV V : Int)) ∧ (0 ≤ c.toInt ∧ c.toInt < (nV V : Int))) ∧ r.toInt = -903 ∧ V = V2 ∧ H = H2) ∨ (∃ b, b < mV V ∧ a.toInt = (b : Int) ∧ 0 ≤ r.toInt ∧ memV V b r = V2 ∧ (V :: H).take 4 = H2)))) noX := by
  obtain ⟨p, hp4, hs4, hp, hsz, hh⟩ := id S.2.2.1
  have wn := wf_n S.1
  have wm := wf_m S.1
  have wt := wf_t S.1
  have z9 := S.2.2.2.2
  refine CtH.mono (h_L_setMember l hfl mi ml V S.1 S.2.1 (nV V) wn.1 wn.2 (mV V) wm.1 wm.2 p H.length hp hp4 hsz hs4 a _ rfl c _ rfl xb Q hxb) (fun rv w hq => ?_)
  obtain ⟨r, mi9, ml9, e1, e2, hq⟩ := hq
  refine ⟨r, mi9, ml9, e1, e2, ?_⟩
  rcases hq with ⟨hml, b, d, mk, hb, hd, ha, hc, hP, e9, hx⟩ | ⟨En, ⟨hmi, hml, e, hno⟩, hr⟩
  · subst hml
    have hv := S.1.2.2.2.2.1 b (by omega)
    obtain ⟨s, hs⟩ : ∃ s : Nat, (V (27 + b)).toInt = (s : Int) := ⟨(V (27 + b)).toInt.toNat, by omega⟩
    have hs2 : s < 2 ^ nV V := by
      have h2 : (V (27 + b)).toInt < ((2 ^ nV V : Nat) : Int) := hv.2
      omega
    have hr : 0 ≤ r.toInt ∧ r.toInt < ((2 ^ nV V : Nat) : Int) := by
      rcases hx with ⟨_, e⟩ | ⟨_, e⟩
      · rw [e]; exact sm_y hs hs2 wn.2 hc hd
      · rw [e]; exact sm_n hs hs2 wn.2 hc hd
    exact ⟨_, _, st_me S hp hp4 hP z9 hb hr e9, Or.inr ⟨b, hb, ha, hr.1, rfl, rfl⟩⟩
  · subst hmi; subst hml; subst e
    exact ⟨V, H, S, Or.inl ⟨hno, by rw [hr, cThr_IO]; rfl, rfl, rfl⟩⟩
set_option maxRecDepth 100000 in
theorem k_mixer (l : Launch) (hfl : l.stackTraces = false) {V : Nat → Int32} {H : List (Nat → Int32)} {mi : MI} {ml : MJ} (S : ST V H mi ml) (a : Int32) : CtH l yL_mixer (.codeWith yL_mixer cL_mixer 3 (some .int) [((0 : Nat), (5 : Nat), (6 : Nat), (23 : Nat))]) 3 1 6 [.ref 0, .int a] (wl mi ml) (QI (fun r mi9 ml9 => ST V H mi9 ml9 ∧ ((∃ b, b < mV V ∧ a.toInt = (b : Int) ∧ r = V (27 + b)) ∨ (¬ (0 ≤ a.toInt ∧ a.toInt < (mV V : Int)) ∧ r.toInt = -903)))) noX := by
  obtain ⟨p, hp4, hs4, hp, hsz, hh⟩ := id S.2.2.1
  have wn := wf_n S.1
  have wm := wf_m S.1
  have wt := wf_t S.1
  have z9 := S.2.2.2.2
  refine CtH.mono (h_L_mixer l hfl mi ml V S.2.1 (mV V) wm.1 wm.2 a _ rfl) (fun rv w hq => ?_)
  obtain ⟨r, mi9, ml9, e1, e2, hq⟩ := hq
  refine ⟨r, mi9, ml9, e1, e2, ?_⟩
  rcases hq with ⟨hmi, hml, hx⟩ | ⟨En, ⟨hmi, hml, e, hno⟩, hr⟩
  · subst hmi; subst hml
    exact ⟨S, Or.inl hx⟩
  · subst hmi; subst hml; subst e
    exact ⟨S, Or.inr ⟨hno, by rw [hr, cThr_IO]; rfl⟩⟩
set_option maxRecDepth 100000 in
theorem k_addTest (l : Launch) (hfl : l.stackTraces = false) {V : Nat → Int32} {H : List (Nat → Int32)} {mi : MI} {ml : MJ} (S : ST V H mi ml) (a c : Int32) (xb : Int32) (Q : Prop) (hxb : xb = bI Q) : CtH l yL_addTest (.codeWith yL_addTest cL_addTest 5 (some .int) [((0 : Nat), (7 : Nat), (8 : Nat), (15 : Nat)), ((0 : Nat), (7 : Nat), (14 : Nat), (17 : Nat))]) 7 3 18 [.ref 0, .int a, .int c, .int xb] (wl mi ml) (QI (fun r mi9 ml9 => ∃ V2 H2, ST V2 H2 mi9 ml9 ∧ ((¬ (okS V a ∧ (0 ≤ c.toInt ∧ c.toInt < 64)) ∧ r.toInt = -901 ∧ V = V2 ∧ H = H2) ∨ ((okS V a ∧ (0 ≤ c.toInt ∧ c.toInt < 64)) ∧ tV V = 16 ∧ r.toInt = -902 ∧ V = V2 ∧ H = H2) ∨ ((okS V a ∧ (0 ≤ c.toInt ∧ c.toInt < 64)) ∧ tV V < 16 ∧ r.toInt = (((fitL (ATV V (tV V) a c (bI Q)) (nV V) (mV V) (tV V + 1) (2 ^ mV V)).length : Nat) : Int) ∧ (ATV V (tV V) a c (bI Q)) = V2 ∧ (V :: H).take 4 = H2)))) noX := by
  obtain ⟨p, hp4, hs4, hp, hsz, hh⟩ := id S.2.2.1
  have wn := wf_n S.1
  have wm := wf_m S.1
  have wt := wf_t S.1
  have z9 := S.2.2.2.2
  refine CtH.mono (h_L_addTest l hfl mi ml V S.1 S.2.1 (nV V) wn.1 wn.2 (mV V) wm.1 wm.2 (tV V) wt.1 wt.2 p H.length hp hp4 hsz hs4 a _ rfl c _ rfl xb Q hxb) (fun rv w hq => ?_)
  obtain ⟨r, mi9, ml9, e1, e2, hq⟩ := hq
  refine ⟨r, mi9, ml9, e1, e2, ?_⟩
  rcases hq with ⟨hok, ht, hL, hW, hD2, ⟨mk, hP, hF⟩, hr⟩ | ⟨En, ⟨hmi, hml, hx⟩, hr⟩
  · refine ⟨_, _, S.ps hp hp4 hP (fun g g1 g2 => hF g (by simp; omega)) ⟨hW, hD2⟩ ?_, Or.inr (Or.inr ⟨hok, ht, hr, rfl, rfl⟩)⟩
    rw [hL 56 (by decide), hL 57 (by decide)]
    exact z9
  · subst hmi; subst hml
    rcases hx with ⟨e, hno⟩ | ⟨e, hok, hno⟩
    · subst e; exact ⟨V, H, S, Or.inl ⟨hno, by rw [hr, cThr_IA]; rfl, rfl, rfl⟩⟩
    · subst e; exact ⟨V, H, S, Or.inr (Or.inl ⟨hok, by omega, by rw [hr, cThr_IS]; rfl, rfl, rfl⟩)⟩
set_option maxRecDepth 100000 in
theorem k_test (l : Launch) (hfl : l.stackTraces = false) {V : Nat → Int32} {H : List (Nat → Int32)} {mi : MI} {ml : MJ} (S : ST V H mi ml) (a b : Int32) : CtH l yL_test (.codeWith yL_test cL_test 4 (some .int) [((0 : Nat), (6 : Nat), (7 : Nat), (23 : Nat)), ((0 : Nat), (6 : Nat), (12 : Nat), (15 : Nat))]) 3 1 6 [.ref 0, .int a, .int b] (wl mi ml) (QI (fun r mi9 ml9 => ST V H mi9 ml9 ∧ ((∃ j : Nat, j < tV V ∧ a.toInt = (j : Int)) ∨ (¬ (0 ≤ a.toInt ∧ a.toInt < (tV V : Int)) ∧ r.toInt = -903) ∨ (¬ (0 ≤ b.toInt ∧ b.toInt ≤ 2) ∧ r.toInt = -901)))) noX := by
  obtain ⟨p, hp4, hs4, hp, hsz, hh⟩ := id S.2.2.1
  have wn := wf_n S.1
  have wm := wf_m S.1
  have wt := wf_t S.1
  have z9 := S.2.2.2.2
  refine CtH.mono (h_L_test l hfl mi ml V S.2.1 (tV V) wt.1 wt.2 a _ rfl b _ rfl) (fun rv w hq => ?_)
  obtain ⟨r, mi9, ml9, e1, e2, hq⟩ := hq
  refine ⟨r, mi9, ml9, e1, e2, ?_⟩
  rcases hq with ⟨hmi, hml, j, q, hj, _, hx, _⟩ | ⟨En, ⟨hmi, hml, hx⟩, hr⟩
  · subst hmi; subst hml
    exact ⟨S, Or.inl ⟨j, hj, hx⟩⟩
  · subst hmi; subst hml
    rcases hx with ⟨e, hno⟩ | ⟨e, hok, hno⟩
    · subst e; exact ⟨S, Or.inr (Or.inl ⟨hno, by rw [hr, cThr_IO]; rfl⟩)⟩
    · subst e; exact ⟨S, Or.inr (Or.inr ⟨hno, by rw [hr, cThr_IA]; rfl⟩)⟩
set_option maxRecDepth 100000 in
theorem k_heard (l : Launch) (hfl : l.stackTraces = false) {V : Nat → Int32} {H : List (Nat → Int32)} {mi : MI} {ml : MJ} (S : ST V H mi ml) (a c : Int32) : CtH l yL_heard (.codeWith yL_heard cL_heard 4 (some .int) [((0 : Nat), (6 : Nat), (7 : Nat), (15 : Nat))]) 7 2 12 [.ref 0, .int a, .int c] (wl mi ml) (QI (fun r mi9 ml9 => ST V H mi9 ml9 ∧ (((okS V a ∧ (0 ≤ c.toInt ∧ c.toInt < 64)) ∧ ∃ s ch : Nat, a.toInt = (s : Int) ∧ c.toInt = (ch : Int) ∧ r.toInt = (hbS V (nV V) s ch (mV V) : Int)) ∨ (¬ (okS V a ∧ (0 ≤ c.toInt ∧ c.toInt < 64)) ∧ r.toInt = -901)))) noX := by
  obtain ⟨p, hp4, hs4, hp, hsz, hh⟩ := id S.2.2.1
  have wn := wf_n S.1
  have wm := wf_m S.1
  have wt := wf_t S.1
  have z9 := S.2.2.2.2
  refine CtH.mono (h_L_heard l hfl mi ml V S.1 S.2.1 (nV V) wn.1 wn.2 (mV V) wm.1 wm.2 a c _ _ rfl rfl) (fun rv w hq => ?_)
  obtain ⟨r, mi9, ml9, e1, e2, hq⟩ := hq
  refine ⟨r, mi9, ml9, e1, e2, ?_⟩
  rcases hq with ⟨hF, hL, ha, hc, hx⟩ | ⟨En, ⟨hmi, hml, e, hno⟩, hr⟩
  · exact ⟨S.q2z hF (by rw [hL 56 (by decide), hL 57 (by decide)]; exact z9), Or.inl ⟨⟨ha, hc⟩, hx⟩⟩
  · subst hmi; subst hml; subst e
    exact ⟨S, Or.inr ⟨hno, by rw [hr, cThr_IA]; rfl⟩⟩
set_option maxRecDepth 100000 in
theorem k_bestTest (l : Launch) (hfl : l.stackTraces = false) {V : Nat → Int32} {H : List (Nat → Int32)} {mi : MI} {ml : MJ} (S : ST V H mi ml) (a : Int32) : CtH l yL_bestTest (.codeWith yL_bestTest cL_bestTest 3 (some .int) [((0 : Nat), (5 : Nat), (6 : Nat), (15 : Nat))]) 7 1 6 [.ref 0, .int a] (wl mi ml) (QI (fun r mi9 ml9 => ST V H mi9 ml9 ∧ ((okS V a ∧ 0 ≤ r.toInt) ∨ (¬ okS V a ∧ r.toInt = -901)))) noX := by
  obtain ⟨p, hp4, hs4, hp, hsz, hh⟩ := id S.2.2.1
  have wn := wf_n S.1
  have wm := wf_m S.1
  have wt := wf_t S.1
  have z9 := S.2.2.2.2
  refine CtH.mono (h_L_bestTest l hfl mi ml V S.1 S.2.1 (nV V) wn.1 wn.2 (mV V) wm.1 wm.2 (tV V) wt.1 wt.2 a _ rfl) (fun rv w hq => ?_)
  obtain ⟨r, mi9, ml9, e1, e2, hq⟩ := hq
  refine ⟨r, mi9, ml9, e1, e2, ?_⟩
  rcases hq with ⟨hF, hL, ha, act, _, hx⟩ | ⟨En, ⟨hmi, hml, e, hno⟩, hr⟩
  · exact ⟨S.q2z hF (by rw [hL 56 (by decide), hL 57 (by decide)]; exact z9), Or.inl ⟨ha, by omega⟩⟩
  · subst hmi; subst hml; subst e
    exact ⟨S, Or.inr ⟨hno, by rw [hr, cThr_IA]; rfl⟩⟩
set_option maxRecDepth 100000 in
theorem k_append (l : Launch) (hfl : l.stackTraces = false) {V : Nat → Int32} {H : List (Nat → Int32)} {mi : MI} {ml : MJ} (S : ST V H mi ml) (a : Int32) (ha : ¬ (0 ≤ a.toInt ∧ a.toInt ≤ 127)) : CtH l yL_append (.codeWith yL_append cL_append 3 (some .int) [((0 : Nat), (5 : Nat), (6 : Nat), (15 : Nat)), ((0 : Nat), (5 : Nat), (11 : Nat), (17 : Nat))]) 3 1 6 [.ref 0, .int a] (wl mi ml) (QI (fun r mi9 ml9 => ST V H mi9 ml9 ∧ (r.toInt = -901))) noX := by
  obtain ⟨p, hp4, hs4, hp, hsz, hh⟩ := id S.2.2.1
  have wn := wf_n S.1
  have wm := wf_m S.1
  have wt := wf_t S.1
  have z9 := S.2.2.2.2
  refine CtH.mono (h_L_append l hfl mi ml 0 S.2.2.2.1 (Nat.zero_le _) a _ rfl) (fun rv w hq => ?_)
  obtain ⟨r, mi9, ml9, e1, e2, hq⟩ := hq
  refine ⟨r, mi9, ml9, e1, e2, ?_⟩
  rcases hq with ⟨_, hok, _⟩ | ⟨En, ⟨hmi, hml, hx⟩, hr⟩
  · exact absurd hok ha
  · subst hmi; subst hml
    rcases hx with ⟨e, hno⟩ | ⟨e, hok, hno⟩
    · subst e; exact ⟨S, by rw [hr, cThr_IA]; rfl⟩
    · exact absurd hok ha
set_option maxRecDepth 100000 in
theorem k_undo (l : Launch) (hfl : l.stackTraces = false) {V : Nat → Int32} {H : List (Nat → Int32)} {mi : MI} {ml : MJ} (S : ST V H mi ml) : CtH l yL_undo (.codeWith yL_undo cL_undo 2 (some .int) [((0 : Nat), (4 : Nat), (5 : Nat), (17 : Nat))]) 3 1 6 [.ref 0] (wl mi ml) (QI (fun r mi9 ml9 => ∃ V2 H2, ST V2 H2 mi9 ml9 ∧ ((H = [] ∧ r.toInt = -902 ∧ V = V2 ∧ H = H2) ∨ (∃ U T, H = U :: T ∧ U = V2 ∧ T = H2 ∧ 0 ≤ r.toInt)))) noX := by
  obtain ⟨p, hp4, hs4, hp, hsz, hh⟩ := id S.2.2.1
  have wn := wf_n S.1
  have wm := wf_m S.1
  have wt := wf_t S.1
  have z9 := S.2.2.2.2
  refine CtH.mono (h_L_undo l hfl mi ml p H.length hp hp4 hsz hs4) (fun rv w hq => ?_)
  obtain ⟨r, mi9, ml9, e1, e2, hq⟩ := hq
  refine ⟨r, mi9, ml9, e1, e2, ?_⟩
  rcases hq with ⟨hml, h0, hr, hP⟩ | ⟨En, ⟨hmi, hml, e, hno⟩, hr⟩
  · subst hml
    cases H with
    | nil => exact absurd h0 (Nat.lt_irrefl 0)
    | cons U T =>
      refine ⟨U, T, S.un hp hP, Or.inr ⟨U, T, rfl, rfl, rfl, ?_⟩⟩
      rw [hr, hP.2.2.1]
      omega
  · subst hmi; subst hml; subst e
    cases H with
    | nil => exact ⟨V, [], S, Or.inl ⟨rfl, by rw [hr, cThr_IS]; rfl, rfl, rfl⟩⟩
    | cons U T => exact absurd (Nat.succ_pos _) hno
theorem j_channels (l : Launch) (hfl : l.stackTraces = false) {V : Nat → Int32} {H : List (Nat → Int32)} {mi : MI} {ml : MJ} (S : ST V H mi ml) : Ct l yX5_channels (.code yX5_channels cX5_channels 4 (some .long)) 2 0 0 [.ref 0] (wl mi ml) (QJ (fun r mi9 ml9 => ST V H mi9 ml9 ∧ (r = chS (fun j => V (6 + 2 * j)) (nV V)))) noX := by
  obtain ⟨p, hp4, hs4, hp, hsz, hh⟩ := id S.2.2.1
  have wn := wf_n S.1
  have wm := wf_m S.1
  have wt := wf_t S.1
  have z9 := S.2.2.2.2
  refine Ct.mono (c_X5_channels l hfl mi ml V S.1 S.2.1 (nV V) wn.1 wn.2) (fun rv w hq => ?_)
  obtain ⟨e1, e2⟩ := hq
  exact ⟨_, mi, ml, e1, e2, S, rfl⟩
theorem j_products (l : Launch) (hfl : l.stackTraces = false) {V : Nat → Int32} {H : List (Nat → Int32)} {mi : MI} {ml : MJ} (S : ST V H mi ml) : Ct l yX5_products (.code yX5_products cX5_products 1 (some .int)) 4 0 0 [.ref 0] (wl mi ml) (QI (fun r mi9 ml9 => ST V H mi9 ml9 ∧ (r.toInt = ((prV V (2 ^ nV V - 1) (nV V)).length : Int)))) noX := by
  obtain ⟨p, hp4, hs4, hp, hsz, hh⟩ := id S.2.2.1
  have wn := wf_n S.1
  have wm := wf_m S.1
  have wt := wf_t S.1
  have z9 := S.2.2.2.2
  refine Ct.mono (c_X5_products l hfl mi ml V S.1 S.2.1 (nV V) wn.1 wn.2) (fun rv w hq => ?_)
  obtain ⟨r, mi9, ml9, e1, e2, hml, hF, hr⟩ := hq
  exact ⟨r, mi9, ml9, e1, e2, S.q2 hF hml.symm, hr⟩
theorem j_hits (l : Launch) (hfl : l.stackTraces = false) {V : Nat → Int32} {H : List (Nat → Int32)} {mi : MI} {ml : MJ} (S : ST V H mi ml) : Ct l yX5_hits (.code yX5_hits cX5_hits 3 (some .int)) 4 0 0 [.ref 0] (wl mi ml) (QI (fun r mi9 ml9 => ST V H mi9 ml9 ∧ (r.toInt = (hsA V (prV V (2 ^ nV V - 1) (nV V)) (nV V) : Int)))) noX := by
  obtain ⟨p, hp4, hs4, hp, hsz, hh⟩ := id S.2.2.1
  have wn := wf_n S.1
  have wm := wf_m S.1
  have wt := wf_t S.1
  have z9 := S.2.2.2.2
  refine Ct.mono (c_X5_hits l hfl mi ml V S.1 S.2.1 (nV V) wn.1 wn.2) (fun rv w hq => ?_)
  obtain ⟨r, mi9, ml9, e1, e2, hml, hF, hr⟩ := hq
  exact ⟨r, mi9, ml9, e1, e2, S.q2 hF hml.symm, hr⟩
theorem j_isClean (l : Launch) (hfl : l.stackTraces = false) {V : Nat → Int32} {H : List (Nat → Int32)} {mi : MI} {ml : MJ} (S : ST V H mi ml) : Ct l yX5_isClean (.code yX5_isClean cX5_isClean 1 (some .boolean)) 5 0 0 [.ref 0] (wl mi ml) (QI (fun r mi9 ml9 => ST V H mi9 ml9 ∧ (r = bI (ClR (DV V) (V 3).toInt (V 4).toInt (nV V))))) noX := by
  obtain ⟨p, hp4, hs4, hp, hsz, hh⟩ := id S.2.2.1
  have wn := wf_n S.1
  have wm := wf_m S.1
  have wt := wf_t S.1
  have z9 := S.2.2.2.2
  refine Ct.mono (c_X5_isClean l hfl mi ml V S.1 S.2.1 (nV V) wn.1 wn.2 S.2.2.2.2) (fun rv w hq => ?_)
  obtain ⟨r, mi9, ml9, e1, e2, hF, hL, hz9, hr⟩ := hq
  exact ⟨r, mi9, ml9, e1, e2, S.q3 hF hz9, hr⟩
theorem j_closest (l : Launch) (hfl : l.stackTraces = false) {V : Nat → Int32} {H : List (Nat → Int32)} {mi : MI} {ml : MJ} (S : ST V H mi ml) : Ct l yX5_closest (.code yX5_closest cX5_closest 5 (some .int)) 2 0 0 [.ref 0] (wl mi ml) (QI (fun r mi9 ml9 => ST V H mi9 ml9 ∧ (mnP (fun a b => (V (6 + 2 * a)).toInt - (V (6 + 2 * b)).toInt) (fun a1 b1 => a1 < nV V ∧ b1 < nV V) r.toInt))) noX := by
  obtain ⟨p, hp4, hs4, hp, hsz, hh⟩ := id S.2.2.1
  have wn := wf_n S.1
  have wm := wf_m S.1
  have wt := wf_t S.1
  have z9 := S.2.2.2.2
  refine Ct.mono (c_X5_closest l hfl mi ml V S.1 S.2.1 (nV V) wn.1 wn.2) (fun rv w hq => ?_)
  obtain ⟨r, mi9, ml9, e1, e2, hmi, hml, hr⟩ := hq
  subst hmi; subst hml
  exact ⟨r, mi, ml, e1, e2, S, hr⟩
theorem j_removal (l : Launch) (hfl : l.stackTraces = false) {V : Nat → Int32} {H : List (Nat → Int32)} {mi : MI} {ml : MJ} (S : ST V H mi ml) : Ct l yX5_removal (.code yX5_removal cX5_removal 4 (some .int)) 5 0 0 [.ref 0] (wl mi ml) (QI (fun r mi9 ml9 => ST V H mi9 ml9 ∧ (∃ b : Nat, r.toInt = (b : Int) ∧ rmS V (nV V) b))) noX := by
  obtain ⟨p, hp4, hs4, hp, hsz, hh⟩ := id S.2.2.1
  have wn := wf_n S.1
  have wm := wf_m S.1
  have wt := wf_t S.1
  have z9 := S.2.2.2.2
  refine Ct.mono (c_X5_removal l hfl mi ml V S.1 S.2.1 (nV V) wn.1 wn.2 S.2.2.2.2) (fun rv w hq => ?_)
  obtain ⟨r, mi9, ml9, e1, e2, hF, hL, hz9, hr⟩ := hq
  exact ⟨r, mi9, ml9, e1, e2, S.q3 hF hz9, hr⟩
theorem j_diagnoses (l : Launch) (hfl : l.stackTraces = false) {V : Nat → Int32} {H : List (Nat → Int32)} {mi : MI} {ml : MJ} (S : ST V H mi ml) : Ct l yX5_diagnoses (.code yX5_diagnoses cX5_diagnoses 1 (some .int)) 2 0 0 [.ref 0] (wl mi ml) (QI (fun r mi9 ml9 => ST V H mi9 ml9 ∧ (r.toInt = (((fitL V (nV V) (mV V) (tV V) (2 ^ mV V)).length : Nat) : Int)))) noX := by
  obtain ⟨p, hp4, hs4, hp, hsz, hh⟩ := id S.2.2.1
  have wn := wf_n S.1
  have wm := wf_m S.1
  have wt := wf_t S.1
  have z9 := S.2.2.2.2
  refine Ct.mono (c_X5_diagnoses l hfl mi ml V S.1 S.2.1 (nV V) wn.1 wn.2 (mV V) wm.1 wm.2 (tV V) wt.1 wt.2) (fun rv w hq => ?_)
  obtain ⟨r, mi9, ml9, e1, e2, hmi, hml, hr⟩ := hq
  subst hmi; subst hml
  exact ⟨r, mi, ml, e1, e2, S, hr⟩
theorem j_diagnosis (l : Launch) (hfl : l.stackTraces = false) {V : Nat → Int32} {H : List (Nat → Int32)} {mi : MI} {ml : MJ} (S : ST V H mi ml) : Ct l yX5_diagnosis (.code yX5_diagnosis cX5_diagnosis 3 (some .int)) 1 0 0 [.ref 0] (wl mi ml) (QI (fun r mi9 ml9 => ST V H mi9 ml9 ∧ (r.toInt = bsF (fitL V (nV V) (mV V) (tV V) (2 ^ mV V))))) noX := by
  obtain ⟨p, hp4, hs4, hp, hsz, hh⟩ := id S.2.2.1
  have wn := wf_n S.1
  have wm := wf_m S.1
  have wt := wf_t S.1
  have z9 := S.2.2.2.2
  refine Ct.mono (c_X5_diagnosis l hfl mi ml V S.1 S.2.1 (nV V) wn.1 wn.2 (mV V) wm.1 wm.2 (tV V) wt.1 wt.2) (fun rv w hq => ?_)
  obtain ⟨r, mi9, ml9, e1, e2, hmi, hml, hr⟩ := hq
  subst hmi; subst hml
  exact ⟨r, mi, ml, e1, e2, S, hr⟩
theorem j_certain (l : Launch) (hfl : l.stackTraces = false) {V : Nat → Int32} {H : List (Nat → Int32)} {mi : MI} {ml : MJ} (S : ST V H mi ml) (xb : Int32) (Q : Prop) (hxb : xb = bI Q) : Ct l yX5_certain (.code yX5_certain cX5_certain 5 (some .int)) 1 0 0 [.ref 0, .int xb] (wl mi ml) (QI (fun r mi9 ml9 => ST V H mi9 ml9 ∧ (r = ctF Q (nI (2 ^ mV V - 1)) (fitL V (nV V) (mV V) (tV V) (2 ^ mV V))))) noX := by
  obtain ⟨p, hp4, hs4, hp, hsz, hh⟩ := id S.2.2.1
  have wn := wf_n S.1
  have wm := wf_m S.1
  have wt := wf_t S.1
  have z9 := S.2.2.2.2
  subst hxb
  refine Ct.mono (c_X5_certain l hfl mi ml V S.1 S.2.1 (nV V) wn.1 wn.2 (mV V) wm.1 wm.2 (tV V) wt.1 wt.2 _ Q rfl) (fun rv w hq => ?_)
  obtain ⟨r, mi9, ml9, e1, e2, hmi, hml, hr⟩ := hq
  subst hmi; subst hml
  exact ⟨r, mi, ml, e1, e2, S, hr⟩
theorem j_digest (l : Launch) (hfl : l.stackTraces = false) {V : Nat → Int32} {H : List (Nat → Int32)} {mi : MI} {ml : MJ} (S : ST V H mi ml) : Ct l yX5_digest (.code yX5_digest cX5_digest 5 (some .long)) 6 0 0 [.ref 0] (wl mi ml) (QJ (fun r mi9 ml9 => ST V H mi9 ml9 ∧ (r = hF9 3067 (dgL V 0 (nV V) (mV V) (tV V) H.length)))) noX := by
  obtain ⟨p, hp4, hs4, hp, hsz, hh⟩ := id S.2.2.1
  have wn := wf_n S.1
  have wm := wf_m S.1
  have wt := wf_t S.1
  have z9 := S.2.2.2.2
  refine Ct.mono (c_X5_digest l hfl mi ml V S.1 S.2.1 (nV V) wn.1 wn.2 (mV V) wm.1 wm.2 (tV V) wt.1 wt.2 0 S.2.2.2.1 (Nat.zero_le _) H.length hsz) (fun rv w hq => ?_)
  obtain ⟨r, mi9, ml9, e1, e2, hml, hF, hr⟩ := hq
  exact ⟨r, mi9, ml9, e1, e2, S.q2 hF hml.symm, hr⟩
end KRW
