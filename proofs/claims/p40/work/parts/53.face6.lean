section FA6
/-- two rows' data that agree on the first n carriers -/
def eqD (n : Nat) (D D' : RD) : Prop := D'.1 = D.1 ∧ D'.2.1 = D.2.1 ∧ D'.2.2.1 = D.2.2.1 ∧ ∀ k, k < n → D'.2.2.2.1 k = D.2.2.2.1 k ∧ D'.2.2.2.2 k = D.2.2.2.2 k
theorem eqD.ch {n : Nat} {D D' : RD} (h : eqD n D D') {kd a b c : Nat} (ha : a < n) (hb : b < n) (hc : c < n) : pCh D' kd a b c = pCh D kd a b c := by
  unfold pCh
  rw [(h.2.2.2 a ha).1, (h.2.2.2 b hb).1, (h.2.2.2 c hc).1]
theorem eqD.lv {n : Nat} {D D' : RD} (h : eqD n D D') {kd a b c : Nat} (ha : a < n) (hb : b < n) (hc : c < n) : pLv D' kd a b c = pLv D kd a b c := by
  unfold pLv
  rw [h.2.1, h.2.2.1, (h.2.2.2 a ha).2, (h.2.2.2 b hb).2]
  rcases Decidable.em (kd = 0) with q | q
  · rw [if_pos q, (h.2.2.2 a ha).2]
  · rw [if_neg q, (h.2.2.2 c hc).2]
theorem eqD.sg {n : Nat} {D D' : RD} (h : eqD n D D') {kd a b c : Nat} (ha : a < n) (hb : b < n) (hc : c < n) : Sg D' kd a b c = Sg D kd a b c := by
  unfold Sg
  rw [h.ch ha hb hc, h.lv ha hb hc, h.1]
theorem stC_c {n : Nat} {D D' : RD} (h : eqD n D D') {s kd a b : Nat} (ha : a < n) (hb : b < n) : ∀ c, c ≤ n → stC D' s kd a b c = stC D s kd a b c
  | 0, _ => rfl
  | c + 1, hc => by rw [stC, stC, stC_c h ha hb c (by omega), h.sg ha hb (show c < n by omega)]
theorem nCs_le {n kd : Nat} (h : 0 < n) : nCs n kd ≤ n := by unfold nCs; split <;> omega
theorem stB_c {n : Nat} {D D' : RD} (h : eqD n D D') {s kd a : Nat} (ha : a < n) : ∀ b, b ≤ n → stB D' s n kd a b = stB D s n kd a b
  | 0, _ => rfl
  | b + 1, hb => by rw [stB, stB, stB_c h ha b (by omega), stC_c h ha (show b < n by omega) _ (nCs_le (by omega))]
theorem stA_c {n : Nat} {D D' : RD} (h : eqD n D D') {s kd : Nat} : ∀ a, a ≤ n → stA D' s n kd a = stA D s n kd a
  | 0, _ => rfl
  | a + 1, ha => by rw [stA, stA, stA_c h a (by omega), stB_c h (show a < n by omega) n (Nat.le_refl n)]
theorem stK_c {n : Nat} {D D' : RD} (h : eqD n D D') {s : Nat} : ∀ kd, stK D' s n kd = stK D s n kd
  | 0 => rfl
  | kd + 1 => by rw [stK, stK, stK_c h kd, stA_c h n (Nat.le_refl n)]
theorem stC_m {D : RD} {s kd a b : Nat} {q : Q4} : ∀ {c : Nat}, q ∈ stC D s kd a b c → q.2.1 = a ∧ q.2.2.1 = b ∧ q.2.2.2 < c
  | 0, h => by cases h
  | c + 1, h => by
    rw [stC] at h
    rcases List.mem_append.mp h with h | h
    · have := stC_m h; omega
    · rcases Classical.em (vC s kd a b c ∧ Sg D kd a b c) with z | z
      · rw [ifp_t z] at h
        rw [List.mem_singleton.mp h]
        exact ⟨rfl, rfl, Nat.lt_succ_self c⟩
      · rw [ifp_f z] at h
        cases h
theorem stB_m {D : RD} {s n kd a : Nat} {q : Q4} (hn : 0 < n) : ∀ {b : Nat}, q ∈ stB D s n kd a b → q.2.1 = a ∧ q.2.2.1 < b ∧ q.2.2.2 < n
  | 0, h => by cases h
  | b + 1, h => by
    rw [stB] at h
    rcases List.mem_append.mp h with h | h
    · have := stB_m hn h; omega
    · rcases Classical.em (vB s kd a b) with z | z
      · rw [ifp_t z] at h
        have h1 := stC_m h
        have h2 := nCs_le (kd := kd) hn
        omega
      · rw [ifp_f z] at h
        cases h
theorem stA_m {D : RD} {s n kd : Nat} {q : Q4} : ∀ {a : Nat}, a ≤ n → q ∈ stA D s n kd a → q.2.1 < n ∧ q.2.2.1 < n ∧ q.2.2.2 < n
  | 0, _, h => by cases h
  | a + 1, ha, h => by
    rw [stA] at h
    rcases List.mem_append.mp h with h | h
    · exact stA_m (by omega) h
    · have := stB_m (by omega) h; omega
theorem stK_m {D : RD} {s n : Nat} {q : Q4} : ∀ {kd : Nat}, q ∈ stK D s n kd → q.2.1 < n ∧ q.2.2.1 < n ∧ q.2.2.2 < n
  | 0, h => by cases h
  | kd + 1, h => by
    rw [stK] at h
    rcases List.mem_append.mp h with h | h
    · exact stK_m h
    · exact stA_m (Nat.le_refl n) h
theorem foA_c {n : Nat} {D D' : RD} (h : eqD n D D') {L : List Q4} (hL : ∀ q, q ∈ L → q.2.1 < n ∧ q.2.2.1 < n ∧ q.2.2.2 < n) : ∀ i, foA D' L i = foA D L i
  | 0 => rfl
  | i + 1 => by
    rw [foA, foA, foA_c h hL i]
    cases e : L[i]? with
    | none => rfl
    | some q =>
      have h1 := hL q (List.mem_of_getElem? e)
      simp only [h.ch h1.1 h1.2.1 h1.2.2]
theorem eqD_V {V V' : Nat → Int32} {n : Nat} (e : ∀ k, k < 26 → V' k = V k) (h10 : n ≤ 10) : eqD n (DV V) (DV V') := by
  refine ⟨?_, ?_, ?_, fun k hk => ⟨?_, ?_⟩⟩
  · simp only [DV]; rw [e 0 (by decide)]
  · simp only [DV]; rw [e 1 (by decide)]
  · simp only [DV]; rw [e 2 (by decide)]
  · simp only [DV]; rw [e (6 + 2 * k) (by omega)]
  · simp only [DV]; rw [e (7 + 2 * k) (by omega)]
theorem prV_c {V V' : Nat → Int32} {n : Nat} (e : ∀ k, k < 26 → V' k = V k) (h10 : n ≤ 10) (s : Nat) : prV V' s n = prV V s n := stK_c (eqD_V e h10) 3
theorem hbS_c {V V' : Nat → Int32} {n act ch : Nat} (e : ∀ k, k < 32 → V' k = V k) (h10 : n ≤ 10) : ∀ m, m ≤ 5 → hbS V' n act ch m = hbS V n act ch m
  | 0, _ => rfl
  | m + 1, h => by
    have e2 : ∀ k, k < 26 → V' k = V k := fun k hk => e k (by omega)
    have hP : hbP V' n act ch m = hbP V n act ch m := by
      unfold hbP
      rw [e (27 + m) (by omega), prV_c e2 h10, foA_c (L := prV V ((V (27 + m)).toInt.toNat &&& act) n) (eqD_V e2 h10) (fun q hq => stK_m (kd := 3) hq)]
    rw [hbS, hbS, hbS_c e h10 m (by omega), hP]
/-- the block with one more test -/
def ATV (V : Nat → Int32) (t : Nat) (a c h : Int32) : Nat → Int32 := fun k => if k = 33 + 3 * t then a else if k = 34 + 3 * t then c else if k = 35 + 3 * t then h else if k = 32 then V 32 + 1 else V k
theorem ATV_n {V : Nat → Int32} {t : Nat} {a c h : Int32} {k : Nat} (h1 : k < 33 + 3 * t) (h2 : k ≠ 32) : ATV V t a c h k = V k := by
  unfold ATV
  rw [if_neg (by omega), if_neg (by omega), if_neg (by omega), if_neg h2]
theorem ATV_32 {V : Nat → Int32} {t : Nat} {a c h : Int32} : ATV V t a c h 32 = V 32 + 1 := by
  unfold ATV
  rw [if_neg (by omega), if_neg (by omega), if_neg (by omega), if_pos rfl]
theorem ATV_a {V : Nat → Int32} {t : Nat} {a c h : Int32} : ATV V t a c h (33 + 3 * t) = a := if_pos rfl
theorem ATV_b {V : Nat → Int32} {t : Nat} {a c h : Int32} : ATV V t a c h (34 + 3 * t) = c := by unfold ATV; rw [if_neg (by omega), if_pos rfl]
theorem ATV_c {V : Nat → Int32} {t : Nat} {a c h : Int32} : ATV V t a c h (35 + 3 * t) = h := by unfold ATV; rw [if_neg (by omega), if_neg (by omega), if_pos rfl]
theorem ATV_W {V : Nat → Int32} {n t : Nat} {a c h : Int32} (hw : WFV V) (hn : (V 5).toInt = (n : Int)) (ht : (V 32).toInt = (t : Int)) (hlt : t < 16) (hA : 0 ≤ a.toInt ∧ a.toInt ≤ ((2 ^ n - 1 : Nat) : Int)) (hC : 0 ≤ c.toInt ∧ c.toInt ≤ 63) (hH : h = 0 ∨ h = 1) : WFV (ATV V t a c h) :=
  WFV_T hw hn ht hlt hA hC hH (fun k h1 h2 => ATV_n h1 h2) ATV_a ATV_b ATV_c (by rw [ATV_32]; exact tI_add ht (show (1 : Int32).toInt = 1 from rfl) (by omega))
theorem ATV_D {V : Nat → Int32} {mk mq : MI} {n m t : Nat} {a c h u : Int32} (hw : WFV V) (hD : DR 1 mk V) (hn : (V 5).toInt = (n : Int)) (h10 : n ≤ 10) (hm : (V 26).toInt = (m : Int)) (h5 : m ≤ 5) (ht : (V 32).toInt = (t : Int)) (hlt : t < 16)
    (hu : u.toInt = (hbS V n a.toInt.toNat c.toInt.toNat m : Int)) (e : u2 (u2 (u2 (u2 (u2 mk 5 t a) 6 t c) 7 t h) 8 t u) 1 10 (V 32 + 1) = mq) : DR 1 mq (ATV V t a c h) := by
  obtain ⟨d1, d2, d3, d4, d5⟩ := hD
  have en : ∀ k, k < 33 + 3 * t → k ≠ 32 → ATV V t a c h k = V k := fun k h1 h2 => ATV_n h1 h2
  have eh : ∀ act ch, hbS (ATV V t a c h) n act ch m = hbS V n act ch m := fun act ch => hbS_c (fun k hk => ATV_n (by omega) (by omega)) h10 m h5
  have r1 : ∀ k, k ≠ 10 → mq 1 k = mk 1 k := fun k hk => by
    rw [← e, u2_n (Or.inr hk), u2_p (by decide), u2_p (by decide), u2_p (by decide), u2_p (by decide)]
  have r2 : ∀ p, p ≠ 1 → p ≠ 5 → p ≠ 6 → p ≠ 7 → p ≠ 8 → mq p = mk p := fun p h1 h2 h3 h4 h6 => by
    rw [← e, u2_p h1, u2_p h6, u2_p h4, u2_p h3, u2_p h2]
  have x1 := tI_add ht (show (1 : Int32).toInt = 1 from rfl) (by omega)
  refine ⟨?_, ?_, fun k hk => ?_, fun k hk => ?_, fun j hj => ?_⟩
  · rw [r1 0 (by decide), r1 1 (by decide), r1 2 (by decide), r1 3 (by decide), r1 4 (by decide), en 0 (by omega) (by decide), en 1 (by omega) (by decide), en 2 (by omega) (by decide), en 3 (by omega) (by decide), en 4 (by omega) (by decide)]
    exact d1
  · rw [r1 5 (by decide), r1 8 (by decide), en 5 (by omega) (by decide), en 26 (by omega) (by decide), ATV_32]
    exact ⟨d2.1, d2.2.1, by rw [← e, u2_s]⟩
  · rw [en 5 (by omega) (by decide), hn] at hk
    rw [r2 (1 + 1) (by decide) (by decide) (by decide) (by decide) (by decide), r2 (1 + 2) (by decide) (by decide) (by decide) (by decide) (by decide), en (6 + 2 * k) (by omega) (by omega), en (7 + 2 * k) (by omega) (by omega)]
    exact d3 k (by omega)
  · rw [en 26 (by omega) (by decide), hm] at hk
    rw [r2 (1 + 3) (by decide) (by decide) (by decide) (by decide) (by decide), en (27 + k) (by omega) (by omega)]
    exact d4 k (by omega)
  · rw [ATV_32, x1] at hj
    rw [en 5 (by omega) (by decide), en 26 (by omega) (by decide), show (V 5).toInt.toNat = n by omega, show (V 26).toInt.toNat = m by omega, eh]
    have p5 : mq (1 + 4) j = if j = t then a else mk (1 + 4) j := by
      rw [← e, u2_p (by decide), u2_p (by decide), u2_p (by decide), u2_p (by decide)]
      split
      · next q => subst q; exact u2_s _ _ _ _
      · next q => exact u2_n (Or.inr q)
    have p6 : mq (1 + 5) j = if j = t then c else mk (1 + 5) j := by
      rw [← e, u2_p (by decide), u2_p (by decide), u2_p (by decide)]
      split
      · next q => subst q; exact u2_s _ _ _ _
      · next q => rw [show (1 + 5) = 6 from rfl, u2_n (Or.inr q), u2_p (by decide)]
    have p7 : mq (1 + 6) j = if j = t then h else mk (1 + 6) j := by
      rw [← e, u2_p (by decide), u2_p (by decide)]
      split
      · next q => subst q; exact u2_s _ _ _ _
      · next q => rw [show (1 + 6) = 7 from rfl, u2_n (Or.inr q), u2_p (by decide), u2_p (by decide)]
    have p8 : mq (1 + 7) j = if j = t then u else mk (1 + 7) j := by
      rw [← e, u2_p (by decide)]
      split
      · next q => subst q; exact u2_s _ _ _ _
      · next q => rw [show (1 + 7) = 8 from rfl, u2_n (Or.inr q), u2_p (by decide), u2_p (by decide), u2_p (by decide)]
    rw [p5, p6, p7, p8]
    rcases Nat.lt_or_ge j t with q | q
    · rw [if_neg (by omega), if_neg (by omega), if_neg (by omega), if_neg (by omega)]
      have h9 := d5 j (by omega)
      rw [show (V 5).toInt.toNat = n by omega, show (V 26).toInt.toNat = m by omega] at h9
      unfold tA tC
      rw [en (33 + 3 * j) (by omega) (by omega), en (34 + 3 * j) (by omega) (by omega), en (35 + 3 * j) (by omega) (by omega)]
      exact h9
    · obtain rfl : j = t := by omega
      rw [if_pos rfl, if_pos rfl, if_pos rfl, if_pos rfl]
      unfold tA tC
      rw [ATV_a, ATV_b, ATV_c]
      exact ⟨rfl, rfl, rfl, hu⟩
set_option maxHeartbeats 1600000 in
set_option maxRecDepth 100000 in
theorem c_X5_addTest (l : Launch) (hfl : l.stackTraces = false) (mi : MI) (ml : MJ) (V : Nat → Int32) (hV : WFV V) (hD : DR 1 mi V) (n : Nat) (hn : (V 5).toInt = (n : Int)) (h10 : n ≤ 10) (m : Nat) (hm : (V 26).toInt = (m : Int)) (h5 : m ≤ 5) (t : Nat) (ht : (V 32).toInt = (t : Int)) (h16 : t ≤ 16) (p sz : Nat) (hp : (mi 17 1).toInt = (p : Int)) (hp4 : p < 4) (hsz : (mi 17 2).toInt = (sz : Int)) (hs4 : sz ≤ 4) (a : Int32) (A : Int) (hA : a.toInt = A) (c : Int32) (C : Int) (hC : c.toInt = C) (xb : Int32) (P : Prop) (hxb : xb = bI P) : Ct l yX5_addTest (.code yX5_addTest cX5_addTest 4 (some .int)) 6 3 18 [.ref 0, .int a, .int c, .int (bI (P))] (wl mi ml) (QI (fun r mi9 ml9 => ((0 ≤ A ∧ A ≤ ((2 ^ n - 1 : Nat) : Int)) ∧ (0 ≤ C ∧ C < 64)) ∧ t < 16 ∧ FL60 ml ml9 ∧ WFV (ATV V t a c (bI P)) ∧ DR 1 mi9 (ATV V t a c (bI P)) ∧ (∃ mk, PUS p sz mi mk ∧ Fr [1, 5, 6, 7, 8, 51, 52] mk mi9) ∧ r.toInt = (((fitL (ATV V t a c (bI P)) n m (t + 1) (2 ^ m)).length : Nat) : Int))) (XW (fun En mi9 ml9 => mi = mi9 ∧ ml = ml9 ∧ ((En = xIA ∧ ¬ ((0 ≤ A ∧ A ≤ ((2 ^ n - 1 : Nat) : Int)) ∧ (0 ≤ C ∧ C < 64))) ∨ (En = xIS ∧ ((0 ≤ A ∧ A ≤ ((2 ^ n - 1 : Nat) : Int)) ∧ (0 ≤ C ∧ C < 64)) ∧ ¬ t < 16)))) := by
  subst hxb
  refine Ct_of (ini := false) pn_X5 hfl (fun h => nomatch h) (Nat.le_of_ble_eq_true rfl) ?_
  show E l RX5 cX5_addTest 4 (some .int) false [] (rmE 6 3 18) (wl mi ml) (TgM (wl mi ml) 3 18 (QI (fun r mi9 ml9 => ((0 ≤ A ∧ A ≤ ((2 ^ n - 1 : Nat) : Int)) ∧ (0 ≤ C ∧ C < 64)) ∧ t < 16 ∧ FL60 ml ml9 ∧ WFV (ATV V t a c (bI P)) ∧ DR 1 mi9 (ATV V t a c (bI P)) ∧ (∃ mk, PUS p sz mi mk ∧ Fr [1, 5, 6, 7, 8, 51, 52] mk mi9) ∧ r.toInt = (((fitL (ATV V t a c (bI P)) n m (t + 1) (2 ^ m)).length : Nat) : Int))) (XW (fun En mi9 ml9 => mi = mi9 ∧ ml = ml9 ∧ ((En = xIA ∧ ¬ ((0 ≤ A ∧ A ≤ ((2 ^ n - 1 : Nat) : Int)) ∧ (0 ≤ C ∧ C < 64))) ∨ (En = xIS ∧ ((0 ≤ A ∧ A ≤ ((2 ^ n - 1 : Nat) : Int)) ∧ (0 ≤ C ∧ C < 64)) ∧ ¬ t < 16))))) 0 0 0 [(0, .ref 0), (1, .int a), (2, .int c), (3, .int (bI (P)))] [] (wl mi ml)
  refine E_aload_n 0 dX5_addTest_0 rfl rfl ?_
  refine E_iload_n 1 dX5_addTest_1 rfl rfl ?_
  refine E_callVx (c_X5_needSetOfCarriers l hfl mi ml  n ((congrArg Int32.toInt hD.2.1.1).trans hn) (by omega) a A hA) cw_X5_166 (As := [.int a]) (st := []) wi_yX5_needSetOfCarriers we_yX5_needSetOfCarriers (ci := 5) (q := (RX5, TX5, 7)) rfl rfl (wl_atO tw_0) rfl ⟨Nat.le_of_ble_eq_true rfl, Nat.le_of_ble_eq_true rfl, Nat.le_of_ble_eq_true rfl, Nat.le_of_ble_eq_true rfl⟩ (Nat.le_of_ble_eq_true rfl) dX5_addTest_2 rfl (Nat.le_of_ble_eq_true rfl) (Nat.le_of_ble_eq_true rfl) (XW.w (by rintro _ _ _ ⟨rfl, rfl, rfl, q⟩; exact ⟨rfl, rfl, Or.inl ⟨rfl, fun z => q z.1⟩⟩)) rfl (kV (fun mi_2 ml_2 h_2 => ?_))
  obtain ⟨rfl, rfl, h_2⟩ := h_2
  refine E_iload_n 2 dX5_addTest_5 rfl rfl ?_
  refine E_callSx (c_X5_needChannel l hfl mi ml  c C hC) cw_X5_229 (As := [.int c]) (st := []) ws_yX5_needChannel rfl ⟨Nat.le_of_ble_eq_true rfl, Nat.le_of_ble_eq_true rfl, Nat.le_of_ble_eq_true rfl, Nat.le_of_ble_eq_true rfl⟩ (Nat.le_of_ble_eq_true rfl) dX5_addTest_6 rfl (Nat.le_of_ble_eq_true rfl) (Nat.le_of_ble_eq_true rfl) (XW.w (by rintro _ _ _ ⟨rfl, rfl, rfl, q⟩; exact ⟨rfl, rfl, Or.inl ⟨rfl, fun z => q z.2⟩⟩)) rfl (kV (fun mi_6 ml_6 h_6 => ?_))
  obtain ⟨rfl, rfl, h_6⟩ := h_6
  refine E_aload_n 0 dX5_addTest_9 rfl rfl ?_
  refine gf_X5_10 tw_0 rfl dX5_addTest_10 ?_
  refine gf_X5_127 (V 32) isD_1.t rfl hD.2.1.2.2 dX5_addTest_13 ?_
  refine E_bipush 16 (by decide) dX5_addTest_16 ?_
  refine Z_lt (t : Int) 16 ht (show (16 : Int32).toInt = 16 from rfl) 31 dX5_addTest_18 (by decide) (fun c_18 => ?_) (fun c_18 => ?_)
  · skip
    obtain ⟨act, hact⟩ : ∃ q : Nat, A = (q : Int) := ⟨A.toNat, by omega⟩
    obtain ⟨ch, hch⟩ : ∃ q : Nat, C = (q : Int) := ⟨C.toNat, by omega⟩
    refine E_aload_n 0 dX5_addTest_31 rfl rfl ?_
    refine gf_X5_22 tw_0 rfl dX5_addTest_32 ?_
    refine E_aload_n 0 dX5_addTest_35 rfl rfl ?_
    refine gf_X5_10 tw_0 rfl dX5_addTest_36 ?_
    refine E_callV (c_X2_push l hfl mi ml p sz hp hp4 hsz hs4) cw_X5_72 (As := [.ref 1]) (st := []) wi_yX2_push we_yX2_push (ci := 2) (q := (RX2, TX2, 3)) rfl rfl (wl_atO tw_17) rfl ⟨Nat.le_of_ble_eq_true rfl, Nat.le_of_ble_eq_true rfl, Nat.le_of_ble_eq_true rfl, Nat.le_of_ble_eq_true rfl⟩ (Nat.le_of_ble_eq_true rfl) dX5_addTest_39 (fun _ _ h => h) rfl (kV (fun mi_39 ml_39 h_39 => ?_))
    obtain ⟨rfl, h_39⟩ := h_39
    refine E_aload_n 0 dX5_addTest_42 rfl rfl ?_
    refine E_iload_n 1 dX5_addTest_43 rfl rfl ?_
    refine E_callV (c_X5_mixActive l hfl mi_39 ml V hV (hD.r8 (h_39.1 1 (by decide) (Or.inl (by omega))) (h_39.1 2 (by decide) (Or.inl (by omega))) (h_39.1 3 (by decide) (Or.inl (by omega))) (h_39.1 4 (by decide) (Or.inl (by omega))) (h_39.1 5 (by decide) (Or.inl (by omega))) (h_39.1 6 (by decide) (Or.inl (by omega))) (h_39.1 7 (by decide) (Or.inl (by omega))) (h_39.1 8 (by decide) (Or.inl (by omega)))) n hn h10 m hm h5 a act (hA.trans hact)) cw_X5_234 (As := [.int a]) (st := []) wi_yX5_mixActive we_yX5_mixActive (ci := 5) (q := (RX5, TX5, 7)) rfl rfl (wl_atO tw_0) rfl ⟨Nat.le_of_ble_eq_true rfl, Nat.le_of_ble_eq_true rfl, Nat.le_of_ble_eq_true rfl, Nat.le_of_ble_eq_true rfl⟩ (Nat.le_of_ble_eq_true rfl) dX5_addTest_44 (fun _ _ h => h) rfl (kV (fun mi_44 ml_44 h_44 => ?_))
    refine E_aload_n 0 dX5_addTest_47 rfl rfl ?_
    refine gf_X5_10 tw_0 rfl dX5_addTest_48 ?_
    refine E_iload_n 1 dX5_addTest_51 rfl rfl ?_
    refine E_iload_n 2 dX5_addTest_52 rfl rfl ?_
    refine E_iload_n 3 dX5_addTest_53 rfl rfl ?_
    refine E_aload_n 0 dX5_addTest_54 rfl rfl ?_
    refine E_iload_n 2 dX5_addTest_55 rfl rfl ?_
    refine E_callV (c_X5_mixersOn l hfl mi_44 ml_44 V n m act h5 h_44.2.2 c ch (hC.trans hch) (by omega)) cw_X5_237 (As := [.int c]) (st := [.int (bI (P)), .int c, .int a, .ref 1]) wi_yX5_mixersOn we_yX5_mixersOn (ci := 5) (q := (RX5, TX5, 7)) rfl rfl (wl_atO tw_0) rfl ⟨Nat.le_of_ble_eq_true rfl, Nat.le_of_ble_eq_true rfl, Nat.le_of_ble_eq_true rfl, Nat.le_of_ble_eq_true rfl⟩ (Nat.le_of_ble_eq_true rfl) dX5_addTest_56 (fun _ _ h => h) rfl (kI (fun r_56 mi_56 ml_56 h_56 => ?_))
    obtain ⟨rfl, rfl, h_56⟩ := h_56
    refine E_callV (c_X1_putTest l hfl 1 isD_1 mi_44 ml_44 a c (bI (P)) r_56 P rfl t ((congrArg Int32.toInt ((congrFun (h_44.1 1 (by decide)) 10).trans ((congrFun (h_39.1 1 (by decide) (Or.inl (by omega))) 10).trans hD.2.1.2.2))).trans ht) (by omega) (by omega)) cw_X5_240 (As := [.int a, .int c, .int (bI (P)), .int r_56]) (st := []) wi_yX1_putTest we_yX1_putTest (ci := 1) (q := (RX1, TX1, 15)) rfl rfl (wl_atO isD_1.t) rfl ⟨Nat.le_of_ble_eq_true rfl, Nat.le_of_ble_eq_true rfl, Nat.le_of_ble_eq_true rfl, Nat.le_of_ble_eq_true rfl⟩ (Nat.le_of_ble_eq_true rfl) dX5_addTest_59 (fun _ _ h => h) rfl (kE0 ?_)
    rw [show mi_44 1 10 = V 32 from ((congrFun (h_44.1 1 (by decide)) 10).trans ((congrFun (h_39.1 1 (by decide) (Or.inl (by omega))) 10).trans hD.2.1.2.2))]
    have hWA : WFV (ATV V t a c (bI P)) := ATV_W hV hn ht (by omega) (by rw [hA]; exact h_2) (by rw [hC]; omega) (bI_or P)
    have hDA : DR 1 (u2 (u2 (u2 (u2 (u2 mi_44 5 t a) 6 t c) 7 t (bI (P))) 8 t r_56) 1 10 (V 32 + 1)) (ATV V t a c (bI P)) := ATV_D hV (hD.r8 ((h_44.1 1 (by decide)).trans (h_39.1 1 (by decide) (Or.inl (by omega)))) ((h_44.1 2 (by decide)).trans (h_39.1 2 (by decide) (Or.inl (by omega)))) ((h_44.1 3 (by decide)).trans (h_39.1 3 (by decide) (Or.inl (by omega)))) ((h_44.1 4 (by decide)).trans (h_39.1 4 (by decide) (Or.inl (by omega)))) ((h_44.1 5 (by decide)).trans (h_39.1 5 (by decide) (Or.inl (by omega)))) ((h_44.1 6 (by decide)).trans (h_39.1 6 (by decide) (Or.inl (by omega)))) ((h_44.1 7 (by decide)).trans (h_39.1 7 (by decide) (Or.inl (by omega)))) ((h_44.1 8 (by decide)).trans (h_39.1 8 (by decide) (Or.inl (by omega))))) hn h10 hm h5 ht (by omega) (by rw [hA, hC, hact, hch]; exact h_56) rfl
    have hnA : ((ATV V t a c (bI P)) 5).toInt = (n : Int) := (congrArg Int32.toInt (ATV_n (by omega) (by decide))).trans hn
    have hmA : ((ATV V t a c (bI P)) 26).toInt = (m : Int) := (congrArg Int32.toInt (ATV_n (by omega) (by decide))).trans hm
    have htA : ((ATV V t a c (bI P)) 32).toInt = ((t + 1 : Nat) : Int) := (congrArg Int32.toInt ATV_32).trans ((tI_add ht (show (1 : Int32).toInt = 1 from rfl) (by omega)).trans (by omega))
    refine E_aload_n 0 dX5_addTest_62 rfl rfl ?_
    refine E_callV (c_X5_countDiagnoses l hfl (u2 (u2 (u2 (u2 (u2 mi_44 5 t a) 6 t c) 7 t (bI (P))) 8 t r_56) 1 10 (V 32 + 1)) ml_44 (ATV V t a c (bI P)) hWA hDA n hnA h10 m hmA h5 (t + 1) htA (by omega)) cw_X5_244 (As := []) (st := []) wi_yX5_countDiagnoses we_yX5_countDiagnoses (ci := 5) (q := (RX5, TX5, 7)) rfl rfl (wl_atO tw_0) rfl ⟨Nat.le_of_ble_eq_true rfl, Nat.le_of_ble_eq_true rfl, Nat.le_of_ble_eq_true rfl, Nat.le_of_ble_eq_true rfl⟩ (Nat.le_of_ble_eq_true rfl) dX5_addTest_63 (fun _ _ h => h) rfl (kI (fun r_63 mi_63 ml_63 h_63 => ?_))
    obtain ⟨rfl, rfl, h_63⟩ := h_63
    refine E_iret rfl (Nat.le_of_ble_eq_true rfl) (Nat.le_of_ble_eq_true rfl) dX5_addTest_66 ?_
    exact okQI ⟨⟨h_2, h_6⟩, by omega, h_44.2.1, hWA, hDA, ⟨mi_39, h_39, ((((((Fr.w h_44.1 (by decide)).u (by decide)).u (by decide)).u (by decide)).u (by decide)).u (by decide))⟩, h_63⟩
  · skip
    refine E_throw (cls := "java/lang/IllegalStateException") (names := ["java/lang/RuntimeException", "java/lang/Exception"]) (by decide) fitX wcl_X5_104 wz_IllegalStateException str_232 atIS otIS rfl ⟨Nat.le_of_ble_eq_true rfl, Nat.le_of_ble_eq_true rfl, Nat.le_of_ble_eq_true rfl, Nat.le_of_ble_eq_true rfl⟩ (Nat.le_of_ble_eq_true rfl) (Nat.le_of_ble_eq_true rfl) dX5_addTest_21 dX5_addTest_24 dX5_addTest_25 dX5_addTest_27 dX5_addTest_30 ?_
    exact okXW ⟨rfl, rfl, Or.inr ⟨rfl, ⟨h_2, h_6⟩, by omega⟩⟩
end FA6
