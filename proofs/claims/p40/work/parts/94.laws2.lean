section LWS2
theorem and_z6 (x : Int64) : x &&& 0 = 0 := Int64.toBitVec_inj.mp (by rw [Int64.toBitVec_and]; exact BitVec.and_zero)
theorem lc_z {a b : Int64} (h : a = b) : (lg_cmp a b).toInt = 0 := congrArg Int32.toInt ((lg_cmp_eq a b).mpr h)
theorem fo_all {V : Nat → Int32} {a : Int32} {r : Int64} (h : (∃ s : Nat, a.toInt = (s : Int) ∧ okS V a ∧ r = foA (DV V) (prV V s (nV V)) (prV V s (nV V)).length) ∨ (¬ okS V a ∧ r = -901)) (ha : a.toInt = ((2 ^ nV V - 1 : Nat) : Int)) : r = foA (DV V) (prV V (2 ^ nV V - 1) (nV V)) (prV V (2 ^ nV V - 1) (nV V)).length := by
  rcases h with ⟨s, h1, _, h2⟩ | ⟨h1, _⟩
  · rw [h2, show s = 2 ^ nV V - 1 by omega]
  · exact absurd ⟨by omega, by omega⟩ h1
theorem and_l {x y : Int32} (h : 0 ≤ x.toInt) : 0 ≤ (x &&& y).toInt ∧ (x &&& y).toInt ≤ x.toInt := by rw [Int32.and_comm]; exact and_nn h
theorem fo_part {V : Nat → Int32} {a x : Int32} {r f : Int64} (h : (∃ s : Nat, (a &&& x).toInt = (s : Int) ∧ okS V (a &&& x) ∧ r = foA (DV V) (prV V s (nV V)) (prV V s (nV V)).length) ∨ (¬ okS V (a &&& x) ∧ r = -901)) (ha : a.toInt = ((2 ^ nV V - 1 : Nat) : Int)) (hf : f = foA (DV V) (prV V (2 ^ nV V - 1) (nV V)) (prV V (2 ^ nV V - 1) (nV V)).length) : (r &&& (f ^^^ (-1))) = 0 := by
  have hl := and_l (x := a) (y := x) (by omega)
  rcases h with ⟨s, _, _, h2⟩ | ⟨h1, _⟩
  · rw [h2, hf]; exact fo_sub
  · exact absurd ⟨hl.1, by omega⟩ h1
theorem ch_bit {V : Nat → Int32} {n i : Nat} {r : Int64} {x : Int32} (hw : WFV V) (hn : (V 5).toInt = (n : Int)) (hi : i < n) (hr : r = chS (fun j => V (6 + 2 * j)) n) (hx : x = V (6 + 2 * i)) : ((r >>> (x.toInt64 &&& 63)) &&& 1) = 1 := by
  have hc := hw.ch hn i hi
  obtain ⟨c, hc2⟩ : ∃ c : Nat, (V (6 + 2 * i)).toInt = (c : Int) := ⟨(V (6 + 2 * i)).toInt.toNat, by omega⟩
  rw [hr, hx]
  exact ((chV_Bt hw hn).shr hc2 (by omega)).mpr ⟨i, hi, hc2⟩
theorem ho_l {V : Nat → Int32} {i : Nat} {r : Int32} {f : Nat → Nat} (h : (∃ b, b < nV V ∧ (i : Int) = (b : Int) ∧ r.toInt = (f b : Int)) ∨ (¬ (0 ≤ (i : Int) ∧ (i : Int) < (nV V : Int)) ∧ r.toInt = -903)) (hi : i < nV V) : r.toInt = (f i : Int) := by
  rcases h with ⟨b, h1, h2, h3⟩ | ⟨h, _⟩
  · rw [show i = b by omega]; exact h3
  · omega
theorem hs_add {V : Nat → Int32} {L : List Q4} {i : Nat} {x r : Int32} (hx : x.toInt = (hsA V L i : Int)) (hr : r.toInt = (hcA (DV V) (V 3).toInt (V (6 + 2 * i)).toInt L L.length : Int)) (hL : L.length ≤ 540) (hi : i ≤ 10) : (x + r).toInt = (hsA V L (i + 1) : Int) := by
  have h1 := hsA_le (V := V) hL i
  have h2 := hcA_le (D := DV V) (g := (V 3).toInt) (x := (V (6 + 2 * i)).toInt) (L := L) L.length
  rw [hsA]
  exact (tI_add hx hr (by omega)).trans (by omega)
theorem irem_e {x y : Int32} (hx : 0 ≤ x.toInt) (hy : 0 < y.toInt) : ∃ k : Nat, (x - x / y * y).toInt = (k : Int) ∧ (k : Int) < y.toInt := by
  have h := rem_rng hx hy
  exact ⟨(x - x / y * y).toInt.toNat, by omega, by omega⟩
theorem pr_l {V : Nat → Int32} {x a r : Int32} {i j : Nat} {q : Q4} {L : List Q4} {z : Int} (h : (∃ (i : Nat) (q : Q4) (j : Nat), x.toInt = (i : Int) ∧ L[i]? = some q ∧ a.toInt = (j : Int) ∧ j < 6 ∧ r.toInt = prF (DV V) q j) ∨ (¬ (0 ≤ x.toInt ∧ x.toInt < (L.length : Int)) ∧ r.toInt = -903) ∨ ((0 ≤ x.toInt ∧ x.toInt < (L.length : Int)) ∧ ¬ (0 ≤ a.toInt ∧ a.toInt ≤ 5) ∧ r.toInt = -901)) (hx : x.toInt = (i : Int)) (hq : L[i]? = some q) (ha : a.toInt = (j : Int)) (hj : j < 6) (hz : prF (DV V) q j = z) : r.toInt = z := by
  have hl := (List.getElem?_eq_some_iff.mp hq).1
  rcases h with ⟨i2, q2, j2, h1, h2, h3, _, h4⟩ | ⟨h, _⟩ | ⟨_, h, _⟩
  · obtain rfl : i = i2 := by omega
    obtain rfl : j = j2 := by omega
    rw [hq] at h2
    cases h2
    rw [h4, hz]
  · omega
  · omega
theorem pr_x {V : Nat → Int32} {x a r : Int32} {L : List Q4} (h : (∃ (i : Nat) (q : Q4) (j : Nat), x.toInt = (i : Int) ∧ L[i]? = some q ∧ a.toInt = (j : Int) ∧ j < 6 ∧ r.toInt = prF (DV V) q j) ∨ (¬ (0 ≤ x.toInt ∧ x.toInt < (L.length : Int)) ∧ r.toInt = -903) ∨ ((0 ≤ x.toInt ∧ x.toInt < (L.length : Int)) ∧ ¬ (0 ≤ a.toInt ∧ a.toInt ≤ 5) ∧ r.toInt = -901)) (hx : x.toInt = (L.length : Int)) : r.toInt = -903 := by
  rcases h with ⟨i2, q2, j2, h1, h2, h3, _, h4⟩ | ⟨_, h⟩ | ⟨h, _⟩
  · have hl := (List.getElem?_eq_some_iff.mp h2).1
    omega
  · exact h
  · omega
/-- two cases by the kind, hidden -/
def K3 (k : Nat) (P Q : Prop) : Prop := (k = 1 ∧ P) ∨ (k ≠ 1 ∧ Q)
theorem K3_1 {k : Nat} {P Q : Prop} (h : K3 k P Q) (e : k = 1) : P := h.elim (fun q => q.2) (fun q => absurd e q.1)
theorem K3_0 {k : Nat} {P Q : Prop} (h : K3 k P Q) (e : k ≠ 1) : Q := h.elim (fun q => absurd q.1 e) (fun q => q.2)
theorem okQ_f {D : RD} {s n k a b c : Nat} (h : okQ D s n (k, a, b, c)) : k < 3 ∧ a < n ∧ b < n ∧ a ≠ b ∧ K3 k (a < b ∧ c ≠ a ∧ c ≠ b ∧ c < n) True ∧ (0 ≤ pCh D k a b c ∧ pCh D k a b c ≤ 63) ∧ 0 ≤ pLv D k a b c := by
  obtain ⟨h1, h2, h3, h4, ⟨h5, h6, _, _⟩, h7, h8⟩ := h
  refine ⟨h1, h2, h3, h6, ?_, h8.1, h8.2.2⟩
  by_cases e : k = 1
  · refine Or.inl ⟨e, h5 e, ?_⟩
    have h4' : c < nCs n k := h4
    unfold nCs at h4'
    rw [if_pos e] at h4'
    rcases h7 with q | q
    · exact absurd e q
    · exact ⟨q.1, q.2.1, h4'⟩
  · exact Or.inr ⟨e, trivial⟩
theorem pf_3 (D : RD) (k a b c : Nat) {r : Int} (h : r = prF D (k, a, b, c) 3) : K3 k (r = (c : Int)) (r = -1) := by
  have h2 : r = if k = 1 then (c : Int) else -1 := h
  by_cases e : k = 1
  · rw [if_pos e] at h2; exact Or.inl ⟨e, h2⟩
  · rw [if_neg e] at h2; exact Or.inr ⟨e, h2⟩
theorem key_3 (k a b c : Nat) : K3 k (qKey (k, a, b, c) = 4096 * k + 256 * a + 16 * b + (c + 1)) (qKey (k, a, b, c) = 4096 * k + 256 * a + 16 * b) := by
  have h2 : qKey (k, a, b, c) = 4096 * k + 256 * a + 16 * b + (if k = 1 then c + 1 else 0) := rfl
  by_cases e : k = 1
  · rw [if_pos e] at h2; exact Or.inl ⟨e, h2⟩
  · rw [if_neg e] at h2; exact Or.inr ⟨e, h2⟩
theorem seen_s {V : Nat → Int32} {x f : Int64} {r : Int32} {q : Q4} (hs : (x &&& (f ^^^ (-1))) = 0) (hf : f = foA (DV V) (prV V (2 ^ nV V - 1) (nV V)) (prV V (2 ^ nV V - 1) (nV V)).length) (hr : r.toInt = pCh (DV V) q.1 q.2.1 q.2.2.1 q.2.2.2) (hq : okQ (DV V) (2 ^ nV V - 1) (nV V) q) : ((x ||| ((1 : Int64) <<< (r.toInt64 &&& 63))) &&& (f ^^^ (-1))) = 0 := by
  have hc := hq.2.2.2.2.2.2.1
  obtain ⟨c, hc2⟩ : ∃ c : Nat, pCh (DV V) q.1 q.2.1 q.2.2.1 q.2.2.2 = (c : Int) := ⟨(pCh (DV V) q.1 q.2.1 q.2.2.1 q.2.2.2).toNat, by omega⟩
  have hb := Bt_one (hr.trans hc2) (by omega)
  have hz := (Bt_and hb (Bt_fo V (2 ^ nV V - 1) (nV V)).not).mpr (fun i hi h => h.2 ⟨q, hq, by rw [hc2, h.1]⟩)
  rw [← hf] at hz
  refine lb_ext (fun i hi => ?_)
  have h1 := congrArg (fun z => lb z i) hs
  have h2 := congrArg (fun z => lb z i) hz
  simp only [lb_and, lb_or, lb_0] at h1 h2 ⊢
  cases e1 : lb x i <;> cases e2 : lb ((1 : Int64) <<< (r.toInt64 &&& 63)) i <;> cases e3 : lb (f ^^^ (-1)) i <;> simp_all
theorem go_d : ∀ n, n < 11 → ∀ b, b < 2 ^ n → (nI b &&& (nI (2 ^ n - 1) ^^^ (-1))) = 0 := by decide +kernel
theorem go_all {n b : Nat} {x y : Int32} (hx : x.toInt = (b : Int)) (hb : b ≤ 2 ^ n - 1) (hn : n ≤ 10) (hy : y.toInt = ((2 ^ n - 1 : Nat) : Int)) : (x &&& (y ^^^ (-1))) = 0 := by
  have := Nat.two_pow_pos n
  rw [tI_nIx hx, tI_nIx hy]
  exact go_d n (by omega) b (by omega)
set_option maxHeartbeats 3200000 in
set_option maxRecDepth 100000 in
theorem z_sound (l : Launch) (hfl : l.stackTraces = false) {V : Nat → Int32} {H : List (Nat → Int32)} {mi : MI} {ml : MJ} (S : ST V H mi ml) (xs : Int32) (hs : xs.toInt = (V 4).toInt) : CtH l yL_sound (.code yL_sound cL_sound 20 (some .boolean)) 9 9300 55800 [.ref 0, .int xs] (wl mi ml) (QI (fun r mi9 ml9 => ST V H mi9 ml9 ∧ r = 1)) noX := by
  have wn := wf_n S.1
  have wm := wf_m S.1
  have wt := wf_t S.1
  have hpl := prV_len (V := V) (s := 2 ^ nV V - 1) wn.2
  have hsp9 := S.1.1.2.2.2.2
  refine CtZ_of pn_L hfl (Nat.le_of_ble_eq_true rfl) ?_
  show EZ (fun s _ => Nc2 s) l RL cL_sound 20 (some .boolean) false [] (rmE 9 9300 55800) (wl mi ml) (TgM (wl mi ml) 9300 55800 (QI (fun r mi9 ml9 => ST V H mi9 ml9 ∧ r = 1)) noX) 0 0 0 [(0, .ref 0), (1, .int xs)] [] (wl mi ml)
  refine EZ_aload_n 0 dL_sound_0 rfl rfl ?_
  refine EZ_iconst 0 (by decide) dL_sound_1 ?_
  refine EZ_callH zn1 (k_size l hfl S 0) cwH_101 (As := [.ref 0, .int 0]) (st := []) rfl (rok (Nat.le_of_ble_eq_true rfl) (Nat.le_of_ble_eq_true rfl) (by omega) (by omega)) (Nat.le_of_ble_eq_true rfl) dL_sound_2 rfl (zkI (fun r_2 mi_2 ml_2 h_2 => ?_))
  obtain ⟨S_2, h_2⟩ := h_2
  (try rw [show (0 : Int32).toInt = 0 from (show (0 : Int32).toInt = 0 from rfl)] at h_2)
  have n_2 : r_2.toInt = (nV V : Int) := by omega
  clear h_2
  refine EZ_istore_n [(2, .int r_2), (0, .ref 0), (1, .int xs)] dL_sound_5 rfl (by decide) rfl ?_
  refine EZ_iconst 1 (by decide) dL_sound_6 ?_
  refine EZ_iload_n 0 dL_sound_7 rfl rfl ?_
  refine EZ_ishl dL_sound_8 ?_
  refine EZ_iconst 1 (by decide) dL_sound_9 ?_
  refine EZ_isub dL_sound_10 ?_
  refine EZ_istore_n [(3, .int (((1 : Int32) <<< (r_2 &&& 31)) - 1)), (2, .int r_2), (0, .ref 0), (1, .int xs)] dL_sound_11 rfl (by decide) rfl ?_
  refine EZ_aload_n 2 dL_sound_12 rfl rfl ?_
  refine EZ_iload_n 0 dL_sound_13 rfl rfl ?_
  refine EZ_callH zn1 (k_fallout l hfl S_2 (((1 : Int32) <<< (r_2 &&& 31)) - 1)) cwH_106 (As := [.ref 0, .int (((1 : Int32) <<< (r_2 &&& 31)) - 1)]) (st := []) rfl (rok (Nat.le_of_ble_eq_true rfl) (Nat.le_of_ble_eq_true rfl) (by omega) (by omega)) (Nat.le_of_ble_eq_true rfl) dL_sound_14 rfl (zkJ (fun r_14 mi_14 ml_14 h_14 => ?_))
  obtain ⟨S_14, h_14⟩ := h_14
  have n_14 := fo_all h_14 (pw_a n_2 wn.2)
  clear h_14
  refine EZ_lstore [(4, .long r_14), (3, .int (((1 : Int32) <<< (r_2 &&& 31)) - 1)), (2, .int r_2), (0, .ref 0), (1, .int xs)] dL_sound_17 (by decide) rfl ?_
  refine EZ_iconst 0 (by decide) dL_sound_19 ?_
  refine EZ_istore [(6, .int 0), (4, .long r_14), (3, .int (((1 : Int32) <<< (r_2 &&& 31)) - 1)), (2, .int r_2), (0, .ref 0), (1, .int xs)] dL_sound_20 (by decide) rfl ?_
  refine EZ_iconst 0 (by decide) dL_sound_22 ?_
  refine EZ_istore [(7, .int 0), (6, .int 0), (4, .long r_14), (3, .int (((1 : Int32) <<< (r_2 &&& 31)) - 1)), (2, .int r_2), (0, .ref 0), (1, .int xs)] dL_sound_23 (by decide) rfl ?_
  have J25 : ∀ (Nm : Nat) (mj : MI) (mlj : MJ) (xh xk : Int32) (i kk nn : Nat), 11 - i < Nm → ST V H mj mlj → xk.toInt = (i : Int) → i ≤ nV V → xh.toInt = (hsA V (prV V (2 ^ nV V - 1) (nV V)) i : Int) → kk ≤ 2 + 3 * i → nn ≤ 12 + 18 * i → EZ (fun s _ => Nc2 s) l RL cL_sound 20 (some .boolean) false [] (rmE 9 9300 55800) (wl mi ml) (TgM (wl mi ml) 9300 55800 (QI (fun r mi9 ml9 => ST V H mi9 ml9 ∧ r = 1)) noX) kk nn 25 [(0, .ref 0), (1, .int xs), (2, .int r_2), (3, .int (((1 : Int32) <<< (r_2 &&& 31)) - 1)), (4, .long r_14), (6, .int xh), (7, .int xk)] [] (wl mj mlj) := by
    intro Nm
    induction Nm with
    | zero => intros; omega
    | succ Nm ih25 =>
      intro mj mlj xh xk i kk nn hN25 S25 hk hi hh hkk hnn
      refine EZ_iload 6 dL_sound_25 rfl ?_
      refine EZ_iload_n 2 dL_sound_27 rfl rfl ?_
      refine ZZ_ge (i : Int) (nV V : Int) hk n_2 93 dL_sound_28 (by decide) (fun c_28 => ?_) (fun c_28 => ?_)
      · skip
        have e25 : i = nV V := by omega
        rw [e25] at hh
        refine EZ_iconst (-1) (by decide) dL_sound_93 ?_
        refine EZ_istore [(7, .int (-1)), (0, .ref 0), (1, .int xs), (2, .int r_2), (3, .int (((1 : Int32) <<< (r_2 &&& 31)) - 1)), (4, .long r_14), (6, .int xh)] dL_sound_94 (by decide) rfl ?_
        refine EZ_lconst 0 rfl dL_sound_96 ?_
        refine EZ_lstore [(8, .long 0), (7, .int (-1)), (0, .ref 0), (1, .int xs), (2, .int r_2), (3, .int (((1 : Int32) <<< (r_2 &&& 31)) - 1)), (4, .long r_14), (6, .int xh)] dL_sound_97 (by decide) rfl ?_
        refine EZ_aload_n 2 dL_sound_99 rfl rfl ?_
        refine EZ_callV (j_products l hfl S25) cw_L_120 (As := []) (st := []) wi_yX5_products we_yX5_products (ci := 5) (q := (RX5, TX5, 7)) rfl rfl (wl_atO tw_0) rfl (rok (Nat.le_of_ble_eq_true rfl) (Nat.le_of_ble_eq_true rfl) (by omega) (by omega)) (Nat.le_of_ble_eq_true rfl) dL_sound_100 (fun _ _ h => h) rfl (zkI (fun r_100 mi_100 ml_100 h_100 => ?_))
        obtain ⟨S_100, h_100⟩ := h_100
        have n_100 := h_100
        refine EZ_istore [(10, .int r_100), (8, .long 0), (7, .int (-1)), (0, .ref 0), (1, .int xs), (2, .int r_2), (3, .int (((1 : Int32) <<< (r_2 &&& 31)) - 1)), (4, .long r_14), (6, .int xh)] dL_sound_103 (by decide) rfl ?_
        obtain ⟨d, hd1, hd2, hd3⟩ := step_e n_100 hpl
        refine EZ_iconst 1 (by decide) dL_sound_105 ?_
        refine EZ_iload 0 dL_sound_106 rfl ?_
        refine EZ_iconst 4 (by decide) dL_sound_108 ?_
        refine EZ_idiv (fun e => absurd e (by decide)) dL_sound_109 ?_
        refine EZ_iadd dL_sound_110 ?_
        refine EZ_istore [(11, .int (1 + (r_100 / 4))), (10, .int r_100), (8, .long 0), (7, .int (-1)), (0, .ref 0), (1, .int xs), (2, .int r_2), (3, .int (((1 : Int32) <<< (r_2 &&& 31)) - 1)), (4, .long r_14), (6, .int xh)] dL_sound_111 (by decide) rfl ?_
        refine EZ_iload_n 5 dL_sound_113 rfl rfl ?_
        refine EZ_iload 0 dL_sound_114 rfl ?_
        obtain ⟨k0, hk0, hk1⟩ := irem_e (x := xs) (y := 1 + r_100 / 4) (by omega) (by omega)
        refine EZ_irem (fun e => by rw [e] at hd3; have h9 : (0 : Int32).toInt = 0 := rfl; omega) dL_sound_116 ?_
        refine EZ_istore [(12, .int (xs - xs / (1 + (r_100 / 4)) * (1 + (r_100 / 4)))), (11, .int (1 + (r_100 / 4))), (10, .int r_100), (8, .long 0), (7, .int (-1)), (0, .ref 0), (1, .int xs), (2, .int r_2), (3, .int (((1 : Int32) <<< (r_2 &&& 31)) - 1)), (4, .long r_14), (6, .int xh)] dL_sound_117 (by decide) rfl ?_
        have J119 : ∀ (Nm : Nat) (mq : MI) (mlq : MJ) (xb : Int32) (xe : Int64) (xq : Int32) (j kk nn : Nat), 700 - j < Nm → ST V H mq mlq → xq.toInt = (j : Int) → (∀ j2 q2, j ≤ j2 → (prV V (2 ^ nV V - 1) (nV V))[j2]? = some q2 → xb.toInt < (qKey q2 : Int)) → (xe &&& (r_14 ^^^ (-1))) = 0 → j ≤ 690 → kk ≤ 40 + 13 * j → nn ≤ 240 + 78 * j → EZ (fun s _ => Nc2 s) l RL cL_sound 20 (some .boolean) false [] (rmE 9 9300 55800) (wl mi ml) (TgM (wl mi ml) 9300 55800 (QI (fun r mi9 ml9 => ST V H mi9 ml9 ∧ r = 1)) noX) kk nn 119 [(0, .ref 0), (1, .int xs), (2, .int r_2), (3, .int (((1 : Int32) <<< (r_2 &&& 31)) - 1)), (4, .long r_14), (6, .int xh), (7, .int xb), (8, .long xe), (10, .int r_100), (11, .int (1 + (r_100 / 4))), (12, .int xq)] [] (wl mq mlq) := by
          intro Nm
          induction Nm with
          | zero => intros; omega
          | succ Nm ih119 =>
            intro mq mlq xb xe xq j kk nn hN119 S119 hj2 hbf hse hj7 hkk2 hnn2
            refine EZ_iload 10 dL_sound_119 rfl ?_
            refine EZ_iload 8 dL_sound_121 rfl ?_
            refine ZZ_ge (j : Int) ((prV V (2 ^ nV V - 1) (nV V)).length : Int) hj2 n_100 394 dL_sound_123 (by decide) (fun c_123 => ?_) (fun c_123 => ?_)
            · skip
              refine EZ_iload 5 dL_sound_394 rfl ?_
              refine YZ_ne (hsA V (prV V (2 ^ nV V - 1) (nV V)) (nV V) : Int) hh 418 dL_sound_396 (by decide) (fun c_396 => ?_) (fun c_396 => ?_)
              · skip
                refine EZ_iconst 0 (by decide) dL_sound_418 ?_
                have hcl : ¬ ClR (DV V) (V 3).toInt (V 4).toInt (nV V) := fun q => c_396 (by rw [(clean_iff.mp q).1]; rfl)
                refine EZ_istore [(12, .int 0), (0, .ref 0), (1, .int xs), (2, .int r_2), (3, .int (((1 : Int32) <<< (r_2 &&& 31)) - 1)), (4, .long r_14), (6, .int xh), (7, .int xb), (8, .long xe), (10, .int r_100), (11, .int (1 + (r_100 / 4)))] dL_sound_419 (by decide) rfl ?_
                refine EZ_aload_n 1 dL_sound_421 rfl rfl ?_
                refine EZ_callV (j_removal l hfl S119) cw_L_129 (As := []) (st := []) wi_yX5_removal we_yX5_removal (ci := 5) (q := (RX5, TX5, 7)) rfl rfl (wl_atO tw_0) rfl (rok (Nat.le_of_ble_eq_true rfl) (Nat.le_of_ble_eq_true rfl) (by omega) (by omega)) (Nat.le_of_ble_eq_true rfl) dL_sound_422 (fun _ _ h => h) rfl (zkI (fun r_422 mi_422 ml_422 h_422 => ?_))
                obtain ⟨S_422, h_422⟩ := h_422
                obtain ⟨b9, hb9, hrm⟩ := h_422
                refine EZ_istore [(13, .int r_422), (12, .int 0), (0, .ref 0), (1, .int xs), (2, .int r_2), (3, .int (((1 : Int32) <<< (r_2 &&& 31)) - 1)), (4, .long r_14), (6, .int xh), (7, .int xb), (8, .long xe), (10, .int r_100), (11, .int (1 + (r_100 / 4)))] dL_sound_425 (by decide) rfl ?_
                refine EZ_lload 9 dL_sound_427 rfl ?_
                refine EZ_lload 6 dL_sound_429 rfl ?_
                refine EZ_ldc2 wk_L_111 dL_sound_431 ?_
                refine EZ_lxor dL_sound_434 ?_
                refine EZ_land dL_sound_435 ?_
                refine EZ_lconst 0 rfl dL_sound_436 ?_
                refine EZ_lcmp dL_sound_437 ?_
                refine YZ_ne ((lg_cmp (xe &&& (r_14 ^^^ (-1))) 0).toInt) rfl 561 dL_sound_438 (by decide) (fun c_438 => ?_) (fun c_438 => ?_)
                · exact absurd (lc_z hse) c_438
                · skip
                  refine EZ_iload 10 dL_sound_441 rfl ?_
                  refine YZ_ne ((prV V (2 ^ nV V - 1) (nV V)).length : Int) n_100 450 dL_sound_443 (by decide) (fun c_443 => ?_) (fun c_443 => ?_)
                  · skip
                    refine EZ_iconst 0 (by decide) dL_sound_450 ?_
                    refine EZ_lload 6 dL_sound_451 rfl ?_
                    refine EZ_lconst 0 rfl dL_sound_453 ?_
                    refine EZ_lcmp dL_sound_454 ?_
                    refine YZ_ne ((lg_cmp r_14 0).toInt) rfl 462 dL_sound_455 (by decide) (fun c_455 => ?_) (fun c_455 => ?_)
                    · skip
                      refine EZ_iconst 0 (by decide) dL_sound_462 ?_
                      refine ZZ_ne 0 0 (show (0 : Int32).toInt = 0 from rfl) (show (0 : Int32).toInt = 0 from rfl) 561 dL_sound_463 (by decide) (fun c_463 => ?_) (fun c_463 => ?_)
                      · exact absurd c_463 (by decide)
                      · skip
                        refine EZ_iload 7 dL_sound_466 rfl ?_
                        refine EZ_aload_n 2 dL_sound_468 rfl rfl ?_
                        refine EZ_callV (j_hits l hfl S_422) cw_L_132 (As := []) (st := [.int xh]) wi_yX5_hits we_yX5_hits (ci := 5) (q := (RX5, TX5, 7)) rfl rfl (wl_atO tw_0) rfl (rok (Nat.le_of_ble_eq_true rfl) (Nat.le_of_ble_eq_true rfl) (by omega) (by omega)) (Nat.le_of_ble_eq_true rfl) dL_sound_469 (fun _ _ h => h) rfl (zkI (fun r_469 mi_469 ml_469 h_469 => ?_))
                        obtain ⟨S_469, h_469⟩ := h_469
                        refine ZZ_ne (hsA V (prV V (2 ^ nV V - 1) (nV V)) (nV V) : Int) (hsA V (prV V (2 ^ nV V - 1) (nV V)) (nV V) : Int) hh h_469 561 dL_sound_472 (by decide) (fun c_472 => ?_) (fun c_472 => ?_)
                        · exact absurd c_472 (by omega)
                        · skip
                          refine EZ_aload_n 2 dL_sound_475 rfl rfl ?_
                          refine EZ_callV (j_isClean l hfl S_469) cw_L_135 (As := []) (st := []) wi_yX5_isClean we_yX5_isClean (ci := 5) (q := (RX5, TX5, 7)) rfl rfl (wl_atO tw_0) rfl (rok (Nat.le_of_ble_eq_true rfl) (Nat.le_of_ble_eq_true rfl) (by omega) (by omega)) (Nat.le_of_ble_eq_true rfl) dL_sound_476 (fun _ _ h => h) rfl (zkI (fun r_476 mi_476 ml_476 h_476 => ?_))
                          obtain ⟨S_476, h_476⟩ := h_476
                          refine EZ_iload 1 dL_sound_479 rfl ?_
                          refine ZZ_ne r_476.toInt 0 rfl (show (0 : Int32).toInt = 0 from rfl) 561 dL_sound_481 (by decide) (fun c_481 => ?_) (fun c_481 => ?_)
                          · (rw [h_476, bI_f hcl] at c_481; exact absurd rfl c_481)
                          · skip
                            refine EZ_aload_n 2 dL_sound_484 rfl rfl ?_
                            refine EZ_callV (j_channels l hfl S_476) cw_L_113 (As := []) (st := []) wi_yX5_channels we_yX5_channels (ci := 5) (q := (RX5, TX5, 7)) rfl rfl (wl_atO tw_0) rfl (rok (Nat.le_of_ble_eq_true rfl) (Nat.le_of_ble_eq_true rfl) (by omega) (by omega)) (Nat.le_of_ble_eq_true rfl) dL_sound_485 (fun _ _ h => h) rfl (zkJ (fun r_485 mi_485 ml_485 h_485 => ?_))
                            obtain ⟨S_485, h_485⟩ := h_485
                            refine EZ_callZ zn1 (z_many l hfl mi_485 ml_485 r_485) cw_L_139 (As := [.long r_485]) (st := []) ws_yL_many rfl (rok (Nat.le_of_ble_eq_true rfl) (Nat.le_of_ble_eq_true rfl) (by omega) (by omega)) (Nat.le_of_ble_eq_true rfl) dL_sound_488 rfl (zkI (fun r_488 mi_488 ml_488 h_488 => ?_))
                            obtain ⟨e1_488, e2_488, h_488⟩ := h_488
                            subst e1_488; subst e2_488
                            have n_488 : r_488.toInt = (nV V : Int) := by rw [h_488, h_485, ch_pc S.1 wn.1 _ (Nat.le_refl _)]
                            refine EZ_iload_n 4 dL_sound_491 rfl rfl ?_
                            refine ZZ_ne (nV V : Int) (nV V : Int) n_488 n_2 561 dL_sound_492 (by decide) (fun c_492 => ?_) (fun c_492 => ?_)
                            · exact absurd c_492 (by omega)
                            · skip
                              refine EZ_iload 0 dL_sound_495 rfl ?_
                              refine YZ_ne (b9 : Int) hb9 504 dL_sound_497 (by decide) (fun c_497 => ?_) (fun c_497 => ?_)
                              · skip
                                refine EZ_iconst 0 (by decide) dL_sound_504 ?_
                                refine EZ_iload 1 dL_sound_505 rfl ?_
                                refine ZZ_ne 0 0 (show (0 : Int32).toInt = 0 from rfl) (show (0 : Int32).toInt = 0 from rfl) 561 dL_sound_507 (by decide) (fun c_507 => ?_) (fun c_507 => ?_)
                                · exact absurd c_507 (by decide)
                                · skip
                                  refine EZ_iload 0 dL_sound_510 rfl ?_
                                  refine EZ_iload_n 5 dL_sound_512 rfl rfl ?_
                                  refine EZ_iconst (-1) (by decide) dL_sound_513 ?_
                                  refine EZ_ixor dL_sound_514 ?_
                                  refine EZ_iand dL_sound_515 ?_
                                  refine YZ_ne ((r_422 &&& ((((1 : Int32) <<< (r_2 &&& 31)) - 1) ^^^ ((-1) : Int32))).toInt) rfl 561 dL_sound_516 (by decide) (fun c_516 => ?_) (fun c_516 => ?_)
                                  · exact absurd (by rw [go_all hb9 hrm.1 wn.2 (pw_a n_2 wn.2)]; rfl) c_516
                                  · skip
                                    refine EZ_aload_n 2 dL_sound_519 rfl rfl ?_
                                    refine EZ_callV (j_closest l hfl S_485) cw_L_126 (As := []) (st := []) wi_yX5_closest we_yX5_closest (ci := 5) (q := (RX5, TX5, 7)) rfl rfl (wl_atO tw_0) rfl (rok (Nat.le_of_ble_eq_true rfl) (Nat.le_of_ble_eq_true rfl) (by omega) (by omega)) (Nat.le_of_ble_eq_true rfl) dL_sound_520 (fun _ _ h => h) rfl (zkI (fun r_520 mi_520 ml_520 h_520 => ?_))
                                    obtain ⟨S_520, h_520⟩ := h_520
                                    have n_520 := close_iff S.1 wn.1 (show 1 ≤ (V 4).toInt by have h9 := S.1.1; omega) h_520
                                    have n_521 := n_520.2.1
                                    refine YZ_ge r_520.toInt rfl 530 dL_sound_523 (by decide) (fun c_523 => ?_) (fun c_523 => ?_)
                                    · skip
                                      refine EZ_iconst 0 (by decide) dL_sound_530 ?_
                                      refine EZ_iload_n 4 dL_sound_531 rfl rfl ?_
                                      refine EZ_iconst 2 (by decide) dL_sound_532 ?_
                                      refine ZZ_ge (nV V : Int) 2 n_2 (show (2 : Int32).toInt = 2 from rfl) 540 dL_sound_533 (by decide) (fun c_533 => ?_) (fun c_533 => ?_)
                                      · skip
                                        refine EZ_iconst 0 (by decide) dL_sound_540 ?_
                                        refine ZZ_ne 0 0 (show (0 : Int32).toInt = 0 from rfl) (show (0 : Int32).toInt = 0 from rfl) 561 dL_sound_541 (by decide) (fun c_541 => ?_) (fun c_541 => ?_)
                                        · exact absurd c_541 (by decide)
                                        · skip
                                          refine EZ_aload_n 2 dL_sound_544 rfl rfl ?_
                                          refine EZ_iload 10 dL_sound_545 rfl ?_
                                          refine EZ_iconst 0 (by decide) dL_sound_547 ?_
                                          refine EZ_callH zn1 (k_product l hfl S_520 r_100 0) cwH_123 (As := [.ref 0, .int r_100, .int 0]) (st := []) rfl (rok (Nat.le_of_ble_eq_true rfl) (Nat.le_of_ble_eq_true rfl) (by omega) (by omega)) (Nat.le_of_ble_eq_true rfl) dL_sound_548 rfl (zkI (fun r_548 mi_548 ml_548 h_548 => ?_))
                                          obtain ⟨S_548, h_548⟩ := h_548
                                          have n_548 := pr_x h_548 n_100
                                          refine EZ_sipush (-903) (by decide) dL_sound_551 ?_
                                          refine ZZ_ne (-903) (-903) n_548 (show ((-903) : Int32).toInt = (-903) from rfl) 561 dL_sound_554 (by decide) (fun c_554 => ?_) (fun c_554 => ?_)
                                          · exact absurd c_554 (by omega)
                                          · skip
                                            refine EZ_iconst 1 (by decide) dL_sound_557 ?_
                                            refine EZ_goto 562 dL_sound_558 (by decide) ?_
                                            refine EZ_zret rfl rfl (by omega) (by omega) dL_sound_562 ?_
                                            exact okQI ⟨S_548, rfl⟩
                                      · exact absurd c_533 (by omega)
                                    · skip
                                      refine EZ_iconst 1 (by decide) dL_sound_526 ?_
                                      refine EZ_goto 531 dL_sound_527 (by decide) ?_
                                      refine EZ_iload_n 4 dL_sound_531 rfl rfl ?_
                                      refine EZ_iconst 2 (by decide) dL_sound_532 ?_
                                      refine ZZ_ge (nV V : Int) 2 n_2 (show (2 : Int32).toInt = 2 from rfl) 540 dL_sound_533 (by decide) (fun c_533 => ?_) (fun c_533 => ?_)
                                      · exact absurd c_533 (by omega)
                                      · skip
                                        refine EZ_iconst 1 (by decide) dL_sound_536 ?_
                                        refine EZ_goto 541 dL_sound_537 (by decide) ?_
                                        refine ZZ_ne 1 1 (show (1 : Int32).toInt = 1 from rfl) (show (1 : Int32).toInt = 1 from rfl) 561 dL_sound_541 (by decide) (fun c_541 => ?_) (fun c_541 => ?_)
                                        · exact absurd c_541 (by decide)
                                        · skip
                                          refine EZ_aload_n 2 dL_sound_544 rfl rfl ?_
                                          refine EZ_iload 10 dL_sound_545 rfl ?_
                                          refine EZ_iconst 0 (by decide) dL_sound_547 ?_
                                          refine EZ_callH zn1 (k_product l hfl S_520 r_100 0) cwH_123 (As := [.ref 0, .int r_100, .int 0]) (st := []) rfl (rok (Nat.le_of_ble_eq_true rfl) (Nat.le_of_ble_eq_true rfl) (by omega) (by omega)) (Nat.le_of_ble_eq_true rfl) dL_sound_548 rfl (zkI (fun r_548 mi_548 ml_548 h_548 => ?_))
                                          obtain ⟨S_548, h_548⟩ := h_548
                                          have n_548 := pr_x h_548 n_100
                                          refine EZ_sipush (-903) (by decide) dL_sound_551 ?_
                                          refine ZZ_ne (-903) (-903) n_548 (show ((-903) : Int32).toInt = (-903) from rfl) 561 dL_sound_554 (by decide) (fun c_554 => ?_) (fun c_554 => ?_)
                                          · exact absurd c_554 (by omega)
                                          · skip
                                            refine EZ_iconst 1 (by decide) dL_sound_557 ?_
                                            refine EZ_goto 562 dL_sound_558 (by decide) ?_
                                            refine EZ_zret rfl rfl (by omega) (by omega) dL_sound_562 ?_
                                            exact okQI ⟨S_548, rfl⟩
                              · exact absurd ((rm_0 hrm).mp (by omega)) hcl
                    · exact absurd (fo_len.mpr (by rw [← n_14]; exact lg_0 c_455)) (by omega)
                  · skip
                    refine EZ_iconst 1 (by decide) dL_sound_446 ?_
                    refine EZ_goto 451 dL_sound_447 (by decide) ?_
                    refine EZ_lload 6 dL_sound_451 rfl ?_
                    refine EZ_lconst 0 rfl dL_sound_453 ?_
                    refine EZ_lcmp dL_sound_454 ?_
                    refine YZ_ne ((lg_cmp r_14 0).toInt) rfl 462 dL_sound_455 (by decide) (fun c_455 => ?_) (fun c_455 => ?_)
                    · exact absurd (lc_z (by rw [n_14]; exact fo_len.mp (by omega))) c_455
                    · skip
                      refine EZ_iconst 1 (by decide) dL_sound_458 ?_
                      refine EZ_goto 463 dL_sound_459 (by decide) ?_
                      refine ZZ_ne 1 1 (show (1 : Int32).toInt = 1 from rfl) (show (1 : Int32).toInt = 1 from rfl) 561 dL_sound_463 (by decide) (fun c_463 => ?_) (fun c_463 => ?_)
                      · exact absurd c_463 (by decide)
                      · skip
                        refine EZ_iload 7 dL_sound_466 rfl ?_
                        refine EZ_aload_n 2 dL_sound_468 rfl rfl ?_
                        refine EZ_callV (j_hits l hfl S_422) cw_L_132 (As := []) (st := [.int xh]) wi_yX5_hits we_yX5_hits (ci := 5) (q := (RX5, TX5, 7)) rfl rfl (wl_atO tw_0) rfl (rok (Nat.le_of_ble_eq_true rfl) (Nat.le_of_ble_eq_true rfl) (by omega) (by omega)) (Nat.le_of_ble_eq_true rfl) dL_sound_469 (fun _ _ h => h) rfl (zkI (fun r_469 mi_469 ml_469 h_469 => ?_))
                        obtain ⟨S_469, h_469⟩ := h_469
                        refine ZZ_ne (hsA V (prV V (2 ^ nV V - 1) (nV V)) (nV V) : Int) (hsA V (prV V (2 ^ nV V - 1) (nV V)) (nV V) : Int) hh h_469 561 dL_sound_472 (by decide) (fun c_472 => ?_) (fun c_472 => ?_)
                        · exact absurd c_472 (by omega)
                        · skip
                          refine EZ_aload_n 2 dL_sound_475 rfl rfl ?_
                          refine EZ_callV (j_isClean l hfl S_469) cw_L_135 (As := []) (st := []) wi_yX5_isClean we_yX5_isClean (ci := 5) (q := (RX5, TX5, 7)) rfl rfl (wl_atO tw_0) rfl (rok (Nat.le_of_ble_eq_true rfl) (Nat.le_of_ble_eq_true rfl) (by omega) (by omega)) (Nat.le_of_ble_eq_true rfl) dL_sound_476 (fun _ _ h => h) rfl (zkI (fun r_476 mi_476 ml_476 h_476 => ?_))
                          obtain ⟨S_476, h_476⟩ := h_476
                          refine EZ_iload 1 dL_sound_479 rfl ?_
                          refine ZZ_ne r_476.toInt 0 rfl (show (0 : Int32).toInt = 0 from rfl) 561 dL_sound_481 (by decide) (fun c_481 => ?_) (fun c_481 => ?_)
                          · (rw [h_476, bI_f hcl] at c_481; exact absurd rfl c_481)
                          · skip
                            refine EZ_aload_n 2 dL_sound_484 rfl rfl ?_
                            refine EZ_callV (j_channels l hfl S_476) cw_L_113 (As := []) (st := []) wi_yX5_channels we_yX5_channels (ci := 5) (q := (RX5, TX5, 7)) rfl rfl (wl_atO tw_0) rfl (rok (Nat.le_of_ble_eq_true rfl) (Nat.le_of_ble_eq_true rfl) (by omega) (by omega)) (Nat.le_of_ble_eq_true rfl) dL_sound_485 (fun _ _ h => h) rfl (zkJ (fun r_485 mi_485 ml_485 h_485 => ?_))
                            obtain ⟨S_485, h_485⟩ := h_485
                            refine EZ_callZ zn1 (z_many l hfl mi_485 ml_485 r_485) cw_L_139 (As := [.long r_485]) (st := []) ws_yL_many rfl (rok (Nat.le_of_ble_eq_true rfl) (Nat.le_of_ble_eq_true rfl) (by omega) (by omega)) (Nat.le_of_ble_eq_true rfl) dL_sound_488 rfl (zkI (fun r_488 mi_488 ml_488 h_488 => ?_))
                            obtain ⟨e1_488, e2_488, h_488⟩ := h_488
                            subst e1_488; subst e2_488
                            have n_488 : r_488.toInt = (nV V : Int) := by rw [h_488, h_485, ch_pc S.1 wn.1 _ (Nat.le_refl _)]
                            refine EZ_iload_n 4 dL_sound_491 rfl rfl ?_
                            refine ZZ_ne (nV V : Int) (nV V : Int) n_488 n_2 561 dL_sound_492 (by decide) (fun c_492 => ?_) (fun c_492 => ?_)
                            · exact absurd c_492 (by omega)
                            · skip
                              refine EZ_iload 0 dL_sound_495 rfl ?_
                              refine YZ_ne (b9 : Int) hb9 504 dL_sound_497 (by decide) (fun c_497 => ?_) (fun c_497 => ?_)
                              · skip
                                refine EZ_iconst 0 (by decide) dL_sound_504 ?_
                                refine EZ_iload 1 dL_sound_505 rfl ?_
                                refine ZZ_ne 0 0 (show (0 : Int32).toInt = 0 from rfl) (show (0 : Int32).toInt = 0 from rfl) 561 dL_sound_507 (by decide) (fun c_507 => ?_) (fun c_507 => ?_)
                                · exact absurd c_507 (by decide)
                                · skip
                                  refine EZ_iload 0 dL_sound_510 rfl ?_
                                  refine EZ_iload_n 5 dL_sound_512 rfl rfl ?_
                                  refine EZ_iconst (-1) (by decide) dL_sound_513 ?_
                                  refine EZ_ixor dL_sound_514 ?_
                                  refine EZ_iand dL_sound_515 ?_
                                  refine YZ_ne ((r_422 &&& ((((1 : Int32) <<< (r_2 &&& 31)) - 1) ^^^ ((-1) : Int32))).toInt) rfl 561 dL_sound_516 (by decide) (fun c_516 => ?_) (fun c_516 => ?_)
                                  · exact absurd (by rw [go_all hb9 hrm.1 wn.2 (pw_a n_2 wn.2)]; rfl) c_516
                                  · skip
                                    refine EZ_aload_n 2 dL_sound_519 rfl rfl ?_
                                    refine EZ_callV (j_closest l hfl S_485) cw_L_126 (As := []) (st := []) wi_yX5_closest we_yX5_closest (ci := 5) (q := (RX5, TX5, 7)) rfl rfl (wl_atO tw_0) rfl (rok (Nat.le_of_ble_eq_true rfl) (Nat.le_of_ble_eq_true rfl) (by omega) (by omega)) (Nat.le_of_ble_eq_true rfl) dL_sound_520 (fun _ _ h => h) rfl (zkI (fun r_520 mi_520 ml_520 h_520 => ?_))
                                    obtain ⟨S_520, h_520⟩ := h_520
                                    have n_520 := close_iff S.1 wn.1 (show 1 ≤ (V 4).toInt by have h9 := S.1.1; omega) h_520
                                    have n_521 := n_520.2.1
                                    refine YZ_ge r_520.toInt rfl 530 dL_sound_523 (by decide) (fun c_523 => ?_) (fun c_523 => ?_)
                                    · skip
                                      refine EZ_iconst 0 (by decide) dL_sound_530 ?_
                                      refine EZ_iload_n 4 dL_sound_531 rfl rfl ?_
                                      refine EZ_iconst 2 (by decide) dL_sound_532 ?_
                                      refine ZZ_ge (nV V : Int) 2 n_2 (show (2 : Int32).toInt = 2 from rfl) 540 dL_sound_533 (by decide) (fun c_533 => ?_) (fun c_533 => ?_)
                                      · skip
                                        refine EZ_iconst 0 (by decide) dL_sound_540 ?_
                                        refine ZZ_ne 0 0 (show (0 : Int32).toInt = 0 from rfl) (show (0 : Int32).toInt = 0 from rfl) 561 dL_sound_541 (by decide) (fun c_541 => ?_) (fun c_541 => ?_)
                                        · exact absurd c_541 (by decide)
                                        · skip
                                          refine EZ_aload_n 2 dL_sound_544 rfl rfl ?_
                                          refine EZ_iload 10 dL_sound_545 rfl ?_
                                          refine EZ_iconst 0 (by decide) dL_sound_547 ?_
                                          refine EZ_callH zn1 (k_product l hfl S_520 r_100 0) cwH_123 (As := [.ref 0, .int r_100, .int 0]) (st := []) rfl (rok (Nat.le_of_ble_eq_true rfl) (Nat.le_of_ble_eq_true rfl) (by omega) (by omega)) (Nat.le_of_ble_eq_true rfl) dL_sound_548 rfl (zkI (fun r_548 mi_548 ml_548 h_548 => ?_))
                                          obtain ⟨S_548, h_548⟩ := h_548
                                          have n_548 := pr_x h_548 n_100
                                          refine EZ_sipush (-903) (by decide) dL_sound_551 ?_
                                          refine ZZ_ne (-903) (-903) n_548 (show ((-903) : Int32).toInt = (-903) from rfl) 561 dL_sound_554 (by decide) (fun c_554 => ?_) (fun c_554 => ?_)
                                          · exact absurd c_554 (by omega)
                                          · skip
                                            refine EZ_iconst 1 (by decide) dL_sound_557 ?_
                                            refine EZ_goto 562 dL_sound_558 (by decide) ?_
                                            refine EZ_zret rfl rfl (by omega) (by omega) dL_sound_562 ?_
                                            exact okQI ⟨S_548, rfl⟩
                                      · exact absurd c_533 (by omega)
                                    · skip
                                      refine EZ_iconst 1 (by decide) dL_sound_526 ?_
                                      refine EZ_goto 531 dL_sound_527 (by decide) ?_
                                      refine EZ_iload_n 4 dL_sound_531 rfl rfl ?_
                                      refine EZ_iconst 2 (by decide) dL_sound_532 ?_
                                      refine ZZ_ge (nV V : Int) 2 n_2 (show (2 : Int32).toInt = 2 from rfl) 540 dL_sound_533 (by decide) (fun c_533 => ?_) (fun c_533 => ?_)
                                      · exact absurd c_533 (by omega)
                                      · skip
                                        refine EZ_iconst 1 (by decide) dL_sound_536 ?_
                                        refine EZ_goto 541 dL_sound_537 (by decide) ?_
                                        refine ZZ_ne 1 1 (show (1 : Int32).toInt = 1 from rfl) (show (1 : Int32).toInt = 1 from rfl) 561 dL_sound_541 (by decide) (fun c_541 => ?_) (fun c_541 => ?_)
                                        · exact absurd c_541 (by decide)
                                        · skip
                                          refine EZ_aload_n 2 dL_sound_544 rfl rfl ?_
                                          refine EZ_iload 10 dL_sound_545 rfl ?_
                                          refine EZ_iconst 0 (by decide) dL_sound_547 ?_
                                          refine EZ_callH zn1 (k_product l hfl S_520 r_100 0) cwH_123 (As := [.ref 0, .int r_100, .int 0]) (st := []) rfl (rok (Nat.le_of_ble_eq_true rfl) (Nat.le_of_ble_eq_true rfl) (by omega) (by omega)) (Nat.le_of_ble_eq_true rfl) dL_sound_548 rfl (zkI (fun r_548 mi_548 ml_548 h_548 => ?_))
                                          obtain ⟨S_548, h_548⟩ := h_548
                                          have n_548 := pr_x h_548 n_100
                                          refine EZ_sipush (-903) (by decide) dL_sound_551 ?_
                                          refine ZZ_ne (-903) (-903) n_548 (show ((-903) : Int32).toInt = (-903) from rfl) 561 dL_sound_554 (by decide) (fun c_554 => ?_) (fun c_554 => ?_)
                                          · exact absurd c_554 (by omega)
                                          · skip
                                            refine EZ_iconst 1 (by decide) dL_sound_557 ?_
                                            refine EZ_goto 562 dL_sound_558 (by decide) ?_
                                            refine EZ_zret rfl rfl (by omega) (by omega) dL_sound_562 ?_
                                            exact okQI ⟨S_548, rfl⟩
                              · exact absurd ((rm_0 hrm).mp (by omega)) hcl
              · skip
                refine EZ_aload_n 0 dL_sound_399 rfl rfl ?_
                refine EZ_callV (j_closest l hfl S119) cw_L_126 (As := []) (st := []) wi_yX5_closest we_yX5_closest (ci := 5) (q := (RX5, TX5, 7)) rfl rfl (wl_atO tw_0) rfl (rok (Nat.le_of_ble_eq_true rfl) (Nat.le_of_ble_eq_true rfl) (by omega) (by omega)) (Nat.le_of_ble_eq_true rfl) dL_sound_400 (fun _ _ h => h) rfl (zkI (fun r_400 mi_400 ml_400 h_400 => ?_))
                obtain ⟨S_400, h_400⟩ := h_400
                have n_400 := close_iff S.1 wn.1 (show 1 ≤ (V 4).toInt by have h9 := S.1.1; omega) h_400
                refine YZ_lt r_400.toInt rfl 414 dL_sound_403 (by decide) (fun c_403 => ?_) (fun c_403 => ?_)
                · skip
                  refine EZ_iconst 1 (by decide) dL_sound_414 ?_
                  refine EZ_goto 419 dL_sound_415 (by decide) ?_
                  have hcl : ClR (DV V) (V 3).toInt (V 4).toInt (nV V) := clean_iff.mpr ⟨by omega, n_400.1.mpr (Or.inl c_403)⟩
                  refine EZ_istore [(12, .int 1), (0, .ref 0), (1, .int xs), (2, .int r_2), (3, .int (((1 : Int32) <<< (r_2 &&& 31)) - 1)), (4, .long r_14), (6, .int xh), (7, .int xb), (8, .long xe), (10, .int r_100), (11, .int (1 + (r_100 / 4)))] dL_sound_419 (by decide) rfl ?_
                  refine EZ_aload_n 1 dL_sound_421 rfl rfl ?_
                  refine EZ_callV (j_removal l hfl S_400) cw_L_129 (As := []) (st := []) wi_yX5_removal we_yX5_removal (ci := 5) (q := (RX5, TX5, 7)) rfl rfl (wl_atO tw_0) rfl (rok (Nat.le_of_ble_eq_true rfl) (Nat.le_of_ble_eq_true rfl) (by omega) (by omega)) (Nat.le_of_ble_eq_true rfl) dL_sound_422 (fun _ _ h => h) rfl (zkI (fun r_422 mi_422 ml_422 h_422 => ?_))
                  obtain ⟨S_422, h_422⟩ := h_422
                  obtain ⟨b9, hb9, hrm⟩ := h_422
                  refine EZ_istore [(13, .int r_422), (12, .int 1), (0, .ref 0), (1, .int xs), (2, .int r_2), (3, .int (((1 : Int32) <<< (r_2 &&& 31)) - 1)), (4, .long r_14), (6, .int xh), (7, .int xb), (8, .long xe), (10, .int r_100), (11, .int (1 + (r_100 / 4)))] dL_sound_425 (by decide) rfl ?_
                  refine EZ_lload 9 dL_sound_427 rfl ?_
                  refine EZ_lload 6 dL_sound_429 rfl ?_
                  refine EZ_ldc2 wk_L_111 dL_sound_431 ?_
                  refine EZ_lxor dL_sound_434 ?_
                  refine EZ_land dL_sound_435 ?_
                  refine EZ_lconst 0 rfl dL_sound_436 ?_
                  refine EZ_lcmp dL_sound_437 ?_
                  refine YZ_ne ((lg_cmp (xe &&& (r_14 ^^^ (-1))) 0).toInt) rfl 561 dL_sound_438 (by decide) (fun c_438 => ?_) (fun c_438 => ?_)
                  · exact absurd (lc_z hse) c_438
                  · skip
                    refine EZ_iload 10 dL_sound_441 rfl ?_
                    refine YZ_ne ((prV V (2 ^ nV V - 1) (nV V)).length : Int) n_100 450 dL_sound_443 (by decide) (fun c_443 => ?_) (fun c_443 => ?_)
                    · skip
                      refine EZ_iconst 0 (by decide) dL_sound_450 ?_
                      refine EZ_lload 6 dL_sound_451 rfl ?_
                      refine EZ_lconst 0 rfl dL_sound_453 ?_
                      refine EZ_lcmp dL_sound_454 ?_
                      refine YZ_ne ((lg_cmp r_14 0).toInt) rfl 462 dL_sound_455 (by decide) (fun c_455 => ?_) (fun c_455 => ?_)
                      · skip
                        refine EZ_iconst 0 (by decide) dL_sound_462 ?_
                        refine ZZ_ne 0 0 (show (0 : Int32).toInt = 0 from rfl) (show (0 : Int32).toInt = 0 from rfl) 561 dL_sound_463 (by decide) (fun c_463 => ?_) (fun c_463 => ?_)
                        · exact absurd c_463 (by decide)
                        · skip
                          refine EZ_iload 7 dL_sound_466 rfl ?_
                          refine EZ_aload_n 2 dL_sound_468 rfl rfl ?_
                          refine EZ_callV (j_hits l hfl S_422) cw_L_132 (As := []) (st := [.int xh]) wi_yX5_hits we_yX5_hits (ci := 5) (q := (RX5, TX5, 7)) rfl rfl (wl_atO tw_0) rfl (rok (Nat.le_of_ble_eq_true rfl) (Nat.le_of_ble_eq_true rfl) (by omega) (by omega)) (Nat.le_of_ble_eq_true rfl) dL_sound_469 (fun _ _ h => h) rfl (zkI (fun r_469 mi_469 ml_469 h_469 => ?_))
                          obtain ⟨S_469, h_469⟩ := h_469
                          refine ZZ_ne (hsA V (prV V (2 ^ nV V - 1) (nV V)) (nV V) : Int) (hsA V (prV V (2 ^ nV V - 1) (nV V)) (nV V) : Int) hh h_469 561 dL_sound_472 (by decide) (fun c_472 => ?_) (fun c_472 => ?_)
                          · exact absurd c_472 (by omega)
                          · skip
                            refine EZ_aload_n 2 dL_sound_475 rfl rfl ?_
                            refine EZ_callV (j_isClean l hfl S_469) cw_L_135 (As := []) (st := []) wi_yX5_isClean we_yX5_isClean (ci := 5) (q := (RX5, TX5, 7)) rfl rfl (wl_atO tw_0) rfl (rok (Nat.le_of_ble_eq_true rfl) (Nat.le_of_ble_eq_true rfl) (by omega) (by omega)) (Nat.le_of_ble_eq_true rfl) dL_sound_476 (fun _ _ h => h) rfl (zkI (fun r_476 mi_476 ml_476 h_476 => ?_))
                            obtain ⟨S_476, h_476⟩ := h_476
                            refine EZ_iload 1 dL_sound_479 rfl ?_
                            refine ZZ_ne r_476.toInt 1 rfl (show (1 : Int32).toInt = 1 from rfl) 561 dL_sound_481 (by decide) (fun c_481 => ?_) (fun c_481 => ?_)
                            · (rw [h_476, bI_t hcl] at c_481; exact absurd rfl c_481)
                            · skip
                              refine EZ_aload_n 2 dL_sound_484 rfl rfl ?_
                              refine EZ_callV (j_channels l hfl S_476) cw_L_113 (As := []) (st := []) wi_yX5_channels we_yX5_channels (ci := 5) (q := (RX5, TX5, 7)) rfl rfl (wl_atO tw_0) rfl (rok (Nat.le_of_ble_eq_true rfl) (Nat.le_of_ble_eq_true rfl) (by omega) (by omega)) (Nat.le_of_ble_eq_true rfl) dL_sound_485 (fun _ _ h => h) rfl (zkJ (fun r_485 mi_485 ml_485 h_485 => ?_))
                              obtain ⟨S_485, h_485⟩ := h_485
                              refine EZ_callZ zn1 (z_many l hfl mi_485 ml_485 r_485) cw_L_139 (As := [.long r_485]) (st := []) ws_yL_many rfl (rok (Nat.le_of_ble_eq_true rfl) (Nat.le_of_ble_eq_true rfl) (by omega) (by omega)) (Nat.le_of_ble_eq_true rfl) dL_sound_488 rfl (zkI (fun r_488 mi_488 ml_488 h_488 => ?_))
                              obtain ⟨e1_488, e2_488, h_488⟩ := h_488
                              subst e1_488; subst e2_488
                              have n_488 : r_488.toInt = (nV V : Int) := by rw [h_488, h_485, ch_pc S.1 wn.1 _ (Nat.le_refl _)]
                              refine EZ_iload_n 4 dL_sound_491 rfl rfl ?_
                              refine ZZ_ne (nV V : Int) (nV V : Int) n_488 n_2 561 dL_sound_492 (by decide) (fun c_492 => ?_) (fun c_492 => ?_)
                              · exact absurd c_492 (by omega)
                              · skip
                                refine EZ_iload 0 dL_sound_495 rfl ?_
                                refine YZ_ne (b9 : Int) hb9 504 dL_sound_497 (by decide) (fun c_497 => ?_) (fun c_497 => ?_)
                                · exact absurd ((rm_0 hrm).mpr hcl) (by omega)
                                · skip
                                  refine EZ_iconst 1 (by decide) dL_sound_500 ?_
                                  refine EZ_goto 505 dL_sound_501 (by decide) ?_
                                  refine EZ_iload 1 dL_sound_505 rfl ?_
                                  refine ZZ_ne 1 1 (show (1 : Int32).toInt = 1 from rfl) (show (1 : Int32).toInt = 1 from rfl) 561 dL_sound_507 (by decide) (fun c_507 => ?_) (fun c_507 => ?_)
                                  · exact absurd c_507 (by decide)
                                  · skip
                                    refine EZ_iload 0 dL_sound_510 rfl ?_
                                    refine EZ_iload_n 5 dL_sound_512 rfl rfl ?_
                                    refine EZ_iconst (-1) (by decide) dL_sound_513 ?_
                                    refine EZ_ixor dL_sound_514 ?_
                                    refine EZ_iand dL_sound_515 ?_
                                    refine YZ_ne ((r_422 &&& ((((1 : Int32) <<< (r_2 &&& 31)) - 1) ^^^ ((-1) : Int32))).toInt) rfl 561 dL_sound_516 (by decide) (fun c_516 => ?_) (fun c_516 => ?_)
                                    · exact absurd (by rw [go_all hb9 hrm.1 wn.2 (pw_a n_2 wn.2)]; rfl) c_516
                                    · skip
                                      refine EZ_aload_n 2 dL_sound_519 rfl rfl ?_
                                      refine EZ_callV (j_closest l hfl S_485) cw_L_126 (As := []) (st := []) wi_yX5_closest we_yX5_closest (ci := 5) (q := (RX5, TX5, 7)) rfl rfl (wl_atO tw_0) rfl (rok (Nat.le_of_ble_eq_true rfl) (Nat.le_of_ble_eq_true rfl) (by omega) (by omega)) (Nat.le_of_ble_eq_true rfl) dL_sound_520 (fun _ _ h => h) rfl (zkI (fun r_520 mi_520 ml_520 h_520 => ?_))
                                      obtain ⟨S_520, h_520⟩ := h_520
                                      have n_520 := close_iff S.1 wn.1 (show 1 ≤ (V 4).toInt by have h9 := S.1.1; omega) h_520
                                      have n_521 := n_520.2.1
                                      refine YZ_ge r_520.toInt rfl 530 dL_sound_523 (by decide) (fun c_523 => ?_) (fun c_523 => ?_)
                                      · skip
                                        refine EZ_iconst 0 (by decide) dL_sound_530 ?_
                                        refine EZ_iload_n 4 dL_sound_531 rfl rfl ?_
                                        refine EZ_iconst 2 (by decide) dL_sound_532 ?_
                                        refine ZZ_ge (nV V : Int) 2 n_2 (show (2 : Int32).toInt = 2 from rfl) 540 dL_sound_533 (by decide) (fun c_533 => ?_) (fun c_533 => ?_)
                                        · skip
                                          refine EZ_iconst 0 (by decide) dL_sound_540 ?_
                                          refine ZZ_ne 0 0 (show (0 : Int32).toInt = 0 from rfl) (show (0 : Int32).toInt = 0 from rfl) 561 dL_sound_541 (by decide) (fun c_541 => ?_) (fun c_541 => ?_)
                                          · exact absurd c_541 (by decide)
                                          · skip
                                            refine EZ_aload_n 2 dL_sound_544 rfl rfl ?_
                                            refine EZ_iload 10 dL_sound_545 rfl ?_
                                            refine EZ_iconst 0 (by decide) dL_sound_547 ?_
                                            refine EZ_callH zn1 (k_product l hfl S_520 r_100 0) cwH_123 (As := [.ref 0, .int r_100, .int 0]) (st := []) rfl (rok (Nat.le_of_ble_eq_true rfl) (Nat.le_of_ble_eq_true rfl) (by omega) (by omega)) (Nat.le_of_ble_eq_true rfl) dL_sound_548 rfl (zkI (fun r_548 mi_548 ml_548 h_548 => ?_))
                                            obtain ⟨S_548, h_548⟩ := h_548
                                            have n_548 := pr_x h_548 n_100
                                            refine EZ_sipush (-903) (by decide) dL_sound_551 ?_
                                            refine ZZ_ne (-903) (-903) n_548 (show ((-903) : Int32).toInt = (-903) from rfl) 561 dL_sound_554 (by decide) (fun c_554 => ?_) (fun c_554 => ?_)
                                            · exact absurd c_554 (by omega)
                                            · skip
                                              refine EZ_iconst 1 (by decide) dL_sound_557 ?_
                                              refine EZ_goto 562 dL_sound_558 (by decide) ?_
                                              refine EZ_zret rfl rfl (by omega) (by omega) dL_sound_562 ?_
                                              exact okQI ⟨S_548, rfl⟩
                                        · exact absurd c_533 (by omega)
                                      · skip
                                        refine EZ_iconst 1 (by decide) dL_sound_526 ?_
                                        refine EZ_goto 531 dL_sound_527 (by decide) ?_
                                        refine EZ_iload_n 4 dL_sound_531 rfl rfl ?_
                                        refine EZ_iconst 2 (by decide) dL_sound_532 ?_
                                        refine ZZ_ge (nV V : Int) 2 n_2 (show (2 : Int32).toInt = 2 from rfl) 540 dL_sound_533 (by decide) (fun c_533 => ?_) (fun c_533 => ?_)
                                        · exact absurd c_533 (by omega)
                                        · skip
                                          refine EZ_iconst 1 (by decide) dL_sound_536 ?_
                                          refine EZ_goto 541 dL_sound_537 (by decide) ?_
                                          refine ZZ_ne 1 1 (show (1 : Int32).toInt = 1 from rfl) (show (1 : Int32).toInt = 1 from rfl) 561 dL_sound_541 (by decide) (fun c_541 => ?_) (fun c_541 => ?_)
                                          · exact absurd c_541 (by decide)
                                          · skip
                                            refine EZ_aload_n 2 dL_sound_544 rfl rfl ?_
                                            refine EZ_iload 10 dL_sound_545 rfl ?_
                                            refine EZ_iconst 0 (by decide) dL_sound_547 ?_
                                            refine EZ_callH zn1 (k_product l hfl S_520 r_100 0) cwH_123 (As := [.ref 0, .int r_100, .int 0]) (st := []) rfl (rok (Nat.le_of_ble_eq_true rfl) (Nat.le_of_ble_eq_true rfl) (by omega) (by omega)) (Nat.le_of_ble_eq_true rfl) dL_sound_548 rfl (zkI (fun r_548 mi_548 ml_548 h_548 => ?_))
                                            obtain ⟨S_548, h_548⟩ := h_548
                                            have n_548 := pr_x h_548 n_100
                                            refine EZ_sipush (-903) (by decide) dL_sound_551 ?_
                                            refine ZZ_ne (-903) (-903) n_548 (show ((-903) : Int32).toInt = (-903) from rfl) 561 dL_sound_554 (by decide) (fun c_554 => ?_) (fun c_554 => ?_)
                                            · exact absurd c_554 (by omega)
                                            · skip
                                              refine EZ_iconst 1 (by decide) dL_sound_557 ?_
                                              refine EZ_goto 562 dL_sound_558 (by decide) ?_
                                              refine EZ_zret rfl rfl (by omega) (by omega) dL_sound_562 ?_
                                              exact okQI ⟨S_548, rfl⟩
                      · exact absurd (fo_len.mpr (by rw [← n_14]; exact lg_0 c_455)) (by omega)
                    · skip
                      refine EZ_iconst 1 (by decide) dL_sound_446 ?_
                      refine EZ_goto 451 dL_sound_447 (by decide) ?_
                      refine EZ_lload 6 dL_sound_451 rfl ?_
                      refine EZ_lconst 0 rfl dL_sound_453 ?_
                      refine EZ_lcmp dL_sound_454 ?_
                      refine YZ_ne ((lg_cmp r_14 0).toInt) rfl 462 dL_sound_455 (by decide) (fun c_455 => ?_) (fun c_455 => ?_)
                      · exact absurd (lc_z (by rw [n_14]; exact fo_len.mp (by omega))) c_455
                      · skip
                        refine EZ_iconst 1 (by decide) dL_sound_458 ?_
                        refine EZ_goto 463 dL_sound_459 (by decide) ?_
                        refine ZZ_ne 1 1 (show (1 : Int32).toInt = 1 from rfl) (show (1 : Int32).toInt = 1 from rfl) 561 dL_sound_463 (by decide) (fun c_463 => ?_) (fun c_463 => ?_)
                        · exact absurd c_463 (by decide)
                        · skip
                          refine EZ_iload 7 dL_sound_466 rfl ?_
                          refine EZ_aload_n 2 dL_sound_468 rfl rfl ?_
                          refine EZ_callV (j_hits l hfl S_422) cw_L_132 (As := []) (st := [.int xh]) wi_yX5_hits we_yX5_hits (ci := 5) (q := (RX5, TX5, 7)) rfl rfl (wl_atO tw_0) rfl (rok (Nat.le_of_ble_eq_true rfl) (Nat.le_of_ble_eq_true rfl) (by omega) (by omega)) (Nat.le_of_ble_eq_true rfl) dL_sound_469 (fun _ _ h => h) rfl (zkI (fun r_469 mi_469 ml_469 h_469 => ?_))
                          obtain ⟨S_469, h_469⟩ := h_469
                          refine ZZ_ne (hsA V (prV V (2 ^ nV V - 1) (nV V)) (nV V) : Int) (hsA V (prV V (2 ^ nV V - 1) (nV V)) (nV V) : Int) hh h_469 561 dL_sound_472 (by decide) (fun c_472 => ?_) (fun c_472 => ?_)
                          · exact absurd c_472 (by omega)
                          · skip
                            refine EZ_aload_n 2 dL_sound_475 rfl rfl ?_
                            refine EZ_callV (j_isClean l hfl S_469) cw_L_135 (As := []) (st := []) wi_yX5_isClean we_yX5_isClean (ci := 5) (q := (RX5, TX5, 7)) rfl rfl (wl_atO tw_0) rfl (rok (Nat.le_of_ble_eq_true rfl) (Nat.le_of_ble_eq_true rfl) (by omega) (by omega)) (Nat.le_of_ble_eq_true rfl) dL_sound_476 (fun _ _ h => h) rfl (zkI (fun r_476 mi_476 ml_476 h_476 => ?_))
                            obtain ⟨S_476, h_476⟩ := h_476
                            refine EZ_iload 1 dL_sound_479 rfl ?_
                            refine ZZ_ne r_476.toInt 1 rfl (show (1 : Int32).toInt = 1 from rfl) 561 dL_sound_481 (by decide) (fun c_481 => ?_) (fun c_481 => ?_)
                            · (rw [h_476, bI_t hcl] at c_481; exact absurd rfl c_481)
                            · skip
                              refine EZ_aload_n 2 dL_sound_484 rfl rfl ?_
                              refine EZ_callV (j_channels l hfl S_476) cw_L_113 (As := []) (st := []) wi_yX5_channels we_yX5_channels (ci := 5) (q := (RX5, TX5, 7)) rfl rfl (wl_atO tw_0) rfl (rok (Nat.le_of_ble_eq_true rfl) (Nat.le_of_ble_eq_true rfl) (by omega) (by omega)) (Nat.le_of_ble_eq_true rfl) dL_sound_485 (fun _ _ h => h) rfl (zkJ (fun r_485 mi_485 ml_485 h_485 => ?_))
                              obtain ⟨S_485, h_485⟩ := h_485
                              refine EZ_callZ zn1 (z_many l hfl mi_485 ml_485 r_485) cw_L_139 (As := [.long r_485]) (st := []) ws_yL_many rfl (rok (Nat.le_of_ble_eq_true rfl) (Nat.le_of_ble_eq_true rfl) (by omega) (by omega)) (Nat.le_of_ble_eq_true rfl) dL_sound_488 rfl (zkI (fun r_488 mi_488 ml_488 h_488 => ?_))
                              obtain ⟨e1_488, e2_488, h_488⟩ := h_488
                              subst e1_488; subst e2_488
                              have n_488 : r_488.toInt = (nV V : Int) := by rw [h_488, h_485, ch_pc S.1 wn.1 _ (Nat.le_refl _)]
                              refine EZ_iload_n 4 dL_sound_491 rfl rfl ?_
                              refine ZZ_ne (nV V : Int) (nV V : Int) n_488 n_2 561 dL_sound_492 (by decide) (fun c_492 => ?_) (fun c_492 => ?_)
                              · exact absurd c_492 (by omega)
                              · skip
                                refine EZ_iload 0 dL_sound_495 rfl ?_
                                refine YZ_ne (b9 : Int) hb9 504 dL_sound_497 (by decide) (fun c_497 => ?_) (fun c_497 => ?_)
                                · exact absurd ((rm_0 hrm).mpr hcl) (by omega)
                                · skip
                                  refine EZ_iconst 1 (by decide) dL_sound_500 ?_
                                  refine EZ_goto 505 dL_sound_501 (by decide) ?_
                                  refine EZ_iload 1 dL_sound_505 rfl ?_
                                  refine ZZ_ne 1 1 (show (1 : Int32).toInt = 1 from rfl) (show (1 : Int32).toInt = 1 from rfl) 561 dL_sound_507 (by decide) (fun c_507 => ?_) (fun c_507 => ?_)
                                  · exact absurd c_507 (by decide)
                                  · skip
                                    refine EZ_iload 0 dL_sound_510 rfl ?_
                                    refine EZ_iload_n 5 dL_sound_512 rfl rfl ?_
                                    refine EZ_iconst (-1) (by decide) dL_sound_513 ?_
                                    refine EZ_ixor dL_sound_514 ?_
                                    refine EZ_iand dL_sound_515 ?_
                                    refine YZ_ne ((r_422 &&& ((((1 : Int32) <<< (r_2 &&& 31)) - 1) ^^^ ((-1) : Int32))).toInt) rfl 561 dL_sound_516 (by decide) (fun c_516 => ?_) (fun c_516 => ?_)
                                    · exact absurd (by rw [go_all hb9 hrm.1 wn.2 (pw_a n_2 wn.2)]; rfl) c_516
                                    · skip
                                      refine EZ_aload_n 2 dL_sound_519 rfl rfl ?_
                                      refine EZ_callV (j_closest l hfl S_485) cw_L_126 (As := []) (st := []) wi_yX5_closest we_yX5_closest (ci := 5) (q := (RX5, TX5, 7)) rfl rfl (wl_atO tw_0) rfl (rok (Nat.le_of_ble_eq_true rfl) (Nat.le_of_ble_eq_true rfl) (by omega) (by omega)) (Nat.le_of_ble_eq_true rfl) dL_sound_520 (fun _ _ h => h) rfl (zkI (fun r_520 mi_520 ml_520 h_520 => ?_))
                                      obtain ⟨S_520, h_520⟩ := h_520
                                      have n_520 := close_iff S.1 wn.1 (show 1 ≤ (V 4).toInt by have h9 := S.1.1; omega) h_520
                                      have n_521 := n_520.2.1
                                      refine YZ_ge r_520.toInt rfl 530 dL_sound_523 (by decide) (fun c_523 => ?_) (fun c_523 => ?_)
                                      · skip
                                        refine EZ_iconst 0 (by decide) dL_sound_530 ?_
                                        refine EZ_iload_n 4 dL_sound_531 rfl rfl ?_
                                        refine EZ_iconst 2 (by decide) dL_sound_532 ?_
                                        refine ZZ_ge (nV V : Int) 2 n_2 (show (2 : Int32).toInt = 2 from rfl) 540 dL_sound_533 (by decide) (fun c_533 => ?_) (fun c_533 => ?_)
                                        · skip
                                          refine EZ_iconst 0 (by decide) dL_sound_540 ?_
                                          refine ZZ_ne 0 0 (show (0 : Int32).toInt = 0 from rfl) (show (0 : Int32).toInt = 0 from rfl) 561 dL_sound_541 (by decide) (fun c_541 => ?_) (fun c_541 => ?_)
                                          · exact absurd c_541 (by decide)
                                          · skip
                                            refine EZ_aload_n 2 dL_sound_544 rfl rfl ?_
                                            refine EZ_iload 10 dL_sound_545 rfl ?_
                                            refine EZ_iconst 0 (by decide) dL_sound_547 ?_
                                            refine EZ_callH zn1 (k_product l hfl S_520 r_100 0) cwH_123 (As := [.ref 0, .int r_100, .int 0]) (st := []) rfl (rok (Nat.le_of_ble_eq_true rfl) (Nat.le_of_ble_eq_true rfl) (by omega) (by omega)) (Nat.le_of_ble_eq_true rfl) dL_sound_548 rfl (zkI (fun r_548 mi_548 ml_548 h_548 => ?_))
                                            obtain ⟨S_548, h_548⟩ := h_548
                                            have n_548 := pr_x h_548 n_100
                                            refine EZ_sipush (-903) (by decide) dL_sound_551 ?_
                                            refine ZZ_ne (-903) (-903) n_548 (show ((-903) : Int32).toInt = (-903) from rfl) 561 dL_sound_554 (by decide) (fun c_554 => ?_) (fun c_554 => ?_)
                                            · exact absurd c_554 (by omega)
                                            · skip
                                              refine EZ_iconst 1 (by decide) dL_sound_557 ?_
                                              refine EZ_goto 562 dL_sound_558 (by decide) ?_
                                              refine EZ_zret rfl rfl (by omega) (by omega) dL_sound_562 ?_
                                              exact okQI ⟨S_548, rfl⟩
                                        · exact absurd c_533 (by omega)
                                      · skip
                                        refine EZ_iconst 1 (by decide) dL_sound_526 ?_
                                        refine EZ_goto 531 dL_sound_527 (by decide) ?_
                                        refine EZ_iload_n 4 dL_sound_531 rfl rfl ?_
                                        refine EZ_iconst 2 (by decide) dL_sound_532 ?_
                                        refine ZZ_ge (nV V : Int) 2 n_2 (show (2 : Int32).toInt = 2 from rfl) 540 dL_sound_533 (by decide) (fun c_533 => ?_) (fun c_533 => ?_)
                                        · exact absurd c_533 (by omega)
                                        · skip
                                          refine EZ_iconst 1 (by decide) dL_sound_536 ?_
                                          refine EZ_goto 541 dL_sound_537 (by decide) ?_
                                          refine ZZ_ne 1 1 (show (1 : Int32).toInt = 1 from rfl) (show (1 : Int32).toInt = 1 from rfl) 561 dL_sound_541 (by decide) (fun c_541 => ?_) (fun c_541 => ?_)
                                          · exact absurd c_541 (by decide)
                                          · skip
                                            refine EZ_aload_n 2 dL_sound_544 rfl rfl ?_
                                            refine EZ_iload 10 dL_sound_545 rfl ?_
                                            refine EZ_iconst 0 (by decide) dL_sound_547 ?_
                                            refine EZ_callH zn1 (k_product l hfl S_520 r_100 0) cwH_123 (As := [.ref 0, .int r_100, .int 0]) (st := []) rfl (rok (Nat.le_of_ble_eq_true rfl) (Nat.le_of_ble_eq_true rfl) (by omega) (by omega)) (Nat.le_of_ble_eq_true rfl) dL_sound_548 rfl (zkI (fun r_548 mi_548 ml_548 h_548 => ?_))
                                            obtain ⟨S_548, h_548⟩ := h_548
                                            have n_548 := pr_x h_548 n_100
                                            refine EZ_sipush (-903) (by decide) dL_sound_551 ?_
                                            refine ZZ_ne (-903) (-903) n_548 (show ((-903) : Int32).toInt = (-903) from rfl) 561 dL_sound_554 (by decide) (fun c_554 => ?_) (fun c_554 => ?_)
                                            · exact absurd c_554 (by omega)
                                            · skip
                                              refine EZ_iconst 1 (by decide) dL_sound_557 ?_
                                              refine EZ_goto 562 dL_sound_558 (by decide) ?_
                                              refine EZ_zret rfl rfl (by omega) (by omega) dL_sound_562 ?_
                                              exact okQI ⟨S_548, rfl⟩
                · skip
                  refine EZ_aload_n 0 dL_sound_406 rfl rfl ?_
                  refine EZ_callV (j_closest l hfl S_400) cw_L_126 (As := []) (st := []) wi_yX5_closest we_yX5_closest (ci := 5) (q := (RX5, TX5, 7)) rfl rfl (wl_atO tw_0) rfl (rok (Nat.le_of_ble_eq_true rfl) (Nat.le_of_ble_eq_true rfl) (by omega) (by omega)) (Nat.le_of_ble_eq_true rfl) dL_sound_407 (fun _ _ h => h) rfl (zkI (fun r_407 mi_407 ml_407 h_407 => ?_))
                  obtain ⟨S_407, h_407⟩ := h_407
                  have n_407 := close_iff S.1 wn.1 (show 1 ≤ (V 4).toInt by have h9 := S.1.1; omega) h_407
                  refine EZ_iload_n 1 dL_sound_410 rfl rfl ?_
                  refine ZZ_lt r_407.toInt ((V 4).toInt) rfl hs 418 dL_sound_411 (by decide) (fun c_411 => ?_) (fun c_411 => ?_)
                  · skip
                    refine EZ_iconst 0 (by decide) dL_sound_418 ?_
                    have hcl : ¬ ClR (DV V) (V 3).toInt (V 4).toInt (nV V) := fun q => by have h9 := n_407.1.mp (clean_iff.mp q).2; have h8 := n_407.2.1; have h7 := n_400.2.1; omega
                    refine EZ_istore [(12, .int 0), (0, .ref 0), (1, .int xs), (2, .int r_2), (3, .int (((1 : Int32) <<< (r_2 &&& 31)) - 1)), (4, .long r_14), (6, .int xh), (7, .int xb), (8, .long xe), (10, .int r_100), (11, .int (1 + (r_100 / 4)))] dL_sound_419 (by decide) rfl ?_
                    refine EZ_aload_n 1 dL_sound_421 rfl rfl ?_
                    refine EZ_callV (j_removal l hfl S_407) cw_L_129 (As := []) (st := []) wi_yX5_removal we_yX5_removal (ci := 5) (q := (RX5, TX5, 7)) rfl rfl (wl_atO tw_0) rfl (rok (Nat.le_of_ble_eq_true rfl) (Nat.le_of_ble_eq_true rfl) (by omega) (by omega)) (Nat.le_of_ble_eq_true rfl) dL_sound_422 (fun _ _ h => h) rfl (zkI (fun r_422 mi_422 ml_422 h_422 => ?_))
                    obtain ⟨S_422, h_422⟩ := h_422
                    obtain ⟨b9, hb9, hrm⟩ := h_422
                    refine EZ_istore [(13, .int r_422), (12, .int 0), (0, .ref 0), (1, .int xs), (2, .int r_2), (3, .int (((1 : Int32) <<< (r_2 &&& 31)) - 1)), (4, .long r_14), (6, .int xh), (7, .int xb), (8, .long xe), (10, .int r_100), (11, .int (1 + (r_100 / 4)))] dL_sound_425 (by decide) rfl ?_
                    refine EZ_lload 9 dL_sound_427 rfl ?_
                    refine EZ_lload 6 dL_sound_429 rfl ?_
                    refine EZ_ldc2 wk_L_111 dL_sound_431 ?_
                    refine EZ_lxor dL_sound_434 ?_
                    refine EZ_land dL_sound_435 ?_
                    refine EZ_lconst 0 rfl dL_sound_436 ?_
                    refine EZ_lcmp dL_sound_437 ?_
                    refine YZ_ne ((lg_cmp (xe &&& (r_14 ^^^ (-1))) 0).toInt) rfl 561 dL_sound_438 (by decide) (fun c_438 => ?_) (fun c_438 => ?_)
                    · exact absurd (lc_z hse) c_438
                    · skip
                      refine EZ_iload 10 dL_sound_441 rfl ?_
                      refine YZ_ne ((prV V (2 ^ nV V - 1) (nV V)).length : Int) n_100 450 dL_sound_443 (by decide) (fun c_443 => ?_) (fun c_443 => ?_)
                      · skip
                        refine EZ_iconst 0 (by decide) dL_sound_450 ?_
                        refine EZ_lload 6 dL_sound_451 rfl ?_
                        refine EZ_lconst 0 rfl dL_sound_453 ?_
                        refine EZ_lcmp dL_sound_454 ?_
                        refine YZ_ne ((lg_cmp r_14 0).toInt) rfl 462 dL_sound_455 (by decide) (fun c_455 => ?_) (fun c_455 => ?_)
                        · skip
                          refine EZ_iconst 0 (by decide) dL_sound_462 ?_
                          refine ZZ_ne 0 0 (show (0 : Int32).toInt = 0 from rfl) (show (0 : Int32).toInt = 0 from rfl) 561 dL_sound_463 (by decide) (fun c_463 => ?_) (fun c_463 => ?_)
                          · exact absurd c_463 (by decide)
                          · skip
                            refine EZ_iload 7 dL_sound_466 rfl ?_
                            refine EZ_aload_n 2 dL_sound_468 rfl rfl ?_
                            refine EZ_callV (j_hits l hfl S_422) cw_L_132 (As := []) (st := [.int xh]) wi_yX5_hits we_yX5_hits (ci := 5) (q := (RX5, TX5, 7)) rfl rfl (wl_atO tw_0) rfl (rok (Nat.le_of_ble_eq_true rfl) (Nat.le_of_ble_eq_true rfl) (by omega) (by omega)) (Nat.le_of_ble_eq_true rfl) dL_sound_469 (fun _ _ h => h) rfl (zkI (fun r_469 mi_469 ml_469 h_469 => ?_))
                            obtain ⟨S_469, h_469⟩ := h_469
                            refine ZZ_ne (hsA V (prV V (2 ^ nV V - 1) (nV V)) (nV V) : Int) (hsA V (prV V (2 ^ nV V - 1) (nV V)) (nV V) : Int) hh h_469 561 dL_sound_472 (by decide) (fun c_472 => ?_) (fun c_472 => ?_)
                            · exact absurd c_472 (by omega)
                            · skip
                              refine EZ_aload_n 2 dL_sound_475 rfl rfl ?_
                              refine EZ_callV (j_isClean l hfl S_469) cw_L_135 (As := []) (st := []) wi_yX5_isClean we_yX5_isClean (ci := 5) (q := (RX5, TX5, 7)) rfl rfl (wl_atO tw_0) rfl (rok (Nat.le_of_ble_eq_true rfl) (Nat.le_of_ble_eq_true rfl) (by omega) (by omega)) (Nat.le_of_ble_eq_true rfl) dL_sound_476 (fun _ _ h => h) rfl (zkI (fun r_476 mi_476 ml_476 h_476 => ?_))
                              obtain ⟨S_476, h_476⟩ := h_476
                              refine EZ_iload 1 dL_sound_479 rfl ?_
                              refine ZZ_ne r_476.toInt 0 rfl (show (0 : Int32).toInt = 0 from rfl) 561 dL_sound_481 (by decide) (fun c_481 => ?_) (fun c_481 => ?_)
                              · (rw [h_476, bI_f hcl] at c_481; exact absurd rfl c_481)
                              · skip
                                refine EZ_aload_n 2 dL_sound_484 rfl rfl ?_
                                refine EZ_callV (j_channels l hfl S_476) cw_L_113 (As := []) (st := []) wi_yX5_channels we_yX5_channels (ci := 5) (q := (RX5, TX5, 7)) rfl rfl (wl_atO tw_0) rfl (rok (Nat.le_of_ble_eq_true rfl) (Nat.le_of_ble_eq_true rfl) (by omega) (by omega)) (Nat.le_of_ble_eq_true rfl) dL_sound_485 (fun _ _ h => h) rfl (zkJ (fun r_485 mi_485 ml_485 h_485 => ?_))
                                obtain ⟨S_485, h_485⟩ := h_485
                                refine EZ_callZ zn1 (z_many l hfl mi_485 ml_485 r_485) cw_L_139 (As := [.long r_485]) (st := []) ws_yL_many rfl (rok (Nat.le_of_ble_eq_true rfl) (Nat.le_of_ble_eq_true rfl) (by omega) (by omega)) (Nat.le_of_ble_eq_true rfl) dL_sound_488 rfl (zkI (fun r_488 mi_488 ml_488 h_488 => ?_))
                                obtain ⟨e1_488, e2_488, h_488⟩ := h_488
                                subst e1_488; subst e2_488
                                have n_488 : r_488.toInt = (nV V : Int) := by rw [h_488, h_485, ch_pc S.1 wn.1 _ (Nat.le_refl _)]
                                refine EZ_iload_n 4 dL_sound_491 rfl rfl ?_
                                refine ZZ_ne (nV V : Int) (nV V : Int) n_488 n_2 561 dL_sound_492 (by decide) (fun c_492 => ?_) (fun c_492 => ?_)
                                · exact absurd c_492 (by omega)
                                · skip
                                  refine EZ_iload 0 dL_sound_495 rfl ?_
                                  refine YZ_ne (b9 : Int) hb9 504 dL_sound_497 (by decide) (fun c_497 => ?_) (fun c_497 => ?_)
                                  · skip
                                    refine EZ_iconst 0 (by decide) dL_sound_504 ?_
                                    refine EZ_iload 1 dL_sound_505 rfl ?_
                                    refine ZZ_ne 0 0 (show (0 : Int32).toInt = 0 from rfl) (show (0 : Int32).toInt = 0 from rfl) 561 dL_sound_507 (by decide) (fun c_507 => ?_) (fun c_507 => ?_)
                                    · exact absurd c_507 (by decide)
                                    · skip
                                      refine EZ_iload 0 dL_sound_510 rfl ?_
                                      refine EZ_iload_n 5 dL_sound_512 rfl rfl ?_
                                      refine EZ_iconst (-1) (by decide) dL_sound_513 ?_
                                      refine EZ_ixor dL_sound_514 ?_
                                      refine EZ_iand dL_sound_515 ?_
                                      refine YZ_ne ((r_422 &&& ((((1 : Int32) <<< (r_2 &&& 31)) - 1) ^^^ ((-1) : Int32))).toInt) rfl 561 dL_sound_516 (by decide) (fun c_516 => ?_) (fun c_516 => ?_)
                                      · exact absurd (by rw [go_all hb9 hrm.1 wn.2 (pw_a n_2 wn.2)]; rfl) c_516
                                      · skip
                                        refine EZ_aload_n 2 dL_sound_519 rfl rfl ?_
                                        refine EZ_callV (j_closest l hfl S_485) cw_L_126 (As := []) (st := []) wi_yX5_closest we_yX5_closest (ci := 5) (q := (RX5, TX5, 7)) rfl rfl (wl_atO tw_0) rfl (rok (Nat.le_of_ble_eq_true rfl) (Nat.le_of_ble_eq_true rfl) (by omega) (by omega)) (Nat.le_of_ble_eq_true rfl) dL_sound_520 (fun _ _ h => h) rfl (zkI (fun r_520 mi_520 ml_520 h_520 => ?_))
                                        obtain ⟨S_520, h_520⟩ := h_520
                                        have n_520 := close_iff S.1 wn.1 (show 1 ≤ (V 4).toInt by have h9 := S.1.1; omega) h_520
                                        have n_521 := n_520.2.1
                                        refine YZ_ge r_520.toInt rfl 530 dL_sound_523 (by decide) (fun c_523 => ?_) (fun c_523 => ?_)
                                        · skip
                                          refine EZ_iconst 0 (by decide) dL_sound_530 ?_
                                          refine EZ_iload_n 4 dL_sound_531 rfl rfl ?_
                                          refine EZ_iconst 2 (by decide) dL_sound_532 ?_
                                          refine ZZ_ge (nV V : Int) 2 n_2 (show (2 : Int32).toInt = 2 from rfl) 540 dL_sound_533 (by decide) (fun c_533 => ?_) (fun c_533 => ?_)
                                          · skip
                                            refine EZ_iconst 0 (by decide) dL_sound_540 ?_
                                            refine ZZ_ne 0 0 (show (0 : Int32).toInt = 0 from rfl) (show (0 : Int32).toInt = 0 from rfl) 561 dL_sound_541 (by decide) (fun c_541 => ?_) (fun c_541 => ?_)
                                            · exact absurd c_541 (by decide)
                                            · skip
                                              refine EZ_aload_n 2 dL_sound_544 rfl rfl ?_
                                              refine EZ_iload 10 dL_sound_545 rfl ?_
                                              refine EZ_iconst 0 (by decide) dL_sound_547 ?_
                                              refine EZ_callH zn1 (k_product l hfl S_520 r_100 0) cwH_123 (As := [.ref 0, .int r_100, .int 0]) (st := []) rfl (rok (Nat.le_of_ble_eq_true rfl) (Nat.le_of_ble_eq_true rfl) (by omega) (by omega)) (Nat.le_of_ble_eq_true rfl) dL_sound_548 rfl (zkI (fun r_548 mi_548 ml_548 h_548 => ?_))
                                              obtain ⟨S_548, h_548⟩ := h_548
                                              have n_548 := pr_x h_548 n_100
                                              refine EZ_sipush (-903) (by decide) dL_sound_551 ?_
                                              refine ZZ_ne (-903) (-903) n_548 (show ((-903) : Int32).toInt = (-903) from rfl) 561 dL_sound_554 (by decide) (fun c_554 => ?_) (fun c_554 => ?_)
                                              · exact absurd c_554 (by omega)
                                              · skip
                                                refine EZ_iconst 1 (by decide) dL_sound_557 ?_
                                                refine EZ_goto 562 dL_sound_558 (by decide) ?_
                                                refine EZ_zret rfl rfl (by omega) (by omega) dL_sound_562 ?_
                                                exact okQI ⟨S_548, rfl⟩
                                          · exact absurd c_533 (by omega)
                                        · skip
                                          refine EZ_iconst 1 (by decide) dL_sound_526 ?_
                                          refine EZ_goto 531 dL_sound_527 (by decide) ?_
                                          refine EZ_iload_n 4 dL_sound_531 rfl rfl ?_
                                          refine EZ_iconst 2 (by decide) dL_sound_532 ?_
                                          refine ZZ_ge (nV V : Int) 2 n_2 (show (2 : Int32).toInt = 2 from rfl) 540 dL_sound_533 (by decide) (fun c_533 => ?_) (fun c_533 => ?_)
                                          · exact absurd c_533 (by omega)
                                          · skip
                                            refine EZ_iconst 1 (by decide) dL_sound_536 ?_
                                            refine EZ_goto 541 dL_sound_537 (by decide) ?_
                                            refine ZZ_ne 1 1 (show (1 : Int32).toInt = 1 from rfl) (show (1 : Int32).toInt = 1 from rfl) 561 dL_sound_541 (by decide) (fun c_541 => ?_) (fun c_541 => ?_)
                                            · exact absurd c_541 (by decide)
                                            · skip
                                              refine EZ_aload_n 2 dL_sound_544 rfl rfl ?_
                                              refine EZ_iload 10 dL_sound_545 rfl ?_
                                              refine EZ_iconst 0 (by decide) dL_sound_547 ?_
                                              refine EZ_callH zn1 (k_product l hfl S_520 r_100 0) cwH_123 (As := [.ref 0, .int r_100, .int 0]) (st := []) rfl (rok (Nat.le_of_ble_eq_true rfl) (Nat.le_of_ble_eq_true rfl) (by omega) (by omega)) (Nat.le_of_ble_eq_true rfl) dL_sound_548 rfl (zkI (fun r_548 mi_548 ml_548 h_548 => ?_))
                                              obtain ⟨S_548, h_548⟩ := h_548
                                              have n_548 := pr_x h_548 n_100
                                              refine EZ_sipush (-903) (by decide) dL_sound_551 ?_
                                              refine ZZ_ne (-903) (-903) n_548 (show ((-903) : Int32).toInt = (-903) from rfl) 561 dL_sound_554 (by decide) (fun c_554 => ?_) (fun c_554 => ?_)
                                              · exact absurd c_554 (by omega)
                                              · skip
                                                refine EZ_iconst 1 (by decide) dL_sound_557 ?_
                                                refine EZ_goto 562 dL_sound_558 (by decide) ?_
                                                refine EZ_zret rfl rfl (by omega) (by omega) dL_sound_562 ?_
                                                exact okQI ⟨S_548, rfl⟩
                                  · exact absurd ((rm_0 hrm).mp (by omega)) hcl
                        · exact absurd (fo_len.mpr (by rw [← n_14]; exact lg_0 c_455)) (by omega)
                      · skip
                        refine EZ_iconst 1 (by decide) dL_sound_446 ?_
                        refine EZ_goto 451 dL_sound_447 (by decide) ?_
                        refine EZ_lload 6 dL_sound_451 rfl ?_
                        refine EZ_lconst 0 rfl dL_sound_453 ?_
                        refine EZ_lcmp dL_sound_454 ?_
                        refine YZ_ne ((lg_cmp r_14 0).toInt) rfl 462 dL_sound_455 (by decide) (fun c_455 => ?_) (fun c_455 => ?_)
                        · exact absurd (lc_z (by rw [n_14]; exact fo_len.mp (by omega))) c_455
                        · skip
                          refine EZ_iconst 1 (by decide) dL_sound_458 ?_
                          refine EZ_goto 463 dL_sound_459 (by decide) ?_
                          refine ZZ_ne 1 1 (show (1 : Int32).toInt = 1 from rfl) (show (1 : Int32).toInt = 1 from rfl) 561 dL_sound_463 (by decide) (fun c_463 => ?_) (fun c_463 => ?_)
                          · exact absurd c_463 (by decide)
                          · skip
                            refine EZ_iload 7 dL_sound_466 rfl ?_
                            refine EZ_aload_n 2 dL_sound_468 rfl rfl ?_
                            refine EZ_callV (j_hits l hfl S_422) cw_L_132 (As := []) (st := [.int xh]) wi_yX5_hits we_yX5_hits (ci := 5) (q := (RX5, TX5, 7)) rfl rfl (wl_atO tw_0) rfl (rok (Nat.le_of_ble_eq_true rfl) (Nat.le_of_ble_eq_true rfl) (by omega) (by omega)) (Nat.le_of_ble_eq_true rfl) dL_sound_469 (fun _ _ h => h) rfl (zkI (fun r_469 mi_469 ml_469 h_469 => ?_))
                            obtain ⟨S_469, h_469⟩ := h_469
                            refine ZZ_ne (hsA V (prV V (2 ^ nV V - 1) (nV V)) (nV V) : Int) (hsA V (prV V (2 ^ nV V - 1) (nV V)) (nV V) : Int) hh h_469 561 dL_sound_472 (by decide) (fun c_472 => ?_) (fun c_472 => ?_)
                            · exact absurd c_472 (by omega)
                            · skip
                              refine EZ_aload_n 2 dL_sound_475 rfl rfl ?_
                              refine EZ_callV (j_isClean l hfl S_469) cw_L_135 (As := []) (st := []) wi_yX5_isClean we_yX5_isClean (ci := 5) (q := (RX5, TX5, 7)) rfl rfl (wl_atO tw_0) rfl (rok (Nat.le_of_ble_eq_true rfl) (Nat.le_of_ble_eq_true rfl) (by omega) (by omega)) (Nat.le_of_ble_eq_true rfl) dL_sound_476 (fun _ _ h => h) rfl (zkI (fun r_476 mi_476 ml_476 h_476 => ?_))
                              obtain ⟨S_476, h_476⟩ := h_476
                              refine EZ_iload 1 dL_sound_479 rfl ?_
                              refine ZZ_ne r_476.toInt 0 rfl (show (0 : Int32).toInt = 0 from rfl) 561 dL_sound_481 (by decide) (fun c_481 => ?_) (fun c_481 => ?_)
                              · (rw [h_476, bI_f hcl] at c_481; exact absurd rfl c_481)
                              · skip
                                refine EZ_aload_n 2 dL_sound_484 rfl rfl ?_
                                refine EZ_callV (j_channels l hfl S_476) cw_L_113 (As := []) (st := []) wi_yX5_channels we_yX5_channels (ci := 5) (q := (RX5, TX5, 7)) rfl rfl (wl_atO tw_0) rfl (rok (Nat.le_of_ble_eq_true rfl) (Nat.le_of_ble_eq_true rfl) (by omega) (by omega)) (Nat.le_of_ble_eq_true rfl) dL_sound_485 (fun _ _ h => h) rfl (zkJ (fun r_485 mi_485 ml_485 h_485 => ?_))
                                obtain ⟨S_485, h_485⟩ := h_485
                                refine EZ_callZ zn1 (z_many l hfl mi_485 ml_485 r_485) cw_L_139 (As := [.long r_485]) (st := []) ws_yL_many rfl (rok (Nat.le_of_ble_eq_true rfl) (Nat.le_of_ble_eq_true rfl) (by omega) (by omega)) (Nat.le_of_ble_eq_true rfl) dL_sound_488 rfl (zkI (fun r_488 mi_488 ml_488 h_488 => ?_))
                                obtain ⟨e1_488, e2_488, h_488⟩ := h_488
                                subst e1_488; subst e2_488
                                have n_488 : r_488.toInt = (nV V : Int) := by rw [h_488, h_485, ch_pc S.1 wn.1 _ (Nat.le_refl _)]
                                refine EZ_iload_n 4 dL_sound_491 rfl rfl ?_
                                refine ZZ_ne (nV V : Int) (nV V : Int) n_488 n_2 561 dL_sound_492 (by decide) (fun c_492 => ?_) (fun c_492 => ?_)
                                · exact absurd c_492 (by omega)
                                · skip
                                  refine EZ_iload 0 dL_sound_495 rfl ?_
                                  refine YZ_ne (b9 : Int) hb9 504 dL_sound_497 (by decide) (fun c_497 => ?_) (fun c_497 => ?_)
                                  · skip
                                    refine EZ_iconst 0 (by decide) dL_sound_504 ?_
                                    refine EZ_iload 1 dL_sound_505 rfl ?_
                                    refine ZZ_ne 0 0 (show (0 : Int32).toInt = 0 from rfl) (show (0 : Int32).toInt = 0 from rfl) 561 dL_sound_507 (by decide) (fun c_507 => ?_) (fun c_507 => ?_)
                                    · exact absurd c_507 (by decide)
                                    · skip
                                      refine EZ_iload 0 dL_sound_510 rfl ?_
                                      refine EZ_iload_n 5 dL_sound_512 rfl rfl ?_
                                      refine EZ_iconst (-1) (by decide) dL_sound_513 ?_
                                      refine EZ_ixor dL_sound_514 ?_
                                      refine EZ_iand dL_sound_515 ?_
                                      refine YZ_ne ((r_422 &&& ((((1 : Int32) <<< (r_2 &&& 31)) - 1) ^^^ ((-1) : Int32))).toInt) rfl 561 dL_sound_516 (by decide) (fun c_516 => ?_) (fun c_516 => ?_)
                                      · exact absurd (by rw [go_all hb9 hrm.1 wn.2 (pw_a n_2 wn.2)]; rfl) c_516
                                      · skip
                                        refine EZ_aload_n 2 dL_sound_519 rfl rfl ?_
                                        refine EZ_callV (j_closest l hfl S_485) cw_L_126 (As := []) (st := []) wi_yX5_closest we_yX5_closest (ci := 5) (q := (RX5, TX5, 7)) rfl rfl (wl_atO tw_0) rfl (rok (Nat.le_of_ble_eq_true rfl) (Nat.le_of_ble_eq_true rfl) (by omega) (by omega)) (Nat.le_of_ble_eq_true rfl) dL_sound_520 (fun _ _ h => h) rfl (zkI (fun r_520 mi_520 ml_520 h_520 => ?_))
                                        obtain ⟨S_520, h_520⟩ := h_520
                                        have n_520 := close_iff S.1 wn.1 (show 1 ≤ (V 4).toInt by have h9 := S.1.1; omega) h_520
                                        have n_521 := n_520.2.1
                                        refine YZ_ge r_520.toInt rfl 530 dL_sound_523 (by decide) (fun c_523 => ?_) (fun c_523 => ?_)
                                        · skip
                                          refine EZ_iconst 0 (by decide) dL_sound_530 ?_
                                          refine EZ_iload_n 4 dL_sound_531 rfl rfl ?_
                                          refine EZ_iconst 2 (by decide) dL_sound_532 ?_
                                          refine ZZ_ge (nV V : Int) 2 n_2 (show (2 : Int32).toInt = 2 from rfl) 540 dL_sound_533 (by decide) (fun c_533 => ?_) (fun c_533 => ?_)
                                          · skip
                                            refine EZ_iconst 0 (by decide) dL_sound_540 ?_
                                            refine ZZ_ne 0 0 (show (0 : Int32).toInt = 0 from rfl) (show (0 : Int32).toInt = 0 from rfl) 561 dL_sound_541 (by decide) (fun c_541 => ?_) (fun c_541 => ?_)
                                            · exact absurd c_541 (by decide)
                                            · skip
                                              refine EZ_aload_n 2 dL_sound_544 rfl rfl ?_
                                              refine EZ_iload 10 dL_sound_545 rfl ?_
                                              refine EZ_iconst 0 (by decide) dL_sound_547 ?_
                                              refine EZ_callH zn1 (k_product l hfl S_520 r_100 0) cwH_123 (As := [.ref 0, .int r_100, .int 0]) (st := []) rfl (rok (Nat.le_of_ble_eq_true rfl) (Nat.le_of_ble_eq_true rfl) (by omega) (by omega)) (Nat.le_of_ble_eq_true rfl) dL_sound_548 rfl (zkI (fun r_548 mi_548 ml_548 h_548 => ?_))
                                              obtain ⟨S_548, h_548⟩ := h_548
                                              have n_548 := pr_x h_548 n_100
                                              refine EZ_sipush (-903) (by decide) dL_sound_551 ?_
                                              refine ZZ_ne (-903) (-903) n_548 (show ((-903) : Int32).toInt = (-903) from rfl) 561 dL_sound_554 (by decide) (fun c_554 => ?_) (fun c_554 => ?_)
                                              · exact absurd c_554 (by omega)
                                              · skip
                                                refine EZ_iconst 1 (by decide) dL_sound_557 ?_
                                                refine EZ_goto 562 dL_sound_558 (by decide) ?_
                                                refine EZ_zret rfl rfl (by omega) (by omega) dL_sound_562 ?_
                                                exact okQI ⟨S_548, rfl⟩
                                          · exact absurd c_533 (by omega)
                                        · skip
                                          refine EZ_iconst 1 (by decide) dL_sound_526 ?_
                                          refine EZ_goto 531 dL_sound_527 (by decide) ?_
                                          refine EZ_iload_n 4 dL_sound_531 rfl rfl ?_
                                          refine EZ_iconst 2 (by decide) dL_sound_532 ?_
                                          refine ZZ_ge (nV V : Int) 2 n_2 (show (2 : Int32).toInt = 2 from rfl) 540 dL_sound_533 (by decide) (fun c_533 => ?_) (fun c_533 => ?_)
                                          · exact absurd c_533 (by omega)
                                          · skip
                                            refine EZ_iconst 1 (by decide) dL_sound_536 ?_
                                            refine EZ_goto 541 dL_sound_537 (by decide) ?_
                                            refine ZZ_ne 1 1 (show (1 : Int32).toInt = 1 from rfl) (show (1 : Int32).toInt = 1 from rfl) 561 dL_sound_541 (by decide) (fun c_541 => ?_) (fun c_541 => ?_)
                                            · exact absurd c_541 (by decide)
                                            · skip
                                              refine EZ_aload_n 2 dL_sound_544 rfl rfl ?_
                                              refine EZ_iload 10 dL_sound_545 rfl ?_
                                              refine EZ_iconst 0 (by decide) dL_sound_547 ?_
                                              refine EZ_callH zn1 (k_product l hfl S_520 r_100 0) cwH_123 (As := [.ref 0, .int r_100, .int 0]) (st := []) rfl (rok (Nat.le_of_ble_eq_true rfl) (Nat.le_of_ble_eq_true rfl) (by omega) (by omega)) (Nat.le_of_ble_eq_true rfl) dL_sound_548 rfl (zkI (fun r_548 mi_548 ml_548 h_548 => ?_))
                                              obtain ⟨S_548, h_548⟩ := h_548
                                              have n_548 := pr_x h_548 n_100
                                              refine EZ_sipush (-903) (by decide) dL_sound_551 ?_
                                              refine ZZ_ne (-903) (-903) n_548 (show ((-903) : Int32).toInt = (-903) from rfl) 561 dL_sound_554 (by decide) (fun c_554 => ?_) (fun c_554 => ?_)
                                              · exact absurd c_554 (by omega)
                                              · skip
                                                refine EZ_iconst 1 (by decide) dL_sound_557 ?_
                                                refine EZ_goto 562 dL_sound_558 (by decide) ?_
                                                refine EZ_zret rfl rfl (by omega) (by omega) dL_sound_562 ?_
                                                exact okQI ⟨S_548, rfl⟩
                                  · exact absurd ((rm_0 hrm).mp (by omega)) hcl
                  · skip
                    refine EZ_iconst 1 (by decide) dL_sound_414 ?_
                    refine EZ_goto 419 dL_sound_415 (by decide) ?_
                    have hcl : ClR (DV V) (V 3).toInt (V 4).toInt (nV V) := clean_iff.mpr ⟨by omega, n_407.1.mpr (Or.inr (by omega))⟩
                    refine EZ_istore [(12, .int 1), (0, .ref 0), (1, .int xs), (2, .int r_2), (3, .int (((1 : Int32) <<< (r_2 &&& 31)) - 1)), (4, .long r_14), (6, .int xh), (7, .int xb), (8, .long xe), (10, .int r_100), (11, .int (1 + (r_100 / 4)))] dL_sound_419 (by decide) rfl ?_
                    refine EZ_aload_n 1 dL_sound_421 rfl rfl ?_
                    refine EZ_callV (j_removal l hfl S_407) cw_L_129 (As := []) (st := []) wi_yX5_removal we_yX5_removal (ci := 5) (q := (RX5, TX5, 7)) rfl rfl (wl_atO tw_0) rfl (rok (Nat.le_of_ble_eq_true rfl) (Nat.le_of_ble_eq_true rfl) (by omega) (by omega)) (Nat.le_of_ble_eq_true rfl) dL_sound_422 (fun _ _ h => h) rfl (zkI (fun r_422 mi_422 ml_422 h_422 => ?_))
                    obtain ⟨S_422, h_422⟩ := h_422
                    obtain ⟨b9, hb9, hrm⟩ := h_422
                    refine EZ_istore [(13, .int r_422), (12, .int 1), (0, .ref 0), (1, .int xs), (2, .int r_2), (3, .int (((1 : Int32) <<< (r_2 &&& 31)) - 1)), (4, .long r_14), (6, .int xh), (7, .int xb), (8, .long xe), (10, .int r_100), (11, .int (1 + (r_100 / 4)))] dL_sound_425 (by decide) rfl ?_
                    refine EZ_lload 9 dL_sound_427 rfl ?_
                    refine EZ_lload 6 dL_sound_429 rfl ?_
                    refine EZ_ldc2 wk_L_111 dL_sound_431 ?_
                    refine EZ_lxor dL_sound_434 ?_
                    refine EZ_land dL_sound_435 ?_
                    refine EZ_lconst 0 rfl dL_sound_436 ?_
                    refine EZ_lcmp dL_sound_437 ?_
                    refine YZ_ne ((lg_cmp (xe &&& (r_14 ^^^ (-1))) 0).toInt) rfl 561 dL_sound_438 (by decide) (fun c_438 => ?_) (fun c_438 => ?_)
                    · exact absurd (lc_z hse) c_438
                    · skip
                      refine EZ_iload 10 dL_sound_441 rfl ?_
                      refine YZ_ne ((prV V (2 ^ nV V - 1) (nV V)).length : Int) n_100 450 dL_sound_443 (by decide) (fun c_443 => ?_) (fun c_443 => ?_)
                      · skip
                        refine EZ_iconst 0 (by decide) dL_sound_450 ?_
                        refine EZ_lload 6 dL_sound_451 rfl ?_
                        refine EZ_lconst 0 rfl dL_sound_453 ?_
                        refine EZ_lcmp dL_sound_454 ?_
                        refine YZ_ne ((lg_cmp r_14 0).toInt) rfl 462 dL_sound_455 (by decide) (fun c_455 => ?_) (fun c_455 => ?_)
                        · skip
                          refine EZ_iconst 0 (by decide) dL_sound_462 ?_
                          refine ZZ_ne 0 0 (show (0 : Int32).toInt = 0 from rfl) (show (0 : Int32).toInt = 0 from rfl) 561 dL_sound_463 (by decide) (fun c_463 => ?_) (fun c_463 => ?_)
                          · exact absurd c_463 (by decide)
                          · skip
                            refine EZ_iload 7 dL_sound_466 rfl ?_
                            refine EZ_aload_n 2 dL_sound_468 rfl rfl ?_
                            refine EZ_callV (j_hits l hfl S_422) cw_L_132 (As := []) (st := [.int xh]) wi_yX5_hits we_yX5_hits (ci := 5) (q := (RX5, TX5, 7)) rfl rfl (wl_atO tw_0) rfl (rok (Nat.le_of_ble_eq_true rfl) (Nat.le_of_ble_eq_true rfl) (by omega) (by omega)) (Nat.le_of_ble_eq_true rfl) dL_sound_469 (fun _ _ h => h) rfl (zkI (fun r_469 mi_469 ml_469 h_469 => ?_))
                            obtain ⟨S_469, h_469⟩ := h_469
                            refine ZZ_ne (hsA V (prV V (2 ^ nV V - 1) (nV V)) (nV V) : Int) (hsA V (prV V (2 ^ nV V - 1) (nV V)) (nV V) : Int) hh h_469 561 dL_sound_472 (by decide) (fun c_472 => ?_) (fun c_472 => ?_)
                            · exact absurd c_472 (by omega)
                            · skip
                              refine EZ_aload_n 2 dL_sound_475 rfl rfl ?_
                              refine EZ_callV (j_isClean l hfl S_469) cw_L_135 (As := []) (st := []) wi_yX5_isClean we_yX5_isClean (ci := 5) (q := (RX5, TX5, 7)) rfl rfl (wl_atO tw_0) rfl (rok (Nat.le_of_ble_eq_true rfl) (Nat.le_of_ble_eq_true rfl) (by omega) (by omega)) (Nat.le_of_ble_eq_true rfl) dL_sound_476 (fun _ _ h => h) rfl (zkI (fun r_476 mi_476 ml_476 h_476 => ?_))
                              obtain ⟨S_476, h_476⟩ := h_476
                              refine EZ_iload 1 dL_sound_479 rfl ?_
                              refine ZZ_ne r_476.toInt 1 rfl (show (1 : Int32).toInt = 1 from rfl) 561 dL_sound_481 (by decide) (fun c_481 => ?_) (fun c_481 => ?_)
                              · (rw [h_476, bI_t hcl] at c_481; exact absurd rfl c_481)
                              · skip
                                refine EZ_aload_n 2 dL_sound_484 rfl rfl ?_
                                refine EZ_callV (j_channels l hfl S_476) cw_L_113 (As := []) (st := []) wi_yX5_channels we_yX5_channels (ci := 5) (q := (RX5, TX5, 7)) rfl rfl (wl_atO tw_0) rfl (rok (Nat.le_of_ble_eq_true rfl) (Nat.le_of_ble_eq_true rfl) (by omega) (by omega)) (Nat.le_of_ble_eq_true rfl) dL_sound_485 (fun _ _ h => h) rfl (zkJ (fun r_485 mi_485 ml_485 h_485 => ?_))
                                obtain ⟨S_485, h_485⟩ := h_485
                                refine EZ_callZ zn1 (z_many l hfl mi_485 ml_485 r_485) cw_L_139 (As := [.long r_485]) (st := []) ws_yL_many rfl (rok (Nat.le_of_ble_eq_true rfl) (Nat.le_of_ble_eq_true rfl) (by omega) (by omega)) (Nat.le_of_ble_eq_true rfl) dL_sound_488 rfl (zkI (fun r_488 mi_488 ml_488 h_488 => ?_))
                                obtain ⟨e1_488, e2_488, h_488⟩ := h_488
                                subst e1_488; subst e2_488
                                have n_488 : r_488.toInt = (nV V : Int) := by rw [h_488, h_485, ch_pc S.1 wn.1 _ (Nat.le_refl _)]
                                refine EZ_iload_n 4 dL_sound_491 rfl rfl ?_
                                refine ZZ_ne (nV V : Int) (nV V : Int) n_488 n_2 561 dL_sound_492 (by decide) (fun c_492 => ?_) (fun c_492 => ?_)
                                · exact absurd c_492 (by omega)
                                · skip
                                  refine EZ_iload 0 dL_sound_495 rfl ?_
                                  refine YZ_ne (b9 : Int) hb9 504 dL_sound_497 (by decide) (fun c_497 => ?_) (fun c_497 => ?_)
                                  · exact absurd ((rm_0 hrm).mpr hcl) (by omega)
                                  · skip
                                    refine EZ_iconst 1 (by decide) dL_sound_500 ?_
                                    refine EZ_goto 505 dL_sound_501 (by decide) ?_
                                    refine EZ_iload 1 dL_sound_505 rfl ?_
                                    refine ZZ_ne 1 1 (show (1 : Int32).toInt = 1 from rfl) (show (1 : Int32).toInt = 1 from rfl) 561 dL_sound_507 (by decide) (fun c_507 => ?_) (fun c_507 => ?_)
                                    · exact absurd c_507 (by decide)
                                    · skip
                                      refine EZ_iload 0 dL_sound_510 rfl ?_
                                      refine EZ_iload_n 5 dL_sound_512 rfl rfl ?_
                                      refine EZ_iconst (-1) (by decide) dL_sound_513 ?_
                                      refine EZ_ixor dL_sound_514 ?_
                                      refine EZ_iand dL_sound_515 ?_
                                      refine YZ_ne ((r_422 &&& ((((1 : Int32) <<< (r_2 &&& 31)) - 1) ^^^ ((-1) : Int32))).toInt) rfl 561 dL_sound_516 (by decide) (fun c_516 => ?_) (fun c_516 => ?_)
                                      · exact absurd (by rw [go_all hb9 hrm.1 wn.2 (pw_a n_2 wn.2)]; rfl) c_516
                                      · skip
                                        refine EZ_aload_n 2 dL_sound_519 rfl rfl ?_
                                        refine EZ_callV (j_closest l hfl S_485) cw_L_126 (As := []) (st := []) wi_yX5_closest we_yX5_closest (ci := 5) (q := (RX5, TX5, 7)) rfl rfl (wl_atO tw_0) rfl (rok (Nat.le_of_ble_eq_true rfl) (Nat.le_of_ble_eq_true rfl) (by omega) (by omega)) (Nat.le_of_ble_eq_true rfl) dL_sound_520 (fun _ _ h => h) rfl (zkI (fun r_520 mi_520 ml_520 h_520 => ?_))
                                        obtain ⟨S_520, h_520⟩ := h_520
                                        have n_520 := close_iff S.1 wn.1 (show 1 ≤ (V 4).toInt by have h9 := S.1.1; omega) h_520
                                        have n_521 := n_520.2.1
                                        refine YZ_ge r_520.toInt rfl 530 dL_sound_523 (by decide) (fun c_523 => ?_) (fun c_523 => ?_)
                                        · skip
                                          refine EZ_iconst 0 (by decide) dL_sound_530 ?_
                                          refine EZ_iload_n 4 dL_sound_531 rfl rfl ?_
                                          refine EZ_iconst 2 (by decide) dL_sound_532 ?_
                                          refine ZZ_ge (nV V : Int) 2 n_2 (show (2 : Int32).toInt = 2 from rfl) 540 dL_sound_533 (by decide) (fun c_533 => ?_) (fun c_533 => ?_)
                                          · skip
                                            refine EZ_iconst 0 (by decide) dL_sound_540 ?_
                                            refine ZZ_ne 0 0 (show (0 : Int32).toInt = 0 from rfl) (show (0 : Int32).toInt = 0 from rfl) 561 dL_sound_541 (by decide) (fun c_541 => ?_) (fun c_541 => ?_)
                                            · exact absurd c_541 (by decide)
                                            · skip
                                              refine EZ_aload_n 2 dL_sound_544 rfl rfl ?_
                                              refine EZ_iload 10 dL_sound_545 rfl ?_
                                              refine EZ_iconst 0 (by decide) dL_sound_547 ?_
                                              refine EZ_callH zn1 (k_product l hfl S_520 r_100 0) cwH_123 (As := [.ref 0, .int r_100, .int 0]) (st := []) rfl (rok (Nat.le_of_ble_eq_true rfl) (Nat.le_of_ble_eq_true rfl) (by omega) (by omega)) (Nat.le_of_ble_eq_true rfl) dL_sound_548 rfl (zkI (fun r_548 mi_548 ml_548 h_548 => ?_))
                                              obtain ⟨S_548, h_548⟩ := h_548
                                              have n_548 := pr_x h_548 n_100
                                              refine EZ_sipush (-903) (by decide) dL_sound_551 ?_
                                              refine ZZ_ne (-903) (-903) n_548 (show ((-903) : Int32).toInt = (-903) from rfl) 561 dL_sound_554 (by decide) (fun c_554 => ?_) (fun c_554 => ?_)
                                              · exact absurd c_554 (by omega)
                                              · skip
                                                refine EZ_iconst 1 (by decide) dL_sound_557 ?_
                                                refine EZ_goto 562 dL_sound_558 (by decide) ?_
                                                refine EZ_zret rfl rfl (by omega) (by omega) dL_sound_562 ?_
                                                exact okQI ⟨S_548, rfl⟩
                                          · exact absurd c_533 (by omega)
                                        · skip
                                          refine EZ_iconst 1 (by decide) dL_sound_526 ?_
                                          refine EZ_goto 531 dL_sound_527 (by decide) ?_
                                          refine EZ_iload_n 4 dL_sound_531 rfl rfl ?_
                                          refine EZ_iconst 2 (by decide) dL_sound_532 ?_
                                          refine ZZ_ge (nV V : Int) 2 n_2 (show (2 : Int32).toInt = 2 from rfl) 540 dL_sound_533 (by decide) (fun c_533 => ?_) (fun c_533 => ?_)
                                          · exact absurd c_533 (by omega)
                                          · skip
                                            refine EZ_iconst 1 (by decide) dL_sound_536 ?_
                                            refine EZ_goto 541 dL_sound_537 (by decide) ?_
                                            refine ZZ_ne 1 1 (show (1 : Int32).toInt = 1 from rfl) (show (1 : Int32).toInt = 1 from rfl) 561 dL_sound_541 (by decide) (fun c_541 => ?_) (fun c_541 => ?_)
                                            · exact absurd c_541 (by decide)
                                            · skip
                                              refine EZ_aload_n 2 dL_sound_544 rfl rfl ?_
                                              refine EZ_iload 10 dL_sound_545 rfl ?_
                                              refine EZ_iconst 0 (by decide) dL_sound_547 ?_
                                              refine EZ_callH zn1 (k_product l hfl S_520 r_100 0) cwH_123 (As := [.ref 0, .int r_100, .int 0]) (st := []) rfl (rok (Nat.le_of_ble_eq_true rfl) (Nat.le_of_ble_eq_true rfl) (by omega) (by omega)) (Nat.le_of_ble_eq_true rfl) dL_sound_548 rfl (zkI (fun r_548 mi_548 ml_548 h_548 => ?_))
                                              obtain ⟨S_548, h_548⟩ := h_548
                                              have n_548 := pr_x h_548 n_100
                                              refine EZ_sipush (-903) (by decide) dL_sound_551 ?_
                                              refine ZZ_ne (-903) (-903) n_548 (show ((-903) : Int32).toInt = (-903) from rfl) 561 dL_sound_554 (by decide) (fun c_554 => ?_) (fun c_554 => ?_)
                                              · exact absurd c_554 (by omega)
                                              · skip
                                                refine EZ_iconst 1 (by decide) dL_sound_557 ?_
                                                refine EZ_goto 562 dL_sound_558 (by decide) ?_
                                                refine EZ_zret rfl rfl (by omega) (by omega) dL_sound_562 ?_
                                                exact okQI ⟨S_548, rfl⟩
                        · exact absurd (fo_len.mpr (by rw [← n_14]; exact lg_0 c_455)) (by omega)
                      · skip
                        refine EZ_iconst 1 (by decide) dL_sound_446 ?_
                        refine EZ_goto 451 dL_sound_447 (by decide) ?_
                        refine EZ_lload 6 dL_sound_451 rfl ?_
                        refine EZ_lconst 0 rfl dL_sound_453 ?_
                        refine EZ_lcmp dL_sound_454 ?_
                        refine YZ_ne ((lg_cmp r_14 0).toInt) rfl 462 dL_sound_455 (by decide) (fun c_455 => ?_) (fun c_455 => ?_)
                        · exact absurd (lc_z (by rw [n_14]; exact fo_len.mp (by omega))) c_455
                        · skip
                          refine EZ_iconst 1 (by decide) dL_sound_458 ?_
                          refine EZ_goto 463 dL_sound_459 (by decide) ?_
                          refine ZZ_ne 1 1 (show (1 : Int32).toInt = 1 from rfl) (show (1 : Int32).toInt = 1 from rfl) 561 dL_sound_463 (by decide) (fun c_463 => ?_) (fun c_463 => ?_)
                          · exact absurd c_463 (by decide)
                          · skip
                            refine EZ_iload 7 dL_sound_466 rfl ?_
                            refine EZ_aload_n 2 dL_sound_468 rfl rfl ?_
                            refine EZ_callV (j_hits l hfl S_422) cw_L_132 (As := []) (st := [.int xh]) wi_yX5_hits we_yX5_hits (ci := 5) (q := (RX5, TX5, 7)) rfl rfl (wl_atO tw_0) rfl (rok (Nat.le_of_ble_eq_true rfl) (Nat.le_of_ble_eq_true rfl) (by omega) (by omega)) (Nat.le_of_ble_eq_true rfl) dL_sound_469 (fun _ _ h => h) rfl (zkI (fun r_469 mi_469 ml_469 h_469 => ?_))
                            obtain ⟨S_469, h_469⟩ := h_469
                            refine ZZ_ne (hsA V (prV V (2 ^ nV V - 1) (nV V)) (nV V) : Int) (hsA V (prV V (2 ^ nV V - 1) (nV V)) (nV V) : Int) hh h_469 561 dL_sound_472 (by decide) (fun c_472 => ?_) (fun c_472 => ?_)
                            · exact absurd c_472 (by omega)
                            · skip
                              refine EZ_aload_n 2 dL_sound_475 rfl rfl ?_
                              refine EZ_callV (j_isClean l hfl S_469) cw_L_135 (As := []) (st := []) wi_yX5_isClean we_yX5_isClean (ci := 5) (q := (RX5, TX5, 7)) rfl rfl (wl_atO tw_0) rfl (rok (Nat.le_of_ble_eq_true rfl) (Nat.le_of_ble_eq_true rfl) (by omega) (by omega)) (Nat.le_of_ble_eq_true rfl) dL_sound_476 (fun _ _ h => h) rfl (zkI (fun r_476 mi_476 ml_476 h_476 => ?_))
                              obtain ⟨S_476, h_476⟩ := h_476
                              refine EZ_iload 1 dL_sound_479 rfl ?_
                              refine ZZ_ne r_476.toInt 1 rfl (show (1 : Int32).toInt = 1 from rfl) 561 dL_sound_481 (by decide) (fun c_481 => ?_) (fun c_481 => ?_)
                              · (rw [h_476, bI_t hcl] at c_481; exact absurd rfl c_481)
                              · skip
                                refine EZ_aload_n 2 dL_sound_484 rfl rfl ?_
                                refine EZ_callV (j_channels l hfl S_476) cw_L_113 (As := []) (st := []) wi_yX5_channels we_yX5_channels (ci := 5) (q := (RX5, TX5, 7)) rfl rfl (wl_atO tw_0) rfl (rok (Nat.le_of_ble_eq_true rfl) (Nat.le_of_ble_eq_true rfl) (by omega) (by omega)) (Nat.le_of_ble_eq_true rfl) dL_sound_485 (fun _ _ h => h) rfl (zkJ (fun r_485 mi_485 ml_485 h_485 => ?_))
                                obtain ⟨S_485, h_485⟩ := h_485
                                refine EZ_callZ zn1 (z_many l hfl mi_485 ml_485 r_485) cw_L_139 (As := [.long r_485]) (st := []) ws_yL_many rfl (rok (Nat.le_of_ble_eq_true rfl) (Nat.le_of_ble_eq_true rfl) (by omega) (by omega)) (Nat.le_of_ble_eq_true rfl) dL_sound_488 rfl (zkI (fun r_488 mi_488 ml_488 h_488 => ?_))
                                obtain ⟨e1_488, e2_488, h_488⟩ := h_488
                                subst e1_488; subst e2_488
                                have n_488 : r_488.toInt = (nV V : Int) := by rw [h_488, h_485, ch_pc S.1 wn.1 _ (Nat.le_refl _)]
                                refine EZ_iload_n 4 dL_sound_491 rfl rfl ?_
                                refine ZZ_ne (nV V : Int) (nV V : Int) n_488 n_2 561 dL_sound_492 (by decide) (fun c_492 => ?_) (fun c_492 => ?_)
                                · exact absurd c_492 (by omega)
                                · skip
                                  refine EZ_iload 0 dL_sound_495 rfl ?_
                                  refine YZ_ne (b9 : Int) hb9 504 dL_sound_497 (by decide) (fun c_497 => ?_) (fun c_497 => ?_)
                                  · exact absurd ((rm_0 hrm).mpr hcl) (by omega)
                                  · skip
                                    refine EZ_iconst 1 (by decide) dL_sound_500 ?_
                                    refine EZ_goto 505 dL_sound_501 (by decide) ?_
                                    refine EZ_iload 1 dL_sound_505 rfl ?_
                                    refine ZZ_ne 1 1 (show (1 : Int32).toInt = 1 from rfl) (show (1 : Int32).toInt = 1 from rfl) 561 dL_sound_507 (by decide) (fun c_507 => ?_) (fun c_507 => ?_)
                                    · exact absurd c_507 (by decide)
                                    · skip
                                      refine EZ_iload 0 dL_sound_510 rfl ?_
                                      refine EZ_iload_n 5 dL_sound_512 rfl rfl ?_
                                      refine EZ_iconst (-1) (by decide) dL_sound_513 ?_
                                      refine EZ_ixor dL_sound_514 ?_
                                      refine EZ_iand dL_sound_515 ?_
                                      refine YZ_ne ((r_422 &&& ((((1 : Int32) <<< (r_2 &&& 31)) - 1) ^^^ ((-1) : Int32))).toInt) rfl 561 dL_sound_516 (by decide) (fun c_516 => ?_) (fun c_516 => ?_)
                                      · exact absurd (by rw [go_all hb9 hrm.1 wn.2 (pw_a n_2 wn.2)]; rfl) c_516
                                      · skip
                                        refine EZ_aload_n 2 dL_sound_519 rfl rfl ?_
                                        refine EZ_callV (j_closest l hfl S_485) cw_L_126 (As := []) (st := []) wi_yX5_closest we_yX5_closest (ci := 5) (q := (RX5, TX5, 7)) rfl rfl (wl_atO tw_0) rfl (rok (Nat.le_of_ble_eq_true rfl) (Nat.le_of_ble_eq_true rfl) (by omega) (by omega)) (Nat.le_of_ble_eq_true rfl) dL_sound_520 (fun _ _ h => h) rfl (zkI (fun r_520 mi_520 ml_520 h_520 => ?_))
                                        obtain ⟨S_520, h_520⟩ := h_520
                                        have n_520 := close_iff S.1 wn.1 (show 1 ≤ (V 4).toInt by have h9 := S.1.1; omega) h_520
                                        have n_521 := n_520.2.1
                                        refine YZ_ge r_520.toInt rfl 530 dL_sound_523 (by decide) (fun c_523 => ?_) (fun c_523 => ?_)
                                        · skip
                                          refine EZ_iconst 0 (by decide) dL_sound_530 ?_
                                          refine EZ_iload_n 4 dL_sound_531 rfl rfl ?_
                                          refine EZ_iconst 2 (by decide) dL_sound_532 ?_
                                          refine ZZ_ge (nV V : Int) 2 n_2 (show (2 : Int32).toInt = 2 from rfl) 540 dL_sound_533 (by decide) (fun c_533 => ?_) (fun c_533 => ?_)
                                          · skip
                                            refine EZ_iconst 0 (by decide) dL_sound_540 ?_
                                            refine ZZ_ne 0 0 (show (0 : Int32).toInt = 0 from rfl) (show (0 : Int32).toInt = 0 from rfl) 561 dL_sound_541 (by decide) (fun c_541 => ?_) (fun c_541 => ?_)
                                            · exact absurd c_541 (by decide)
                                            · skip
                                              refine EZ_aload_n 2 dL_sound_544 rfl rfl ?_
                                              refine EZ_iload 10 dL_sound_545 rfl ?_
                                              refine EZ_iconst 0 (by decide) dL_sound_547 ?_
                                              refine EZ_callH zn1 (k_product l hfl S_520 r_100 0) cwH_123 (As := [.ref 0, .int r_100, .int 0]) (st := []) rfl (rok (Nat.le_of_ble_eq_true rfl) (Nat.le_of_ble_eq_true rfl) (by omega) (by omega)) (Nat.le_of_ble_eq_true rfl) dL_sound_548 rfl (zkI (fun r_548 mi_548 ml_548 h_548 => ?_))
                                              obtain ⟨S_548, h_548⟩ := h_548
                                              have n_548 := pr_x h_548 n_100
                                              refine EZ_sipush (-903) (by decide) dL_sound_551 ?_
                                              refine ZZ_ne (-903) (-903) n_548 (show ((-903) : Int32).toInt = (-903) from rfl) 561 dL_sound_554 (by decide) (fun c_554 => ?_) (fun c_554 => ?_)
                                              · exact absurd c_554 (by omega)
                                              · skip
                                                refine EZ_iconst 1 (by decide) dL_sound_557 ?_
                                                refine EZ_goto 562 dL_sound_558 (by decide) ?_
                                                refine EZ_zret rfl rfl (by omega) (by omega) dL_sound_562 ?_
                                                exact okQI ⟨S_548, rfl⟩
                                          · exact absurd c_533 (by omega)
                                        · skip
                                          refine EZ_iconst 1 (by decide) dL_sound_526 ?_
                                          refine EZ_goto 531 dL_sound_527 (by decide) ?_
                                          refine EZ_iload_n 4 dL_sound_531 rfl rfl ?_
                                          refine EZ_iconst 2 (by decide) dL_sound_532 ?_
                                          refine ZZ_ge (nV V : Int) 2 n_2 (show (2 : Int32).toInt = 2 from rfl) 540 dL_sound_533 (by decide) (fun c_533 => ?_) (fun c_533 => ?_)
                                          · exact absurd c_533 (by omega)
                                          · skip
                                            refine EZ_iconst 1 (by decide) dL_sound_536 ?_
                                            refine EZ_goto 541 dL_sound_537 (by decide) ?_
                                            refine ZZ_ne 1 1 (show (1 : Int32).toInt = 1 from rfl) (show (1 : Int32).toInt = 1 from rfl) 561 dL_sound_541 (by decide) (fun c_541 => ?_) (fun c_541 => ?_)
                                            · exact absurd c_541 (by decide)
                                            · skip
                                              refine EZ_aload_n 2 dL_sound_544 rfl rfl ?_
                                              refine EZ_iload 10 dL_sound_545 rfl ?_
                                              refine EZ_iconst 0 (by decide) dL_sound_547 ?_
                                              refine EZ_callH zn1 (k_product l hfl S_520 r_100 0) cwH_123 (As := [.ref 0, .int r_100, .int 0]) (st := []) rfl (rok (Nat.le_of_ble_eq_true rfl) (Nat.le_of_ble_eq_true rfl) (by omega) (by omega)) (Nat.le_of_ble_eq_true rfl) dL_sound_548 rfl (zkI (fun r_548 mi_548 ml_548 h_548 => ?_))
                                              obtain ⟨S_548, h_548⟩ := h_548
                                              have n_548 := pr_x h_548 n_100
                                              refine EZ_sipush (-903) (by decide) dL_sound_551 ?_
                                              refine ZZ_ne (-903) (-903) n_548 (show ((-903) : Int32).toInt = (-903) from rfl) 561 dL_sound_554 (by decide) (fun c_554 => ?_) (fun c_554 => ?_)
                                              · exact absurd c_554 (by omega)
                                              · skip
                                                refine EZ_iconst 1 (by decide) dL_sound_557 ?_
                                                refine EZ_goto 562 dL_sound_558 (by decide) ?_
                                                refine EZ_zret rfl rfl (by omega) (by omega) dL_sound_562 ?_
                                                exact okQI ⟨S_548, rfl⟩
            · skip
              obtain ⟨⟨qk, qa, qb, qc⟩, hq⟩ : ∃ q, (prV V (2 ^ nV V - 1) (nV V))[j]? = some q := ⟨_, List.getElem?_eq_getElem (by omega)⟩
              have oq := mem_pr.mp (List.mem_of_getElem? hq)
              obtain ⟨f1, f2, f3, f4, f5, f6, f7⟩ := okQ_f oq
              have f8 := key_3 qk qa qb qc
              have f9 := hbf j _ (Nat.le_refl _) hq
              refine EZ_aload_n 0 dL_sound_126 rfl rfl ?_
              refine EZ_iload 10 dL_sound_127 rfl ?_
              refine EZ_iconst 0 (by decide) dL_sound_129 ?_
              refine EZ_callH zn1 (k_product l hfl S119 xq 0) cwH_123 (As := [.ref 0, .int xq, .int 0]) (st := []) rfl (rok (Nat.le_of_ble_eq_true rfl) (Nat.le_of_ble_eq_true rfl) (by omega) (by omega)) (Nat.le_of_ble_eq_true rfl) dL_sound_130 rfl (zkI (fun r_130 mi_130 ml_130 h_130 => ?_))
              obtain ⟨S_130, h_130⟩ := h_130
              have n_130 : r_130.toInt = (qk : Int) := pr_l h_130 hj2 hq (show (0 : Int32).toInt = ((0 : Nat) : Int) from rfl) (by decide) rfl
              clear h_130
              refine EZ_istore [(13, .int r_130), (0, .ref 0), (1, .int xs), (2, .int r_2), (3, .int (((1 : Int32) <<< (r_2 &&& 31)) - 1)), (4, .long r_14), (6, .int xh), (7, .int xb), (8, .long xe), (10, .int r_100), (11, .int (1 + (r_100 / 4))), (12, .int xq)] dL_sound_133 (by decide) rfl ?_
              refine EZ_aload_n 1 dL_sound_135 rfl rfl ?_
              refine EZ_iload 11 dL_sound_136 rfl ?_
              refine EZ_iconst 1 (by decide) dL_sound_138 ?_
              refine EZ_callH zn1 (k_product l hfl S_130 xq 1) cwH_123 (As := [.ref 0, .int xq, .int 1]) (st := []) rfl (rok (Nat.le_of_ble_eq_true rfl) (Nat.le_of_ble_eq_true rfl) (by omega) (by omega)) (Nat.le_of_ble_eq_true rfl) dL_sound_139 rfl (zkI (fun r_139 mi_139 ml_139 h_139 => ?_))
              obtain ⟨S_139, h_139⟩ := h_139
              have n_139 : r_139.toInt = (qa : Int) := pr_l h_139 hj2 hq (show (1 : Int32).toInt = ((1 : Nat) : Int) from rfl) (by decide) rfl
              clear h_139
              refine EZ_istore [(14, .int r_139), (13, .int r_130), (0, .ref 0), (1, .int xs), (2, .int r_2), (3, .int (((1 : Int32) <<< (r_2 &&& 31)) - 1)), (4, .long r_14), (6, .int xh), (7, .int xb), (8, .long xe), (10, .int r_100), (11, .int (1 + (r_100 / 4))), (12, .int xq)] dL_sound_142 (by decide) rfl ?_
              refine EZ_aload_n 2 dL_sound_144 rfl rfl ?_
              refine EZ_iload 12 dL_sound_145 rfl ?_
              refine EZ_iconst 2 (by decide) dL_sound_147 ?_
              refine EZ_callH zn1 (k_product l hfl S_139 xq 2) cwH_123 (As := [.ref 0, .int xq, .int 2]) (st := []) rfl (rok (Nat.le_of_ble_eq_true rfl) (Nat.le_of_ble_eq_true rfl) (by omega) (by omega)) (Nat.le_of_ble_eq_true rfl) dL_sound_148 rfl (zkI (fun r_148 mi_148 ml_148 h_148 => ?_))
              obtain ⟨S_148, h_148⟩ := h_148
              have n_148 : r_148.toInt = (qb : Int) := pr_l h_148 hj2 hq (show (2 : Int32).toInt = ((2 : Nat) : Int) from rfl) (by decide) rfl
              clear h_148
              refine EZ_istore [(15, .int r_148), (14, .int r_139), (13, .int r_130), (0, .ref 0), (1, .int xs), (2, .int r_2), (3, .int (((1 : Int32) <<< (r_2 &&& 31)) - 1)), (4, .long r_14), (6, .int xh), (7, .int xb), (8, .long xe), (10, .int r_100), (11, .int (1 + (r_100 / 4))), (12, .int xq)] dL_sound_151 (by decide) rfl ?_
              refine EZ_aload_n 3 dL_sound_153 rfl rfl ?_
              refine EZ_iload 13 dL_sound_154 rfl ?_
              refine EZ_iconst 3 (by decide) dL_sound_156 ?_
              refine EZ_callH zn1 (k_product l hfl S_148 xq 3) cwH_123 (As := [.ref 0, .int xq, .int 3]) (st := []) rfl (rok (Nat.le_of_ble_eq_true rfl) (Nat.le_of_ble_eq_true rfl) (by omega) (by omega)) (Nat.le_of_ble_eq_true rfl) dL_sound_157 rfl (zkI (fun r_157 mi_157 ml_157 h_157 => ?_))
              obtain ⟨S_157, h_157⟩ := h_157
              have n_157 := pf_3 (DV V) qk qa qb qc (pr_l h_157 hj2 hq (show (3 : Int32).toInt = ((3 : Nat) : Int) from rfl) (by decide) rfl)
              clear h_157
              refine EZ_istore [(16, .int r_157), (15, .int r_148), (14, .int r_139), (13, .int r_130), (0, .ref 0), (1, .int xs), (2, .int r_2), (3, .int (((1 : Int32) <<< (r_2 &&& 31)) - 1)), (4, .long r_14), (6, .int xh), (7, .int xb), (8, .long xe), (10, .int r_100), (11, .int (1 + (r_100 / 4))), (12, .int xq)] dL_sound_160 (by decide) rfl ?_
              refine EZ_sipush 4096 (by decide) dL_sound_162 ?_
              refine EZ_iload 3 dL_sound_165 rfl ?_
              refine EZ_imul dL_sound_167 ?_
              refine EZ_sipush 256 (by decide) dL_sound_168 ?_
              refine EZ_iload 2 dL_sound_171 rfl ?_
              refine EZ_imul dL_sound_173 ?_
              refine EZ_iadd dL_sound_174 ?_
              refine EZ_bipush 16 (by decide) dL_sound_175 ?_
              refine EZ_iload 1 dL_sound_177 rfl ?_
              refine EZ_imul dL_sound_179 ?_
              refine EZ_iadd dL_sound_180 ?_
              refine EZ_iload 0 dL_sound_181 rfl ?_
              refine EZ_iadd dL_sound_183 ?_
              refine EZ_iconst 1 (by decide) dL_sound_184 ?_
              refine EZ_iadd dL_sound_185 ?_
              refine EZ_istore [(17, .int (((((4096 * r_130) + (256 * r_139)) + (16 * r_148)) + r_157) + 1)), (16, .int r_157), (15, .int r_148), (14, .int r_139), (13, .int r_130), (0, .ref 0), (1, .int xs), (2, .int r_2), (3, .int (((1 : Int32) <<< (r_2 &&& 31)) - 1)), (4, .long r_14), (6, .int xh), (7, .int xb), (8, .long xe), (10, .int r_100), (11, .int (1 + (r_100 / 4))), (12, .int xq)] dL_sound_186 (by decide) rfl ?_
              refine EZ_aload_n 5 dL_sound_188 rfl rfl ?_
              refine EZ_iload 15 dL_sound_189 rfl ?_
              refine EZ_iconst 4 (by decide) dL_sound_191 ?_
              refine EZ_callH zn1 (k_product l hfl S_157 xq 4) cwH_123 (As := [.ref 0, .int xq, .int 4]) (st := []) rfl (rok (Nat.le_of_ble_eq_true rfl) (Nat.le_of_ble_eq_true rfl) (by omega) (by omega)) (Nat.le_of_ble_eq_true rfl) dL_sound_192 rfl (zkI (fun r_192 mi_192 ml_192 h_192 => ?_))
              obtain ⟨S_192, h_192⟩ := h_192
              have n_192 : r_192.toInt = pCh (DV V) qk qa qb qc := pr_l h_192 hj2 hq (show (4 : Int32).toInt = ((4 : Nat) : Int) from rfl) (by decide) rfl
              clear h_192
              refine EZ_istore [(18, .int r_192), (17, .int (((((4096 * r_130) + (256 * r_139)) + (16 * r_148)) + r_157) + 1)), (16, .int r_157), (15, .int r_148), (14, .int r_139), (13, .int r_130), (0, .ref 0), (1, .int xs), (2, .int r_2), (3, .int (((1 : Int32) <<< (r_2 &&& 31)) - 1)), (4, .long r_14), (6, .int xh), (7, .int xb), (8, .long xe), (10, .int r_100), (11, .int (1 + (r_100 / 4))), (12, .int xq)] dL_sound_195 (by decide) rfl ?_
              refine EZ_iload 5 dL_sound_197 rfl ?_
              refine YZ_ne (qk : Int) n_130 222 dL_sound_199 (by decide) (fun c_199 => ?_) (fun c_199 => ?_)
              · skip
                refine EZ_iload 5 dL_sound_222 rfl ?_
                refine EZ_iconst 1 (by decide) dL_sound_224 ?_
                refine ZZ_ne (qk : Int) 1 n_130 (show (1 : Int32).toInt = 1 from rfl) 254 dL_sound_225 (by decide) (fun c_225 => ?_) (fun c_225 => ?_)
                · skip
                  refine EZ_iconst 3 (by decide) dL_sound_254 ?_
                  refine EZ_aload_n 6 dL_sound_255 rfl rfl ?_
                  refine EZ_iload 4 dL_sound_256 rfl ?_
                  refine EZ_iconst 0 (by decide) dL_sound_258 ?_
                  refine EZ_callH zn1 (k_carrier l hfl S_192 r_139 0 False (b0 not_false)) cwH_117 (As := [.ref 0, .int r_139, .int 0]) (st := [.int 3]) rfl (rok (Nat.le_of_ble_eq_true rfl) (Nat.le_of_ble_eq_true rfl) (by omega) (by omega)) (Nat.le_of_ble_eq_true rfl) dL_sound_259 rfl (zkI (fun r_259 mi_259 ml_259 h_259 => ?_))
                  obtain ⟨S_259, h_259⟩ := h_259
                  (try rw [show r_139.toInt = (qa : Int) from n_139] at h_259)
                  have n_259 := ca_f h_259 f2
                  clear h_259
                  have b_259 : 0 ≤ r_259.toInt ∧ r_259.toInt ≤ 63 := by rw [n_259]; exact S.1.ch wn.1 qa f2
                  refine EZ_imul dL_sound_262 ?_
                  refine EZ_iconst 2 (by decide) dL_sound_263 ?_
                  refine EZ_aload_n 6 dL_sound_264 rfl rfl ?_
                  refine EZ_iload 3 dL_sound_265 rfl ?_
                  refine EZ_iconst 0 (by decide) dL_sound_267 ?_
                  refine EZ_callH zn1 (k_carrier l hfl S_259 r_148 0 False (b0 not_false)) cwH_117 (As := [.ref 0, .int r_148, .int 0]) (st := [.int 2, .int (3 * r_259)]) rfl (rok (Nat.le_of_ble_eq_true rfl) (Nat.le_of_ble_eq_true rfl) (by omega) (by omega)) (Nat.le_of_ble_eq_true rfl) dL_sound_268 rfl (zkI (fun r_268 mi_268 ml_268 h_268 => ?_))
                  obtain ⟨S_268, h_268⟩ := h_268
                  (try rw [show r_148.toInt = (qb : Int) from n_148] at h_268)
                  have n_268 := ca_f h_268 f3
                  clear h_268
                  have b_268 : 0 ≤ r_268.toInt ∧ r_268.toInt ≤ 63 := by rw [n_268]; exact S.1.ch wn.1 qb f3
                  refine EZ_imul dL_sound_271 ?_
                  refine EZ_isub dL_sound_272 ?_
                  have hm : pCh (DV V) qk qa qb qc = 3 * r_259.toInt - 2 * r_268.toInt := by rw [n_259, n_268, show qk = 2 by omega]; rfl
                  have ek : qk ≠ 1 := by omega
                  have g8 := K3_0 f8 ek
                  have g7 := K3_0 n_157 ek
                  refine EZ_istore [(19, .int ((3 * r_259) - (2 * r_268))), (18, .int r_192), (17, .int (((((4096 * r_130) + (256 * r_139)) + (16 * r_148)) + r_157) + 1)), (16, .int r_157), (15, .int r_148), (14, .int r_139), (13, .int r_130), (0, .ref 0), (1, .int xs), (2, .int r_2), (3, .int (((1 : Int32) <<< (r_2 &&& 31)) - 1)), (4, .long r_14), (6, .int xh), (7, .int xb), (8, .long xe), (10, .int r_100), (11, .int (1 + (r_100 / 4))), (12, .int xq)] dL_sound_273 (by decide) rfl ?_
                  refine EZ_iload 2 dL_sound_275 rfl ?_
                  refine EZ_iload 13 dL_sound_277 rfl ?_
                  refine ZZ_le (((((4096 * (qk : Int)) + (256 * (qa : Int))) + (16 * (qb : Int))) + r_157.toInt) + 1) xb.toInt (tI_add (tI_add (tI_add (tI_add (tI_mul (show (4096 : Int32).toInt = 4096 from rfl) n_130 (by omega)) (tI_mul (show (256 : Int32).toInt = 256 from rfl) n_139 (by omega)) (by omega)) (tI_mul (show (16 : Int32).toInt = 16 from rfl) n_148 (by omega)) (by omega)) rfl (by omega)) (show (1 : Int32).toInt = 1 from rfl) (by omega)) rfl 369 dL_sound_279 (by decide) (fun c_279 => ?_) (fun c_279 => ?_)
                  · exact absurd c_279 (by omega)
                  · skip
                    refine EZ_iload 5 dL_sound_282 rfl ?_
                    refine EZ_iload 4 dL_sound_284 rfl ?_
                    refine ZZ_eq (qa : Int) (qb : Int) n_139 n_148 369 dL_sound_286 (by decide) (fun c_286 => ?_) (fun c_286 => ?_)
                    · exact absurd c_286 (by omega)
                    · skip
                      refine EZ_iload 5 dL_sound_289 rfl ?_
                      refine EZ_iload 3 dL_sound_291 rfl ?_
                      refine ZZ_eq (qa : Int) r_157.toInt n_139 rfl 369 dL_sound_293 (by decide) (fun c_293 => ?_) (fun c_293 => ?_)
                      · exact absurd c_293 (by omega)
                      · skip
                        refine EZ_iload 4 dL_sound_296 rfl ?_
                        refine EZ_iload 3 dL_sound_298 rfl ?_
                        refine ZZ_eq (qb : Int) r_157.toInt n_148 rfl 369 dL_sound_300 (by decide) (fun c_300 => ?_) (fun c_300 => ?_)
                        · exact absurd c_300 (by omega)
                        · skip
                          refine EZ_iload 1 dL_sound_303 rfl ?_
                          refine YZ_lt (pCh (DV V) qk qa qb qc) n_192 369 dL_sound_305 (by decide) (fun c_305 => ?_) (fun c_305 => ?_)
                          · exact absurd c_305 (by omega)
                          · skip
                            refine EZ_iload 1 dL_sound_308 rfl ?_
                            refine EZ_bipush 63 (by decide) dL_sound_310 ?_
                            refine ZZ_gt (pCh (DV V) qk qa qb qc) 63 n_192 (show (63 : Int32).toInt = 63 from rfl) 369 dL_sound_312 (by decide) (fun c_312 => ?_) (fun c_312 => ?_)
                            · exact absurd c_312 (by omega)
                            · skip
                              refine EZ_iload 0 dL_sound_315 rfl ?_
                              refine EZ_iload 1 dL_sound_317 rfl ?_
                              refine ZZ_ne ((3 * r_259.toInt) - (2 * r_268.toInt)) (pCh (DV V) qk qa qb qc) (tI_sub (tI_mul (show (3 : Int32).toInt = 3 from rfl) rfl (by omega)) (tI_mul (show (2 : Int32).toInt = 2 from rfl) rfl (by omega)) (by omega)) n_192 369 dL_sound_319 (by decide) (fun c_319 => ?_) (fun c_319 => ?_)
                              · exact absurd c_319 (by omega)
                              · skip
                                refine EZ_aload_n 7 dL_sound_322 rfl rfl ?_
                                refine EZ_iload 17 dL_sound_323 rfl ?_
                                refine EZ_iconst 5 (by decide) dL_sound_325 ?_
                                refine EZ_callH zn1 (k_product l hfl S_268 xq 5) cwH_123 (As := [.ref 0, .int xq, .int 5]) (st := []) rfl (rok (Nat.le_of_ble_eq_true rfl) (Nat.le_of_ble_eq_true rfl) (by omega) (by omega)) (Nat.le_of_ble_eq_true rfl) dL_sound_326 rfl (zkI (fun r_326 mi_326 ml_326 h_326 => ?_))
                                obtain ⟨S_326, h_326⟩ := h_326
                                have n_326 : r_326.toInt = pLv (DV V) qk qa qb qc := pr_l h_326 hj2 hq (show (5 : Int32).toInt = ((5 : Nat) : Int) from rfl) (by decide) rfl
                                clear h_326
                                refine YZ_lt (pLv (DV V) qk qa qb qc) n_326 369 dL_sound_329 (by decide) (fun c_329 => ?_) (fun c_329 => ?_)
                                · exact absurd c_329 (by omega)
                                · skip
                                  refine EZ_iload 6 dL_sound_332 rfl ?_
                                  refine EZ_iconst 1 (by decide) dL_sound_334 ?_
                                  refine ZZ_ne (qk : Int) 1 n_130 (show (1 : Int32).toInt = 1 from rfl) 345 dL_sound_335 (by decide) (fun c_335 => ?_) (fun c_335 => ?_)
                                  · skip
                                    refine EZ_iload 3 dL_sound_345 rfl ?_
                                    refine YZ_ge r_157.toInt rfl 354 dL_sound_347 (by decide) (fun c_347 => ?_) (fun c_347 => ?_)
                                    · exact absurd c_347 (by omega)
                                    · skip
                                      refine EZ_iconst 1 (by decide) dL_sound_350 ?_
                                      refine EZ_goto 355 dL_sound_351 (by decide) ?_
                                      refine EZ_iload 6 dL_sound_355 rfl ?_
                                      refine EZ_iconst 1 (by decide) dL_sound_357 ?_
                                      refine ZZ_eq (qk : Int) 1 n_130 (show (1 : Int32).toInt = 1 from rfl) 365 dL_sound_358 (by decide) (fun c_358 => ?_) (fun c_358 => ?_)
                                      · exact absurd c_358 (by omega)
                                      · skip
                                        refine EZ_iconst 1 (by decide) dL_sound_361 ?_
                                        refine EZ_goto 366 dL_sound_362 (by decide) ?_
                                        refine ZZ_eq 1 1 (show (1 : Int32).toInt = 1 from rfl) (show (1 : Int32).toInt = 1 from rfl) 371 dL_sound_366 (by decide) (fun c_366 => ?_) (fun c_366 => ?_)
                                        · skip
                                          refine EZ_iload 2 dL_sound_371 rfl ?_
                                          refine EZ_istore [(7, .int (((((4096 * r_130) + (256 * r_139)) + (16 * r_148)) + r_157) + 1)), (19, .int ((3 * r_259) - (2 * r_268))), (18, .int r_192), (17, .int (((((4096 * r_130) + (256 * r_139)) + (16 * r_148)) + r_157) + 1)), (16, .int r_157), (15, .int r_148), (14, .int r_139), (13, .int r_130), (0, .ref 0), (1, .int xs), (2, .int r_2), (3, .int (((1 : Int32) <<< (r_2 &&& 31)) - 1)), (4, .long r_14), (6, .int xh), (8, .long xe), (10, .int r_100), (11, .int (1 + (r_100 / 4))), (12, .int xq)] dL_sound_373 (by decide) rfl ?_
                                          refine EZ_lload 14 dL_sound_375 rfl ?_
                                          refine EZ_lconst 1 rfl dL_sound_377 ?_
                                          refine EZ_iload 2 dL_sound_378 rfl ?_
                                          refine EZ_lshl dL_sound_380 ?_
                                          refine EZ_lor dL_sound_381 ?_
                                          refine EZ_lstore [(8, .long (xe ||| ((1 : Int64) <<< (r_192.toInt64 &&& 63)))), (7, .int (((((4096 * r_130) + (256 * r_139)) + (16 * r_148)) + r_157) + 1)), (19, .int ((3 * r_259) - (2 * r_268))), (18, .int r_192), (17, .int (((((4096 * r_130) + (256 * r_139)) + (16 * r_148)) + r_157) + 1)), (16, .int r_157), (15, .int r_148), (14, .int r_139), (13, .int r_130), (0, .ref 0), (1, .int xs), (2, .int r_2), (3, .int (((1 : Int32) <<< (r_2 &&& 31)) - 1)), (4, .long r_14), (6, .int xh), (10, .int r_100), (11, .int (1 + (r_100 / 4))), (12, .int xq)] dL_sound_382 (by decide) rfl ?_
                                          refine EZ_iload 17 dL_sound_384 rfl ?_
                                          refine EZ_iload 16 dL_sound_386 rfl ?_
                                          refine EZ_iadd dL_sound_388 ?_
                                          refine EZ_istore [(12, .int (xq + (1 + (r_100 / 4)))), (8, .long (xe ||| ((1 : Int64) <<< (r_192.toInt64 &&& 63)))), (7, .int (((((4096 * r_130) + (256 * r_139)) + (16 * r_148)) + r_157) + 1)), (19, .int ((3 * r_259) - (2 * r_268))), (18, .int r_192), (17, .int (((((4096 * r_130) + (256 * r_139)) + (16 * r_148)) + r_157) + 1)), (16, .int r_157), (15, .int r_148), (14, .int r_139), (13, .int r_130), (0, .ref 0), (1, .int xs), (2, .int r_2), (3, .int (((1 : Int32) <<< (r_2 &&& 31)) - 1)), (4, .long r_14), (6, .int xh), (10, .int r_100), (11, .int (1 + (r_100 / 4)))] dL_sound_389 (by decide) rfl ?_
                                          refine EZ_goto 119 dL_sound_391 (by decide) ?_
                                          refine EZ_sub [10, 11, 12, 13, 14, 15, 2, 1, 16, 17, 0] rfl ?_
                                          exact ih119 mi_326 ml_326 (((((4096 * r_130) + (256 * r_139)) + (16 * r_148)) + r_157) + 1) (xe ||| ((1 : Int64) <<< (r_192.toInt64 &&& 63))) (xq + (1 + (r_100 / 4))) (j + d) _ _ (by omega) S_326 ((tI_add hj2 hd3 (by omega)).trans (by omega)) (fun j2 q2 h1 h2 => by have h3 := pr_ord wn.2 hq h2 (by omega); have h4 : (((((4096 * r_130) + (256 * r_139)) + (16 * r_148)) + r_157) + 1).toInt = (((((4096 * (qk : Int)) + (256 * (qa : Int))) + (16 * (qb : Int))) + r_157.toInt) + 1) := (tI_add (tI_add (tI_add (tI_add (tI_mul (show (4096 : Int32).toInt = 4096 from rfl) n_130 (by omega)) (tI_mul (show (256 : Int32).toInt = 256 from rfl) n_139 (by omega)) (by omega)) (tI_mul (show (16 : Int32).toInt = 16 from rfl) n_148 (by omega)) (by omega)) rfl (by omega)) (show (1 : Int32).toInt = 1 from rfl) (by omega)); omega) (seen_s hse n_14 n_192 oq) (by omega) (by omega) (by omega)
                                        · exact absurd c_366 (by decide)
                                  · exact absurd c_335 (by omega)
                · skip
                  have ek : qk = 1 := by omega
                  refine EZ_aload_n 6 dL_sound_228 rfl rfl ?_
                  refine EZ_iload 4 dL_sound_229 rfl ?_
                  refine EZ_iconst 0 (by decide) dL_sound_231 ?_
                  refine EZ_callH zn1 (k_carrier l hfl S_192 r_139 0 False (b0 not_false)) cwH_117 (As := [.ref 0, .int r_139, .int 0]) (st := []) rfl (rok (Nat.le_of_ble_eq_true rfl) (Nat.le_of_ble_eq_true rfl) (by omega) (by omega)) (Nat.le_of_ble_eq_true rfl) dL_sound_232 rfl (zkI (fun r_232 mi_232 ml_232 h_232 => ?_))
                  obtain ⟨S_232, h_232⟩ := h_232
                  (try rw [show r_139.toInt = (qa : Int) from n_139] at h_232)
                  have n_232 := ca_f h_232 f2
                  clear h_232
                  have b_232 : 0 ≤ r_232.toInt ∧ r_232.toInt ≤ 63 := by rw [n_232]; exact S.1.ch wn.1 qa f2
                  refine EZ_aload_n 6 dL_sound_235 rfl rfl ?_
                  refine EZ_iload 3 dL_sound_236 rfl ?_
                  refine EZ_iconst 0 (by decide) dL_sound_238 ?_
                  refine EZ_callH zn1 (k_carrier l hfl S_232 r_148 0 False (b0 not_false)) cwH_117 (As := [.ref 0, .int r_148, .int 0]) (st := [.int r_232]) rfl (rok (Nat.le_of_ble_eq_true rfl) (Nat.le_of_ble_eq_true rfl) (by omega) (by omega)) (Nat.le_of_ble_eq_true rfl) dL_sound_239 rfl (zkI (fun r_239 mi_239 ml_239 h_239 => ?_))
                  obtain ⟨S_239, h_239⟩ := h_239
                  (try rw [show r_148.toInt = (qb : Int) from n_148] at h_239)
                  have n_239 := ca_f h_239 f3
                  clear h_239
                  have b_239 : 0 ≤ r_239.toInt ∧ r_239.toInt ≤ 63 := by rw [n_239]; exact S.1.ch wn.1 qb f3
                  refine EZ_iadd dL_sound_242 ?_
                  refine EZ_aload_n 6 dL_sound_243 rfl rfl ?_
                  refine EZ_iload 2 dL_sound_244 rfl ?_
                  refine EZ_iconst 0 (by decide) dL_sound_246 ?_
                  refine EZ_callH zn1 (k_carrier l hfl S_239 r_157 0 False (b0 not_false)) cwH_117 (As := [.ref 0, .int r_157, .int 0]) (st := [.int (r_232 + r_239)]) rfl (rok (Nat.le_of_ble_eq_true rfl) (Nat.le_of_ble_eq_true rfl) (by omega) (by omega)) (Nat.le_of_ble_eq_true rfl) dL_sound_247 rfl (zkI (fun r_247 mi_247 ml_247 h_247 => ?_))
                  obtain ⟨S_247, h_247⟩ := h_247
                  (try rw [show r_157.toInt = (qc : Int) from K3_1 n_157 ek] at h_247)
                  have n_247 := ca_f h_247 (K3_1 f5 ek).2.2.2
                  clear h_247
                  have b_247 : 0 ≤ r_247.toInt ∧ r_247.toInt ≤ 63 := by rw [n_247]; exact S.1.ch wn.1 qc (K3_1 f5 ek).2.2.2
                  refine EZ_isub dL_sound_250 ?_
                  refine EZ_goto 273 dL_sound_251 (by decide) ?_
                  have hm : pCh (DV V) qk qa qb qc = r_232.toInt + r_239.toInt - r_247.toInt := by rw [n_232, n_239, n_247, show qk = 1 by omega]; rfl
                  have g8 := K3_1 f8 ek
                  have g7 := K3_1 n_157 ek
                  obtain ⟨g1, g2, g3, g4⟩ := K3_1 f5 ek
                  refine EZ_istore [(19, .int ((r_232 + r_239) - r_247)), (18, .int r_192), (17, .int (((((4096 * r_130) + (256 * r_139)) + (16 * r_148)) + r_157) + 1)), (16, .int r_157), (15, .int r_148), (14, .int r_139), (13, .int r_130), (0, .ref 0), (1, .int xs), (2, .int r_2), (3, .int (((1 : Int32) <<< (r_2 &&& 31)) - 1)), (4, .long r_14), (6, .int xh), (7, .int xb), (8, .long xe), (10, .int r_100), (11, .int (1 + (r_100 / 4))), (12, .int xq)] dL_sound_273 (by decide) rfl ?_
                  refine EZ_iload 2 dL_sound_275 rfl ?_
                  refine EZ_iload 13 dL_sound_277 rfl ?_
                  refine ZZ_le (((((4096 * (qk : Int)) + (256 * (qa : Int))) + (16 * (qb : Int))) + r_157.toInt) + 1) xb.toInt (tI_add (tI_add (tI_add (tI_add (tI_mul (show (4096 : Int32).toInt = 4096 from rfl) n_130 (by omega)) (tI_mul (show (256 : Int32).toInt = 256 from rfl) n_139 (by omega)) (by omega)) (tI_mul (show (16 : Int32).toInt = 16 from rfl) n_148 (by omega)) (by omega)) rfl (by omega)) (show (1 : Int32).toInt = 1 from rfl) (by omega)) rfl 369 dL_sound_279 (by decide) (fun c_279 => ?_) (fun c_279 => ?_)
                  · exact absurd c_279 (by omega)
                  · skip
                    refine EZ_iload 5 dL_sound_282 rfl ?_
                    refine EZ_iload 4 dL_sound_284 rfl ?_
                    refine ZZ_eq (qa : Int) (qb : Int) n_139 n_148 369 dL_sound_286 (by decide) (fun c_286 => ?_) (fun c_286 => ?_)
                    · exact absurd c_286 (by omega)
                    · skip
                      refine EZ_iload 5 dL_sound_289 rfl ?_
                      refine EZ_iload 3 dL_sound_291 rfl ?_
                      refine ZZ_eq (qa : Int) r_157.toInt n_139 rfl 369 dL_sound_293 (by decide) (fun c_293 => ?_) (fun c_293 => ?_)
                      · exact absurd c_293 (by omega)
                      · skip
                        refine EZ_iload 4 dL_sound_296 rfl ?_
                        refine EZ_iload 3 dL_sound_298 rfl ?_
                        refine ZZ_eq (qb : Int) r_157.toInt n_148 rfl 369 dL_sound_300 (by decide) (fun c_300 => ?_) (fun c_300 => ?_)
                        · exact absurd c_300 (by omega)
                        · skip
                          refine EZ_iload 1 dL_sound_303 rfl ?_
                          refine YZ_lt (pCh (DV V) qk qa qb qc) n_192 369 dL_sound_305 (by decide) (fun c_305 => ?_) (fun c_305 => ?_)
                          · exact absurd c_305 (by omega)
                          · skip
                            refine EZ_iload 1 dL_sound_308 rfl ?_
                            refine EZ_bipush 63 (by decide) dL_sound_310 ?_
                            refine ZZ_gt (pCh (DV V) qk qa qb qc) 63 n_192 (show (63 : Int32).toInt = 63 from rfl) 369 dL_sound_312 (by decide) (fun c_312 => ?_) (fun c_312 => ?_)
                            · exact absurd c_312 (by omega)
                            · skip
                              refine EZ_iload 0 dL_sound_315 rfl ?_
                              refine EZ_iload 1 dL_sound_317 rfl ?_
                              refine ZZ_ne ((r_232.toInt + r_239.toInt) - r_247.toInt) (pCh (DV V) qk qa qb qc) (tI_sub (tI_add rfl rfl (by omega)) rfl (by omega)) n_192 369 dL_sound_319 (by decide) (fun c_319 => ?_) (fun c_319 => ?_)
                              · exact absurd c_319 (by omega)
                              · skip
                                refine EZ_aload_n 7 dL_sound_322 rfl rfl ?_
                                refine EZ_iload 17 dL_sound_323 rfl ?_
                                refine EZ_iconst 5 (by decide) dL_sound_325 ?_
                                refine EZ_callH zn1 (k_product l hfl S_247 xq 5) cwH_123 (As := [.ref 0, .int xq, .int 5]) (st := []) rfl (rok (Nat.le_of_ble_eq_true rfl) (Nat.le_of_ble_eq_true rfl) (by omega) (by omega)) (Nat.le_of_ble_eq_true rfl) dL_sound_326 rfl (zkI (fun r_326 mi_326 ml_326 h_326 => ?_))
                                obtain ⟨S_326, h_326⟩ := h_326
                                have n_326 : r_326.toInt = pLv (DV V) qk qa qb qc := pr_l h_326 hj2 hq (show (5 : Int32).toInt = ((5 : Nat) : Int) from rfl) (by decide) rfl
                                clear h_326
                                refine YZ_lt (pLv (DV V) qk qa qb qc) n_326 369 dL_sound_329 (by decide) (fun c_329 => ?_) (fun c_329 => ?_)
                                · exact absurd c_329 (by omega)
                                · skip
                                  refine EZ_iload 6 dL_sound_332 rfl ?_
                                  refine EZ_iconst 1 (by decide) dL_sound_334 ?_
                                  refine ZZ_ne (qk : Int) 1 n_130 (show (1 : Int32).toInt = 1 from rfl) 345 dL_sound_335 (by decide) (fun c_335 => ?_) (fun c_335 => ?_)
                                  · exact absurd c_335 (by omega)
                                  · skip
                                    refine EZ_iload 5 dL_sound_338 rfl ?_
                                    refine EZ_iload 4 dL_sound_340 rfl ?_
                                    refine ZZ_gt (qa : Int) (qb : Int) n_139 n_148 369 dL_sound_342 (by decide) (fun c_342 => ?_) (fun c_342 => ?_)
                                    · exact absurd c_342 (by omega)
                                    · skip
                                      refine EZ_iload 3 dL_sound_345 rfl ?_
                                      refine YZ_ge r_157.toInt rfl 354 dL_sound_347 (by decide) (fun c_347 => ?_) (fun c_347 => ?_)
                                      · skip
                                        refine EZ_iconst 0 (by decide) dL_sound_354 ?_
                                        refine EZ_iload 6 dL_sound_355 rfl ?_
                                        refine EZ_iconst 1 (by decide) dL_sound_357 ?_
                                        refine ZZ_eq (qk : Int) 1 n_130 (show (1 : Int32).toInt = 1 from rfl) 365 dL_sound_358 (by decide) (fun c_358 => ?_) (fun c_358 => ?_)
                                        · skip
                                          refine EZ_iconst 0 (by decide) dL_sound_365 ?_
                                          refine ZZ_eq 0 0 (show (0 : Int32).toInt = 0 from rfl) (show (0 : Int32).toInt = 0 from rfl) 371 dL_sound_366 (by decide) (fun c_366 => ?_) (fun c_366 => ?_)
                                          · skip
                                            refine EZ_iload 2 dL_sound_371 rfl ?_
                                            refine EZ_istore [(7, .int (((((4096 * r_130) + (256 * r_139)) + (16 * r_148)) + r_157) + 1)), (19, .int ((r_232 + r_239) - r_247)), (18, .int r_192), (17, .int (((((4096 * r_130) + (256 * r_139)) + (16 * r_148)) + r_157) + 1)), (16, .int r_157), (15, .int r_148), (14, .int r_139), (13, .int r_130), (0, .ref 0), (1, .int xs), (2, .int r_2), (3, .int (((1 : Int32) <<< (r_2 &&& 31)) - 1)), (4, .long r_14), (6, .int xh), (8, .long xe), (10, .int r_100), (11, .int (1 + (r_100 / 4))), (12, .int xq)] dL_sound_373 (by decide) rfl ?_
                                            refine EZ_lload 14 dL_sound_375 rfl ?_
                                            refine EZ_lconst 1 rfl dL_sound_377 ?_
                                            refine EZ_iload 2 dL_sound_378 rfl ?_
                                            refine EZ_lshl dL_sound_380 ?_
                                            refine EZ_lor dL_sound_381 ?_
                                            refine EZ_lstore [(8, .long (xe ||| ((1 : Int64) <<< (r_192.toInt64 &&& 63)))), (7, .int (((((4096 * r_130) + (256 * r_139)) + (16 * r_148)) + r_157) + 1)), (19, .int ((r_232 + r_239) - r_247)), (18, .int r_192), (17, .int (((((4096 * r_130) + (256 * r_139)) + (16 * r_148)) + r_157) + 1)), (16, .int r_157), (15, .int r_148), (14, .int r_139), (13, .int r_130), (0, .ref 0), (1, .int xs), (2, .int r_2), (3, .int (((1 : Int32) <<< (r_2 &&& 31)) - 1)), (4, .long r_14), (6, .int xh), (10, .int r_100), (11, .int (1 + (r_100 / 4))), (12, .int xq)] dL_sound_382 (by decide) rfl ?_
                                            refine EZ_iload 17 dL_sound_384 rfl ?_
                                            refine EZ_iload 16 dL_sound_386 rfl ?_
                                            refine EZ_iadd dL_sound_388 ?_
                                            refine EZ_istore [(12, .int (xq + (1 + (r_100 / 4)))), (8, .long (xe ||| ((1 : Int64) <<< (r_192.toInt64 &&& 63)))), (7, .int (((((4096 * r_130) + (256 * r_139)) + (16 * r_148)) + r_157) + 1)), (19, .int ((r_232 + r_239) - r_247)), (18, .int r_192), (17, .int (((((4096 * r_130) + (256 * r_139)) + (16 * r_148)) + r_157) + 1)), (16, .int r_157), (15, .int r_148), (14, .int r_139), (13, .int r_130), (0, .ref 0), (1, .int xs), (2, .int r_2), (3, .int (((1 : Int32) <<< (r_2 &&& 31)) - 1)), (4, .long r_14), (6, .int xh), (10, .int r_100), (11, .int (1 + (r_100 / 4)))] dL_sound_389 (by decide) rfl ?_
                                            refine EZ_goto 119 dL_sound_391 (by decide) ?_
                                            refine EZ_sub [10, 11, 12, 13, 14, 15, 2, 1, 16, 17, 0] rfl ?_
                                            exact ih119 mi_326 ml_326 (((((4096 * r_130) + (256 * r_139)) + (16 * r_148)) + r_157) + 1) (xe ||| ((1 : Int64) <<< (r_192.toInt64 &&& 63))) (xq + (1 + (r_100 / 4))) (j + d) _ _ (by omega) S_326 ((tI_add hj2 hd3 (by omega)).trans (by omega)) (fun j2 q2 h1 h2 => by have h3 := pr_ord wn.2 hq h2 (by omega); have h4 : (((((4096 * r_130) + (256 * r_139)) + (16 * r_148)) + r_157) + 1).toInt = (((((4096 * (qk : Int)) + (256 * (qa : Int))) + (16 * (qb : Int))) + r_157.toInt) + 1) := (tI_add (tI_add (tI_add (tI_add (tI_mul (show (4096 : Int32).toInt = 4096 from rfl) n_130 (by omega)) (tI_mul (show (256 : Int32).toInt = 256 from rfl) n_139 (by omega)) (by omega)) (tI_mul (show (16 : Int32).toInt = 16 from rfl) n_148 (by omega)) (by omega)) rfl (by omega)) (show (1 : Int32).toInt = 1 from rfl) (by omega)); omega) (seen_s hse n_14 n_192 oq) (by omega) (by omega) (by omega)
                                          · exact absurd c_366 (by decide)
                                        · exact absurd c_358 (by omega)
                                      · exact absurd c_347 (by omega)
              · skip
                refine EZ_iconst 2 (by decide) dL_sound_202 ?_
                refine EZ_aload_n 6 dL_sound_203 rfl rfl ?_
                refine EZ_iload 4 dL_sound_204 rfl ?_
                refine EZ_iconst 0 (by decide) dL_sound_206 ?_
                refine EZ_callH zn1 (k_carrier l hfl S_192 r_139 0 False (b0 not_false)) cwH_117 (As := [.ref 0, .int r_139, .int 0]) (st := [.int 2]) rfl (rok (Nat.le_of_ble_eq_true rfl) (Nat.le_of_ble_eq_true rfl) (by omega) (by omega)) (Nat.le_of_ble_eq_true rfl) dL_sound_207 rfl (zkI (fun r_207 mi_207 ml_207 h_207 => ?_))
                obtain ⟨S_207, h_207⟩ := h_207
                (try rw [show r_139.toInt = (qa : Int) from n_139] at h_207)
                have n_207 := ca_f h_207 f2
                clear h_207
                have b_207 : 0 ≤ r_207.toInt ∧ r_207.toInt ≤ 63 := by rw [n_207]; exact S.1.ch wn.1 qa f2
                refine EZ_imul dL_sound_210 ?_
                refine EZ_aload_n 6 dL_sound_211 rfl rfl ?_
                refine EZ_iload 3 dL_sound_212 rfl ?_
                refine EZ_iconst 0 (by decide) dL_sound_214 ?_
                refine EZ_callH zn1 (k_carrier l hfl S_207 r_148 0 False (b0 not_false)) cwH_117 (As := [.ref 0, .int r_148, .int 0]) (st := [.int (2 * r_207)]) rfl (rok (Nat.le_of_ble_eq_true rfl) (Nat.le_of_ble_eq_true rfl) (by omega) (by omega)) (Nat.le_of_ble_eq_true rfl) dL_sound_215 rfl (zkI (fun r_215 mi_215 ml_215 h_215 => ?_))
                obtain ⟨S_215, h_215⟩ := h_215
                (try rw [show r_148.toInt = (qb : Int) from n_148] at h_215)
                have n_215 := ca_f h_215 f3
                clear h_215
                have b_215 : 0 ≤ r_215.toInt ∧ r_215.toInt ≤ 63 := by rw [n_215]; exact S.1.ch wn.1 qb f3
                refine EZ_isub dL_sound_218 ?_
                refine EZ_goto 273 dL_sound_219 (by decide) ?_
                have hm : pCh (DV V) qk qa qb qc = 2 * r_207.toInt - r_215.toInt := by rw [n_207, n_215, show qk = 0 by omega]; rfl
                have ek : qk ≠ 1 := by omega
                have g8 := K3_0 f8 ek
                have g7 := K3_0 n_157 ek
                refine EZ_istore [(19, .int ((2 * r_207) - r_215)), (18, .int r_192), (17, .int (((((4096 * r_130) + (256 * r_139)) + (16 * r_148)) + r_157) + 1)), (16, .int r_157), (15, .int r_148), (14, .int r_139), (13, .int r_130), (0, .ref 0), (1, .int xs), (2, .int r_2), (3, .int (((1 : Int32) <<< (r_2 &&& 31)) - 1)), (4, .long r_14), (6, .int xh), (7, .int xb), (8, .long xe), (10, .int r_100), (11, .int (1 + (r_100 / 4))), (12, .int xq)] dL_sound_273 (by decide) rfl ?_
                refine EZ_iload 2 dL_sound_275 rfl ?_
                refine EZ_iload 13 dL_sound_277 rfl ?_
                refine ZZ_le (((((4096 * (qk : Int)) + (256 * (qa : Int))) + (16 * (qb : Int))) + r_157.toInt) + 1) xb.toInt (tI_add (tI_add (tI_add (tI_add (tI_mul (show (4096 : Int32).toInt = 4096 from rfl) n_130 (by omega)) (tI_mul (show (256 : Int32).toInt = 256 from rfl) n_139 (by omega)) (by omega)) (tI_mul (show (16 : Int32).toInt = 16 from rfl) n_148 (by omega)) (by omega)) rfl (by omega)) (show (1 : Int32).toInt = 1 from rfl) (by omega)) rfl 369 dL_sound_279 (by decide) (fun c_279 => ?_) (fun c_279 => ?_)
                · exact absurd c_279 (by omega)
                · skip
                  refine EZ_iload 5 dL_sound_282 rfl ?_
                  refine EZ_iload 4 dL_sound_284 rfl ?_
                  refine ZZ_eq (qa : Int) (qb : Int) n_139 n_148 369 dL_sound_286 (by decide) (fun c_286 => ?_) (fun c_286 => ?_)
                  · exact absurd c_286 (by omega)
                  · skip
                    refine EZ_iload 5 dL_sound_289 rfl ?_
                    refine EZ_iload 3 dL_sound_291 rfl ?_
                    refine ZZ_eq (qa : Int) r_157.toInt n_139 rfl 369 dL_sound_293 (by decide) (fun c_293 => ?_) (fun c_293 => ?_)
                    · exact absurd c_293 (by omega)
                    · skip
                      refine EZ_iload 4 dL_sound_296 rfl ?_
                      refine EZ_iload 3 dL_sound_298 rfl ?_
                      refine ZZ_eq (qb : Int) r_157.toInt n_148 rfl 369 dL_sound_300 (by decide) (fun c_300 => ?_) (fun c_300 => ?_)
                      · exact absurd c_300 (by omega)
                      · skip
                        refine EZ_iload 1 dL_sound_303 rfl ?_
                        refine YZ_lt (pCh (DV V) qk qa qb qc) n_192 369 dL_sound_305 (by decide) (fun c_305 => ?_) (fun c_305 => ?_)
                        · exact absurd c_305 (by omega)
                        · skip
                          refine EZ_iload 1 dL_sound_308 rfl ?_
                          refine EZ_bipush 63 (by decide) dL_sound_310 ?_
                          refine ZZ_gt (pCh (DV V) qk qa qb qc) 63 n_192 (show (63 : Int32).toInt = 63 from rfl) 369 dL_sound_312 (by decide) (fun c_312 => ?_) (fun c_312 => ?_)
                          · exact absurd c_312 (by omega)
                          · skip
                            refine EZ_iload 0 dL_sound_315 rfl ?_
                            refine EZ_iload 1 dL_sound_317 rfl ?_
                            refine ZZ_ne ((2 * r_207.toInt) - r_215.toInt) (pCh (DV V) qk qa qb qc) (tI_sub (tI_mul (show (2 : Int32).toInt = 2 from rfl) rfl (by omega)) rfl (by omega)) n_192 369 dL_sound_319 (by decide) (fun c_319 => ?_) (fun c_319 => ?_)
                            · exact absurd c_319 (by omega)
                            · skip
                              refine EZ_aload_n 7 dL_sound_322 rfl rfl ?_
                              refine EZ_iload 17 dL_sound_323 rfl ?_
                              refine EZ_iconst 5 (by decide) dL_sound_325 ?_
                              refine EZ_callH zn1 (k_product l hfl S_215 xq 5) cwH_123 (As := [.ref 0, .int xq, .int 5]) (st := []) rfl (rok (Nat.le_of_ble_eq_true rfl) (Nat.le_of_ble_eq_true rfl) (by omega) (by omega)) (Nat.le_of_ble_eq_true rfl) dL_sound_326 rfl (zkI (fun r_326 mi_326 ml_326 h_326 => ?_))
                              obtain ⟨S_326, h_326⟩ := h_326
                              have n_326 : r_326.toInt = pLv (DV V) qk qa qb qc := pr_l h_326 hj2 hq (show (5 : Int32).toInt = ((5 : Nat) : Int) from rfl) (by decide) rfl
                              clear h_326
                              refine YZ_lt (pLv (DV V) qk qa qb qc) n_326 369 dL_sound_329 (by decide) (fun c_329 => ?_) (fun c_329 => ?_)
                              · exact absurd c_329 (by omega)
                              · skip
                                refine EZ_iload 6 dL_sound_332 rfl ?_
                                refine EZ_iconst 1 (by decide) dL_sound_334 ?_
                                refine ZZ_ne (qk : Int) 1 n_130 (show (1 : Int32).toInt = 1 from rfl) 345 dL_sound_335 (by decide) (fun c_335 => ?_) (fun c_335 => ?_)
                                · skip
                                  refine EZ_iload 3 dL_sound_345 rfl ?_
                                  refine YZ_ge r_157.toInt rfl 354 dL_sound_347 (by decide) (fun c_347 => ?_) (fun c_347 => ?_)
                                  · exact absurd c_347 (by omega)
                                  · skip
                                    refine EZ_iconst 1 (by decide) dL_sound_350 ?_
                                    refine EZ_goto 355 dL_sound_351 (by decide) ?_
                                    refine EZ_iload 6 dL_sound_355 rfl ?_
                                    refine EZ_iconst 1 (by decide) dL_sound_357 ?_
                                    refine ZZ_eq (qk : Int) 1 n_130 (show (1 : Int32).toInt = 1 from rfl) 365 dL_sound_358 (by decide) (fun c_358 => ?_) (fun c_358 => ?_)
                                    · exact absurd c_358 (by omega)
                                    · skip
                                      refine EZ_iconst 1 (by decide) dL_sound_361 ?_
                                      refine EZ_goto 366 dL_sound_362 (by decide) ?_
                                      refine ZZ_eq 1 1 (show (1 : Int32).toInt = 1 from rfl) (show (1 : Int32).toInt = 1 from rfl) 371 dL_sound_366 (by decide) (fun c_366 => ?_) (fun c_366 => ?_)
                                      · skip
                                        refine EZ_iload 2 dL_sound_371 rfl ?_
                                        refine EZ_istore [(7, .int (((((4096 * r_130) + (256 * r_139)) + (16 * r_148)) + r_157) + 1)), (19, .int ((2 * r_207) - r_215)), (18, .int r_192), (17, .int (((((4096 * r_130) + (256 * r_139)) + (16 * r_148)) + r_157) + 1)), (16, .int r_157), (15, .int r_148), (14, .int r_139), (13, .int r_130), (0, .ref 0), (1, .int xs), (2, .int r_2), (3, .int (((1 : Int32) <<< (r_2 &&& 31)) - 1)), (4, .long r_14), (6, .int xh), (8, .long xe), (10, .int r_100), (11, .int (1 + (r_100 / 4))), (12, .int xq)] dL_sound_373 (by decide) rfl ?_
                                        refine EZ_lload 14 dL_sound_375 rfl ?_
                                        refine EZ_lconst 1 rfl dL_sound_377 ?_
                                        refine EZ_iload 2 dL_sound_378 rfl ?_
                                        refine EZ_lshl dL_sound_380 ?_
                                        refine EZ_lor dL_sound_381 ?_
                                        refine EZ_lstore [(8, .long (xe ||| ((1 : Int64) <<< (r_192.toInt64 &&& 63)))), (7, .int (((((4096 * r_130) + (256 * r_139)) + (16 * r_148)) + r_157) + 1)), (19, .int ((2 * r_207) - r_215)), (18, .int r_192), (17, .int (((((4096 * r_130) + (256 * r_139)) + (16 * r_148)) + r_157) + 1)), (16, .int r_157), (15, .int r_148), (14, .int r_139), (13, .int r_130), (0, .ref 0), (1, .int xs), (2, .int r_2), (3, .int (((1 : Int32) <<< (r_2 &&& 31)) - 1)), (4, .long r_14), (6, .int xh), (10, .int r_100), (11, .int (1 + (r_100 / 4))), (12, .int xq)] dL_sound_382 (by decide) rfl ?_
                                        refine EZ_iload 17 dL_sound_384 rfl ?_
                                        refine EZ_iload 16 dL_sound_386 rfl ?_
                                        refine EZ_iadd dL_sound_388 ?_
                                        refine EZ_istore [(12, .int (xq + (1 + (r_100 / 4)))), (8, .long (xe ||| ((1 : Int64) <<< (r_192.toInt64 &&& 63)))), (7, .int (((((4096 * r_130) + (256 * r_139)) + (16 * r_148)) + r_157) + 1)), (19, .int ((2 * r_207) - r_215)), (18, .int r_192), (17, .int (((((4096 * r_130) + (256 * r_139)) + (16 * r_148)) + r_157) + 1)), (16, .int r_157), (15, .int r_148), (14, .int r_139), (13, .int r_130), (0, .ref 0), (1, .int xs), (2, .int r_2), (3, .int (((1 : Int32) <<< (r_2 &&& 31)) - 1)), (4, .long r_14), (6, .int xh), (10, .int r_100), (11, .int (1 + (r_100 / 4)))] dL_sound_389 (by decide) rfl ?_
                                        refine EZ_goto 119 dL_sound_391 (by decide) ?_
                                        refine EZ_sub [10, 11, 12, 13, 14, 15, 2, 1, 16, 17, 0] rfl ?_
                                        exact ih119 mi_326 ml_326 (((((4096 * r_130) + (256 * r_139)) + (16 * r_148)) + r_157) + 1) (xe ||| ((1 : Int64) <<< (r_192.toInt64 &&& 63))) (xq + (1 + (r_100 / 4))) (j + d) _ _ (by omega) S_326 ((tI_add hj2 hd3 (by omega)).trans (by omega)) (fun j2 q2 h1 h2 => by have h3 := pr_ord wn.2 hq h2 (by omega); have h4 : (((((4096 * r_130) + (256 * r_139)) + (16 * r_148)) + r_157) + 1).toInt = (((((4096 * (qk : Int)) + (256 * (qa : Int))) + (16 * (qb : Int))) + r_157.toInt) + 1) := (tI_add (tI_add (tI_add (tI_add (tI_mul (show (4096 : Int32).toInt = 4096 from rfl) n_130 (by omega)) (tI_mul (show (256 : Int32).toInt = 256 from rfl) n_139 (by omega)) (by omega)) (tI_mul (show (16 : Int32).toInt = 16 from rfl) n_148 (by omega)) (by omega)) rfl (by omega)) (show (1 : Int32).toInt = 1 from rfl) (by omega)); omega) (seen_s hse n_14 n_192 oq) (by omega) (by omega) (by omega)
                                      · exact absurd c_366 (by decide)
                                · exact absurd c_335 (by omega)
        refine EZ_sub [5, 6, 7, 8, 9, 10, 4, 3, 2, 1, 0] rfl ?_
        exact J119 _ mi_100 ml_100 (-1) 0 (xs - xs / (1 + (r_100 / 4)) * (1 + (r_100 / 4))) k0 _ _ (Nat.lt_succ_self _) S_100 hk0 (fun j2 q2 _ _ => by have h9 : (-1 : Int32).toInt = -1 := rfl; omega) (by rw [Int64.and_comm, and_z6]) (by omega) (by omega) (by omega)
      · skip
        refine EZ_iload 5 dL_sound_31 rfl ?_
        refine EZ_aload_n 0 dL_sound_33 rfl rfl ?_
        refine EZ_iload 6 dL_sound_34 rfl ?_
        refine EZ_callH zn1 (k_hitsOn l hfl S25 xk) cwH_109 (As := [.ref 0, .int xk]) (st := [.int xh]) rfl (rok (Nat.le_of_ble_eq_true rfl) (Nat.le_of_ble_eq_true rfl) (by omega) (by omega)) (Nat.le_of_ble_eq_true rfl) dL_sound_36 rfl (zkI (fun r_36 mi_36 ml_36 h_36 => ?_))
        obtain ⟨S_36, h_36⟩ := h_36
        (try rw [show xk.toInt = (i : Int) from hk] at h_36)
        have n_36 := ho_l (f := fun b => hcA (DV V) (V 3).toInt (V (6 + 2 * b)).toInt (prV V (2 ^ nV V - 1) (nV V)) (prV V (2 ^ nV V - 1) (nV V)).length) h_36 (by omega)
        clear h_36
        refine EZ_iadd dL_sound_39 ?_
        refine EZ_istore [(6, .int (xh + r_36)), (0, .ref 0), (1, .int xs), (2, .int r_2), (3, .int (((1 : Int32) <<< (r_2 &&& 31)) - 1)), (4, .long r_14), (7, .int xk)] dL_sound_40 (by decide) rfl ?_
        refine EZ_aload_n 1 dL_sound_42 rfl rfl ?_
        refine EZ_iload_n 4 dL_sound_43 rfl rfl ?_
        refine EZ_iconst 1 (by decide) dL_sound_44 ?_
        refine EZ_iload 6 dL_sound_45 rfl ?_
        refine EZ_ishl dL_sound_47 ?_
        refine EZ_iconst (-1) (by decide) dL_sound_48 ?_
        refine EZ_ixor dL_sound_49 ?_
        refine EZ_iand dL_sound_50 ?_
        refine EZ_callH zn1 (k_fallout l hfl S_36 ((((1 : Int32) <<< (r_2 &&& 31)) - 1) &&& (((1 : Int32) <<< (xk &&& 31)) ^^^ ((-1) : Int32)))) cwH_106 (As := [.ref 0, .int ((((1 : Int32) <<< (r_2 &&& 31)) - 1) &&& (((1 : Int32) <<< (xk &&& 31)) ^^^ ((-1) : Int32)))]) (st := []) rfl (rok (Nat.le_of_ble_eq_true rfl) (Nat.le_of_ble_eq_true rfl) (by omega) (by omega)) (Nat.le_of_ble_eq_true rfl) dL_sound_51 rfl (zkJ (fun r_51 mi_51 ml_51 h_51 => ?_))
        obtain ⟨S_51, h_51⟩ := h_51
        have n_51 := fo_part h_51 (pw_a n_2 wn.2) n_14
        clear h_51
        refine EZ_lload 5 dL_sound_54 rfl ?_
        refine EZ_ldc2 wk_L_111 dL_sound_56 ?_
        refine EZ_lxor dL_sound_59 ?_
        refine EZ_land dL_sound_60 ?_
        refine EZ_lconst 0 rfl dL_sound_61 ?_
        refine EZ_lcmp dL_sound_62 ?_
        refine YZ_ne ((lg_cmp (r_51 &&& (r_14 ^^^ (-1))) 0).toInt) rfl 85 dL_sound_63 (by decide) (fun c_63 => ?_) (fun c_63 => ?_)
        · exact absurd (lc_z n_51) c_63
        · skip
          refine EZ_aload_n 1 dL_sound_66 rfl rfl ?_
          refine EZ_callV (j_channels l hfl S_51) cw_L_113 (As := []) (st := []) wi_yX5_channels we_yX5_channels (ci := 5) (q := (RX5, TX5, 7)) rfl rfl (wl_atO tw_0) rfl (rok (Nat.le_of_ble_eq_true rfl) (Nat.le_of_ble_eq_true rfl) (by omega) (by omega)) (Nat.le_of_ble_eq_true rfl) dL_sound_67 (fun _ _ h => h) rfl (zkJ (fun r_67 mi_67 ml_67 h_67 => ?_))
          obtain ⟨S_67, h_67⟩ := h_67
          refine EZ_aload_n 1 dL_sound_70 rfl rfl ?_
          refine EZ_iload 6 dL_sound_71 rfl ?_
          refine EZ_iconst 0 (by decide) dL_sound_73 ?_
          refine EZ_callH zn1 (k_carrier l hfl S_67 xk 0 False (b0 not_false)) cwH_117 (As := [.ref 0, .int xk, .int 0]) (st := [.long r_67]) rfl (rok (Nat.le_of_ble_eq_true rfl) (Nat.le_of_ble_eq_true rfl) (by omega) (by omega)) (Nat.le_of_ble_eq_true rfl) dL_sound_74 rfl (zkI (fun r_74 mi_74 ml_74 h_74 => ?_))
          obtain ⟨S_74, h_74⟩ := h_74
          (try rw [show xk.toInt = (i : Int) from hk] at h_74)
          have n_74 := ca_f h_74 (by omega)
          have n_82 := ch_bit S.1 wn.1 (show i < nV V by omega) h_67 n_74
          clear h_74
          refine EZ_lshr dL_sound_77 ?_
          refine EZ_lconst 1 rfl dL_sound_78 ?_
          refine EZ_land dL_sound_79 ?_
          refine EZ_lconst 1 rfl dL_sound_80 ?_
          refine EZ_lcmp dL_sound_81 ?_
          refine YZ_eq ((lg_cmp ((r_67 >>> (r_74.toInt64 &&& 63)) &&& 1) 1).toInt) rfl 87 dL_sound_82 (by decide) (fun c_82 => ?_) (fun c_82 => ?_)
          · skip
            refine EZ_iinc 6 (xk + 1) [(7, .int (xk + 1)), (6, .int (xh + r_36)), (0, .ref 0), (1, .int xs), (2, .int r_2), (3, .int (((1 : Int32) <<< (r_2 &&& 31)) - 1)), (4, .long r_14)] dL_sound_87 rfl rfl (by decide) rfl ?_
            refine EZ_goto 25 dL_sound_90 (by decide) ?_
            refine EZ_sub [2, 3, 4, 5, 6, 1, 0] rfl ?_
            exact ih25 mi_74 ml_74 (xh + r_36) (xk + 1) (i + 1) _ _ (by omega) S_74 ((tI_add hk (show (1 : Int32).toInt = 1 from rfl) (by omega)).trans (by omega)) (by omega) (hs_add hh n_36 hpl (by omega)) (by omega) (by omega)
          · exact absurd (lc_z n_82) c_82
  refine EZ_sub [5, 6, 4, 3, 2, 1, 0] rfl ?_
  exact J25 _ mi_14 ml_14 0 0 0 _ _ (Nat.lt_succ_self _) S_14 rfl (Nat.zero_le _) rfl (by omega) (by omega)
end LWS2
