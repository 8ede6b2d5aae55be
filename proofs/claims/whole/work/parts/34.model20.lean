section MO20
/-- the byte at p of a text of length N, -1 behind it -/
def hV (row : Nat → Int32) (N p : Nat) : Int32 := if p < N then row p else -1
def tX (row : Nat → Int32) (N p : Nat) : Int := if p < N then (row p).toInt else -1
theorem hV_t {row : Nat → Int32} {N p : Nat} : (hV row N p).toInt = tX row N p := by unfold hV tX; split <;> rfl
theorem hV_y {row : Nat → Int32} {N p : Nat} (h : p < N) : row p = hV row N p := by unfold hV; rw [if_pos h]
theorem hV_n {row : Nat → Int32} {N p : Nat} (h : ¬ p < N) : (-1 : Int32) = hV row N p := by unfold hV; rw [if_neg h]
def KF (L : List Nat) (mi mj : MI) : Prop := ∀ k, k ∉ L → mj 61 k = mi 61 k
theorem KF.r {L : List Nat} {mi : MI} : KF L mi mi := fun _ _ => rfl
theorem KF.u {L : List Nat} {mi mj : MI} {k : Nat} {v : Int32} (h : KF L mi mj) (hk : k ∈ L) : KF L mi (u2 mj 61 k v) := fun j hj => (u2_n (Or.inr (fun e => hj (by rw [e]; exact hk)))).trans (h j hj)
theorem KF.p {L : List Nat} {mi mj : MI} {p k : Nat} {v : Int32} (h : KF L mi mj) (hp : p ≠ 61) : KF L mi (u2 mj p k v) := fun j hj => (u2_n (Or.inl (fun e => hp e.symm))).trans (h j hj)
theorem KF.t {L M N : List Nat} {a b c : MI} (h : KF L a b) (g : KF M b c) (h1 : ∀ k, k ∈ L → k ∈ N) (h2 : ∀ k, k ∈ M → k ∈ N) : KF N a c := fun k hk => (g k (fun q => hk (h2 k q))).trans (h k (fun q => hk (h1 k q)))
def dg (v : Int) : Prop := 48 ≤ v ∧ v ≤ 57
/-- how many digits a number has (two at most), what the first i of them say, and whether it is one -/
def rdI (t : Nat → Int) (p : Nat) : Nat := if 48 ≤ t p ∧ t p ≤ 57 then (if 48 ≤ t (p + 1) ∧ t (p + 1) ≤ 57 then 2 else 1) else 0
def rdV (t : Nat → Int) (p : Nat) : Nat → Nat
  | 0 => 0
  | i + 1 => 10 * rdV t p i + (t (p + i) - 48).toNat
def rdO (t : Nat → Int) (p : Nat) : Prop := 0 < rdI t p ∧ ¬ dg (t (p + rdI t p))
theorem rdI_e {t : Nat → Int} {p i : Nat} (hi : i ≤ 2) (hd : ∀ j, j < i → dg (t (p + j))) (he : i = 2 ∨ ¬ dg (t (p + i))) : rdI t p = i := by
  unfold rdI
  match i, hi, hd, he with
  | 0, _, hd, he => exact if_neg (fun q => he.elim (fun z => absurd z (by omega)) (fun z => z q))
  | 1, _, hd, he =>
    rw [if_pos (show 48 ≤ t p ∧ t p ≤ 57 from hd 0 (by omega)), if_neg (show ¬ (48 ≤ t (p + 1) ∧ t (p + 1) ≤ 57) from fun q => he.elim (fun z => absurd z (by omega)) (fun z => z q))]
  | 2, _, hd, he => rw [if_pos (show 48 ≤ t p ∧ t p ≤ 57 from hd 0 (by omega)), if_pos (show 48 ≤ t (p + 1) ∧ t (p + 1) ≤ 57 from hd 1 (by omega))]
theorem rdI_le (t : Nat → Int) (p : Nat) : rdI t p ≤ 2 := by unfold rdI; split; split; all_goals omega
theorem rdI_d {t : Nat → Int} {p : Nat} : ∀ j, j < rdI t p → dg (t (p + j)) := by
  intro j hj
  unfold rdI at hj
  split at hj
  · rename_i h1
    split at hj
    · rename_i h2
      rcases Nat.eq_zero_or_pos j with q | q
      · subst q; exact h1
      · have e : j = 1 := by omega
        subst e; exact h2
    · have e : j = 0 := by omega
      subst e; exact h1
  · omega
theorem rdV_le {t : Nat → Int} {p : Nat} : ∀ {i : Nat}, i ≤ 2 → (∀ j, j < i → dg (t (p + j))) → rdV t p i ≤ 99 ∧ (i ≤ 1 → rdV t p i ≤ 9)
  | 0, _, _ => ⟨by rw [rdV]; omega, fun _ => by rw [rdV]; omega⟩
  | 1, _, hd => by
    have := hd 0 (by omega)
    unfold dg at this
    rw [rdV, rdV]
    constructor
    · omega
    · intro _; omega
  | 2, _, hd => by
    have h1 := (rdV_le (t := t) (p := p) (i := 1) (by omega) (fun j hj => hd j (by omega))).2 (by omega)
    have := hd 1 (by omega)
    unfold dg at this
    rw [rdV]
    constructor
    · omega
    · intro h; omega
theorem tX_lt {row : Nat → Int32} {N p : Nat} (h : tX row N p ≠ -1) : p < N := by
  unfold tX at h
  split at h
  · assumption
  · exact absurd rfl h
theorem dg_lt {row : Nat → Int32} {N p : Nat} (h : dg (tX row N p)) : p < N := by
  have h2 : tX row N p ≠ -1 := by unfold dg at h; omega
  exact tX_lt h2
theorem rdI_N {row : Nat → Int32} {N p : Nat} (hp : p ≤ N) : p + rdI (tX row N) p ≤ N := by
  rcases Nat.eq_zero_or_pos (rdI (tX row N) p) with q | q
  · omega
  · have := dg_lt (rdI_d (t := tX row N) (p := p) (rdI (tX row N) p - 1) (by omega))
    omega
theorem dg_v {t : Nat → Int} {p i : Nat} (h : dg (t (p + i))) : ((rdV t p (i + 1) : Nat) : Int) = 10 * (rdV t p i : Int) + t (p + i) - 48 := by
  unfold dg at h
  rw [rdV]; omega
set_option maxHeartbeats 1600000 in
set_option maxRecDepth 100000 in
theorem c_X6_here (l : Launch) (hfl : l.stackTraces = false) (mi : MI) (ml : MJ) (N p : Nat) (hN : (mi 61 4).toInt = (N : Int)) (hN2 : N ≤ 120) (hp : (mi 61 15).toInt = (p : Int)) (hp2 : p ≤ 200) : Ct l yX6_here (.code yX6_here cX6_here 1 (some .int)) 0 0 0 [.ref 61] (wl mi ml) (QP (some (.int (hV (mi 64) N p))) (wl mi ml)) noX := by
  refine Ct_of (ini := false) pn_X6 hfl (fun h => nomatch h) (Nat.le_of_ble_eq_true rfl) ?_
  show E l RX6 cX6_here 1 (some .int) false [] (rmE 0 0 0) (wl mi ml) (TgM (wl mi ml) 0 0 (QP (some (.int (hV (mi 64) N p))) (wl mi ml)) noX) 0 0 0 [(0, .ref 61)] [] (wl mi ml)
  refine E_aload_n 0 dX6_here_0 rfl rfl ?_
  refine gf_X6_177 (mi 61 15) tw_61 rfl rfl dX6_here_1 ?_
  refine E_aload_n 0 dX6_here_4 rfl rfl ?_
  refine gf_X6_174 (mi 61 4) tw_61 rfl rfl dX6_here_5 ?_
  refine Z_ge (p : Int) (N : Int) hp hN 23 dX6_here_8 (by decide) (fun c_8 => ?_) (fun c_8 => ?_)
  · skip
    refine E_iconst (-1) (by decide) dX6_here_23 ?_
    refine E_iret rfl (Nat.le_of_ble_eq_true rfl) (Nat.le_of_ble_eq_true rfl) dX6_here_24 ?_
    exact okP (hV_n (by omega))
  · skip
    refine E_aload_n 0 dX6_here_11 rfl rfl ?_
    refine gf_X6_16 tw_61 rfl dX6_here_12 ?_
    refine E_aload_n 0 dX6_here_15 rfl rfl ?_
    refine gf_X6_177 (mi 61 15) tw_61 rfl rfl dX6_here_16 ?_
    refine S_iald p (mi 64 p) tw_64 (hp.trans (by omega)) (by omega) rfl dX6_here_19 ?_
    refine E_goto 24 dX6_here_20 (by decide) ?_
    refine E_iret rfl (Nat.le_of_ble_eq_true rfl) (Nat.le_of_ble_eq_true rfl) dX6_here_24 ?_
    exact okP (hV_y (by omega))
set_option maxHeartbeats 1600000 in
set_option maxRecDepth 100000 in
theorem c_X6_takes (l : Launch) (hfl : l.stackTraces = false) (mi : MI) (ml : MJ) (N p : Nat) (hN : (mi 61 4).toInt = (N : Int)) (hN2 : N ≤ 120) (hp : (mi 61 15).toInt = (p : Int)) (hp2 : p ≤ 200) (c : Int32) (C : Int) (hC : c.toInt = C) : Ct l yX6_takes (.code yX6_takes cX6_takes 3 (some .boolean)) 1 0 0 [.ref 61, .int c] (wl mi ml) (QI (fun r mi9 ml9 => ml = ml9 ∧ Fr [61] mi mi9 ∧ KF [15] mi mi9 ∧ r = bI (tX (mi 64) N p = C) ∧ ∃ q : Nat, (mi9 61 15).toInt = (q : Int) ∧ (tX (mi 64) N p = C → q = p + 1) ∧ (tX (mi 64) N p ≠ C → q = p))) noX := by
  refine Ct_of (ini := false) pn_X6 hfl (fun h => nomatch h) (Nat.le_of_ble_eq_true rfl) ?_
  show E l RX6 cX6_takes 3 (some .boolean) false [] (rmE 1 0 0) (wl mi ml) (TgM (wl mi ml) 0 0 (QI (fun r mi9 ml9 => ml = ml9 ∧ Fr [61] mi mi9 ∧ KF [15] mi mi9 ∧ r = bI (tX (mi 64) N p = C) ∧ ∃ q : Nat, (mi9 61 15).toInt = (q : Int) ∧ (tX (mi 64) N p = C → q = p + 1) ∧ (tX (mi 64) N p ≠ C → q = p))) noX) 0 0 0 [(0, .ref 61), (1, .int c)] [] (wl mi ml)
  refine E_aload_n 0 dX6_takes_0 rfl rfl ?_
  refine E_callV (c_X6_here l hfl mi ml N p hN (by omega) hp (by omega)) cw_X6_180 (As := []) (st := []) wi_yX6_here we_yX6_here (ci := 6) (q := (RX6, TX6, 23)) rfl rfl (wl_atO tw_61) rfl ⟨Nat.le_of_ble_eq_true rfl, Nat.le_of_ble_eq_true rfl, Nat.le_of_ble_eq_true rfl, Nat.le_of_ble_eq_true rfl⟩ (Nat.le_of_ble_eq_true rfl) dX6_takes_1 (fun _ _ h => h) rfl (kE ?_)
  refine E_iload_n 1 dX6_takes_4 rfl rfl ?_
  refine Z_ne (tX (mi 64) N p) C hV_t hC 12 dX6_takes_5 (by decide) (fun c_5 => ?_) (fun c_5 => ?_)
  · skip
    refine E_iconst 0 (by decide) dX6_takes_12 ?_
    refine E_istore_n [(2, .int 0), (0, .ref 61), (1, .int c)] dX6_takes_13 rfl (by decide) rfl ?_
    refine E_aload_n 1 dX6_takes_14 rfl rfl ?_
    refine E_dup rfl dX6_takes_15 ?_
    refine gf_X6_177 (mi 61 15) tw_61 rfl rfl dX6_takes_16 ?_
    refine E_iload_n 0 dX6_takes_19 rfl rfl ?_
    refine Y_eq 0 (show (0 : Int32).toInt = 0 from rfl) 27 dX6_takes_20 (by decide) (fun c_20 => ?_) (fun c_20 => ?_)
    · skip
      refine E_iconst 0 (by decide) dX6_takes_27 ?_
      refine E_iadd dX6_takes_28 ?_
      refine pf_X6_177 tw_61 rfl dX6_takes_29 ?_
      refine E_iload_n 0 dX6_takes_32 rfl rfl ?_
      refine E_zret rfl rfl (Nat.le_of_ble_eq_true rfl) (Nat.le_of_ble_eq_true rfl) dX6_takes_33 ?_
      exact okQI ⟨rfl, Fr.rfl'.u (by decide), KF.r.u (by decide), b0 c_5, p, by rw [u2_s]; exact (tI_add hp (show (0 : Int32).toInt = 0 from rfl) (by omega)).trans (by omega), fun q => absurd q c_5, fun _ => rfl⟩
    · exact absurd c_20 (by decide)
  · skip
    refine E_iconst 1 (by decide) dX6_takes_8 ?_
    refine E_goto 13 dX6_takes_9 (by decide) ?_
    refine E_istore_n [(2, .int 1), (0, .ref 61), (1, .int c)] dX6_takes_13 rfl (by decide) rfl ?_
    refine E_aload_n 1 dX6_takes_14 rfl rfl ?_
    refine E_dup rfl dX6_takes_15 ?_
    refine gf_X6_177 (mi 61 15) tw_61 rfl rfl dX6_takes_16 ?_
    refine E_iload_n 0 dX6_takes_19 rfl rfl ?_
    refine Y_eq 1 (show (1 : Int32).toInt = 1 from rfl) 27 dX6_takes_20 (by decide) (fun c_20 => ?_) (fun c_20 => ?_)
    · exact absurd c_20 (by decide)
    · skip
      refine E_iconst 1 (by decide) dX6_takes_23 ?_
      refine E_goto 28 dX6_takes_24 (by decide) ?_
      refine E_iadd dX6_takes_28 ?_
      refine pf_X6_177 tw_61 rfl dX6_takes_29 ?_
      refine E_iload_n 0 dX6_takes_32 rfl rfl ?_
      refine E_zret rfl rfl (Nat.le_of_ble_eq_true rfl) (Nat.le_of_ble_eq_true rfl) dX6_takes_33 ?_
      exact okQI ⟨rfl, Fr.rfl'.u (by decide), KF.r.u (by decide), b1 c_5, p + 1, by rw [u2_s]; exact (tI_add hp (show (1 : Int32).toInt = 1 from rfl) (by omega)).trans (by omega), fun _ => rfl, fun q => absurd c_5 q⟩
set_option maxHeartbeats 1600000 in
set_option maxRecDepth 100000 in
theorem c_X6_refuse (l : Launch) (hfl : l.stackTraces = false) (mi : MI) (ml : MJ) (P : Prop) : Ct l yX6_refuse (.code yX6_refuse cX6_refuse 2 (some .boolean)) 0 0 0 [.ref 61, .int (bI (P))] (wl mi ml) (QI (fun r mi9 ml9 => ml = ml9 ∧ Fr [61] mi mi9 ∧ KF [15] mi mi9 ∧ r = bI P ∧ (P → mi9 61 15 = mi 61 21) ∧ (¬ P → mi9 61 15 = mi 61 15))) noX := by
  refine Ct_of (ini := false) pn_X6 hfl (fun h => nomatch h) (Nat.le_of_ble_eq_true rfl) ?_
  show E l RX6 cX6_refuse 2 (some .boolean) false [] (rmE 0 0 0) (wl mi ml) (TgM (wl mi ml) 0 0 (QI (fun r mi9 ml9 => ml = ml9 ∧ Fr [61] mi mi9 ∧ KF [15] mi mi9 ∧ r = bI P ∧ (P → mi9 61 15 = mi 61 21) ∧ (¬ P → mi9 61 15 = mi 61 15))) noX) 0 0 0 [(0, .ref 61), (1, .int (bI (P)))] [] (wl mi ml)
  refine E_aload_n 0 dX6_refuse_0 rfl rfl ?_
  refine E_iload_n 1 dX6_refuse_1 rfl rfl ?_
  refine B_eq 12 dX6_refuse_2 (by decide) (fun c_2 => ?_) (fun c_2 => ?_)
  · skip
    refine E_aload_n 0 dX6_refuse_12 rfl rfl ?_
    refine gf_X6_177 (mi 61 15) tw_61 rfl rfl dX6_refuse_13 ?_
    refine pf_X6_177 tw_61 rfl dX6_refuse_16 ?_
    refine E_iload_n 1 dX6_refuse_19 rfl rfl ?_
    refine E_zret rfl nbI (Nat.le_of_ble_eq_true rfl) (Nat.le_of_ble_eq_true rfl) dX6_refuse_20 ?_
    exact okQI ⟨rfl, Fr.rfl'.u (by decide), KF.r.u (by decide), rfl, fun q => absurd q c_2, fun _ => u2_s _ _ _ _⟩
  · skip
    refine E_aload_n 0 dX6_refuse_5 rfl rfl ?_
    refine gf_X6_183 (mi 61 21) tw_61 rfl rfl dX6_refuse_6 ?_
    refine E_goto 16 dX6_refuse_9 (by decide) ?_
    refine pf_X6_177 tw_61 rfl dX6_refuse_16 ?_
    refine E_iload_n 1 dX6_refuse_19 rfl rfl ?_
    refine E_zret rfl nbI (Nat.le_of_ble_eq_true rfl) (Nat.le_of_ble_eq_true rfl) dX6_refuse_20 ?_
    exact okQI ⟨rfl, Fr.rfl'.u (by decide), KF.r.u (by decide), rfl, fun _ => u2_s _ _ _ _, fun q => absurd c_2 q⟩
set_option maxHeartbeats 1600000 in
set_option maxRecDepth 100000 in
theorem c_X6_readNumber (l : Launch) (hfl : l.stackTraces = false) (mi : MI) (ml : MJ) (N p : Nat) (hN : (mi 61 4).toInt = (N : Int)) (hN2 : N ≤ 120) (hp : (mi 61 15).toInt = (p : Int)) (hp2 : p ≤ 122) : Ct l yX6_readNumber (.code yX6_readNumber cX6_readNumber 1 (some .boolean)) 2 0 0 [.ref 61] (wl mi ml) (QI (fun r mi9 ml9 => ml = ml9 ∧ Fr [61] mi mi9 ∧ KF [15, 16, 21] mi mi9 ∧ (mi9 61 15).toInt = ((p + rdI (tX (mi 64) N) p : Nat) : Int) ∧ (mi9 61 16).toInt = (rdV (tX (mi 64) N) p (rdI (tX (mi 64) N) p) : Int) ∧ mi9 61 21 = mi 61 15 ∧ r = bI (rdO (tX (mi 64) N) p))) noX := by
  refine Ct_of (ini := false) pn_X6 hfl (fun h => nomatch h) (Nat.le_of_ble_eq_true rfl) ?_
  show E l RX6 cX6_readNumber 1 (some .boolean) false [] (rmE 2 0 0) (wl mi ml) (TgM (wl mi ml) 0 0 (QI (fun r mi9 ml9 => ml = ml9 ∧ Fr [61] mi mi9 ∧ KF [15, 16, 21] mi mi9 ∧ (mi9 61 15).toInt = ((p + rdI (tX (mi 64) N) p : Nat) : Int) ∧ (mi9 61 16).toInt = (rdV (tX (mi 64) N) p (rdI (tX (mi 64) N) p) : Int) ∧ mi9 61 21 = mi 61 15 ∧ r = bI (rdO (tX (mi 64) N) p))) noX) 0 0 0 [(0, .ref 61)] [] (wl mi ml)
  refine E_aload_n 0 dX6_readNumber_0 rfl rfl ?_
  refine E_aload_n 0 dX6_readNumber_1 rfl rfl ?_
  refine gf_X6_177 (mi 61 15) tw_61 rfl rfl dX6_readNumber_2 ?_
  refine pf_X6_183 tw_61 rfl dX6_readNumber_5 ?_
  refine E_aload_n 0 dX6_readNumber_8 rfl rfl ?_
  refine E_iconst 0 (by decide) dX6_readNumber_9 ?_
  refine pf_X6_186 tw_61 rfl dX6_readNumber_10 ?_
  have J13 : ∀ (Nm : Nat) (i : Nat) (mj : MI), 2 - i < Nm → i ≤ 2 → Fr [61] mi mj → KF [15, 16, 21] mi mj → (mj 61 15).toInt = ((p + i : Nat) : Int) → (mj 61 16).toInt = (rdV (tX (mi 64) N) p i : Int) → mj 61 21 = mi 61 15 → (∀ j, j < i → dg (tX (mi 64) N (p + j))) → E l RX6 cX6_readNumber 1 (some .boolean) false [] (rmE 2 0 0) (wl mi ml) (TgM (wl mi ml) 0 0 (QI (fun r mi9 ml9 => ml = ml9 ∧ Fr [61] mi mi9 ∧ KF [15, 16, 21] mi mi9 ∧ (mi9 61 15).toInt = ((p + rdI (tX (mi 64) N) p : Nat) : Int) ∧ (mi9 61 16).toInt = (rdV (tX (mi 64) N) p (rdI (tX (mi 64) N) p) : Int) ∧ mi9 61 21 = mi 61 15 ∧ r = bI (rdO (tX (mi 64) N) p))) noX) 0 0 13 [(0, .ref 61)] [] (wl mj ml) := by
    intro Nm
    induction Nm with
    | zero => intros; omega
    | succ Nm ih13 =>
      intro i mj hN13 hi hF h61 h15 h16 h21 hd
      have hm4 : (mj 61 4).toInt = (N : Int) := by rw [h61 4 (by decide)]; exact hN
      refine E_aload_n 0 dX6_readNumber_13 rfl rfl ?_
      refine gf_X6_177 (mj 61 15) tw_61 rfl rfl dX6_readNumber_14 ?_
      refine E_aload_n 0 dX6_readNumber_17 rfl rfl ?_
      refine gf_X6_183 (mi 61 15) tw_61 rfl h21 dX6_readNumber_18 ?_
      refine E_iconst 2 (by decide) dX6_readNumber_21 ?_
      refine E_iadd dX6_readNumber_22 ?_
      refine Z_ge ((p + i : Nat) : Int) ((p : Int) + 2) h15 (tI_add hp (show (2 : Int32).toInt = 2 from rfl) (by omega)) 72 dX6_readNumber_23 (by decide) (fun c_23 => ?_) (fun c_23 => ?_)
      · skip
        have hrd : rdI (tX (mi 64) N) p = i := rdI_e hi hd (Or.inl (by omega))
        refine E_aload_n 0 dX6_readNumber_72 rfl rfl ?_
        refine gf_X6_177 (mj 61 15) tw_61 rfl rfl dX6_readNumber_73 ?_
        refine E_aload_n 0 dX6_readNumber_76 rfl rfl ?_
        refine gf_X6_183 (mi 61 15) tw_61 rfl h21 dX6_readNumber_77 ?_
        refine Z_le ((p + i : Nat) : Int) (p : Int) h15 hp 101 dX6_readNumber_80 (by decide) (fun c_80 => ?_) (fun c_80 => ?_)
        · skip
          refine E_iconst 0 (by decide) dX6_readNumber_101 ?_
          refine E_zret rfl rfl (Nat.le_of_ble_eq_true rfl) (Nat.le_of_ble_eq_true rfl) dX6_readNumber_102 ?_
          exact okQI ⟨rfl, hF, h61, by rw [hrd]; exact h15, by rw [hrd]; exact h16, h21, b0 (fun q => by first | (have := q.1; omega) | exact q.2 (by rw [hrd]; exact c_94))⟩
        · skip
          refine E_aload_n 0 dX6_readNumber_83 rfl rfl ?_
          refine E_callV (c_X6_here l hfl mj ml N (p + i) hm4 (by omega) h15 (by omega)) cw_X6_180 (As := []) (st := []) wi_yX6_here we_yX6_here (ci := 6) (q := (RX6, TX6, 23)) rfl rfl (wl_atO tw_61) rfl ⟨Nat.le_of_ble_eq_true rfl, Nat.le_of_ble_eq_true rfl, Nat.le_of_ble_eq_true rfl, Nat.le_of_ble_eq_true rfl⟩ (Nat.le_of_ble_eq_true rfl) dX6_readNumber_84 (fun _ _ h => h) rfl (kE ?_)
          rw [show mj 64 = mi 64 from (hF 64 (by decide))]
          refine E_bipush 48 (by decide) dX6_readNumber_87 ?_
          refine E_bipush 57 (by decide) dX6_readNumber_89 ?_
          refine E_callS (c_X6_in l hfl mj ml (hV (mi 64) N (p + i)) 48 57 (tX (mi 64) N (p + i)) 48 57 hV_t (show (48 : Int32).toInt = 48 from rfl) (show (57 : Int32).toInt = 57 from rfl)) cw_X6_53 (As := [.int (hV (mi 64) N (p + i)), .int 48, .int 57]) (st := []) ws_yX6_in rfl ⟨Nat.le_of_ble_eq_true rfl, Nat.le_of_ble_eq_true rfl, Nat.le_of_ble_eq_true rfl, Nat.le_of_ble_eq_true rfl⟩ (Nat.le_of_ble_eq_true rfl) dX6_readNumber_91 (fun _ _ h => h) rfl (kE ?_)
          refine B_ne 101 dX6_readNumber_94 (by decide) (fun c_94 => ?_) (fun c_94 => ?_)
          · skip
            refine E_iconst 0 (by decide) dX6_readNumber_101 ?_
            refine E_zret rfl rfl (Nat.le_of_ble_eq_true rfl) (Nat.le_of_ble_eq_true rfl) dX6_readNumber_102 ?_
            exact okQI ⟨rfl, hF, h61, by rw [hrd]; exact h15, by rw [hrd]; exact h16, h21, b0 (fun q => by first | (have := q.1; omega) | exact q.2 (by rw [hrd]; exact c_94))⟩
          · skip
            refine E_iconst 1 (by decide) dX6_readNumber_97 ?_
            refine E_goto 102 dX6_readNumber_98 (by decide) ?_
            refine E_zret rfl rfl (Nat.le_of_ble_eq_true rfl) (Nat.le_of_ble_eq_true rfl) dX6_readNumber_102 ?_
            exact okQI ⟨rfl, hF, h61, by rw [hrd]; exact h15, by rw [hrd]; exact h16, h21, b1 ⟨by omega, by rw [hrd]; exact c_94⟩⟩
      · skip
        refine E_aload_n 0 dX6_readNumber_26 rfl rfl ?_
        refine E_callV (c_X6_here l hfl mj ml N (p + i) hm4 (by omega) h15 (by omega)) cw_X6_180 (As := []) (st := []) wi_yX6_here we_yX6_here (ci := 6) (q := (RX6, TX6, 23)) rfl rfl (wl_atO tw_61) rfl ⟨Nat.le_of_ble_eq_true rfl, Nat.le_of_ble_eq_true rfl, Nat.le_of_ble_eq_true rfl, Nat.le_of_ble_eq_true rfl⟩ (Nat.le_of_ble_eq_true rfl) dX6_readNumber_27 (fun _ _ h => h) rfl (kE ?_)
        rw [show mj 64 = mi 64 from (hF 64 (by decide))]
        refine E_bipush 48 (by decide) dX6_readNumber_30 ?_
        refine E_bipush 57 (by decide) dX6_readNumber_32 ?_
        refine E_callS (c_X6_in l hfl mj ml (hV (mi 64) N (p + i)) 48 57 (tX (mi 64) N (p + i)) 48 57 hV_t (show (48 : Int32).toInt = 48 from rfl) (show (57 : Int32).toInt = 57 from rfl)) cw_X6_53 (As := [.int (hV (mi 64) N (p + i)), .int 48, .int 57]) (st := []) ws_yX6_in rfl ⟨Nat.le_of_ble_eq_true rfl, Nat.le_of_ble_eq_true rfl, Nat.le_of_ble_eq_true rfl, Nat.le_of_ble_eq_true rfl⟩ (Nat.le_of_ble_eq_true rfl) dX6_readNumber_34 (fun _ _ h => h) rfl (kE ?_)
        refine B_eq 72 dX6_readNumber_37 (by decide) (fun c_37 => ?_) (fun c_37 => ?_)
        · skip
          have hrd : rdI (tX (mi 64) N) p = i := rdI_e hi hd (Or.inr c_37)
          refine E_aload_n 0 dX6_readNumber_72 rfl rfl ?_
          refine gf_X6_177 (mj 61 15) tw_61 rfl rfl dX6_readNumber_73 ?_
          refine E_aload_n 0 dX6_readNumber_76 rfl rfl ?_
          refine gf_X6_183 (mi 61 15) tw_61 rfl h21 dX6_readNumber_77 ?_
          refine Z_le ((p + i : Nat) : Int) (p : Int) h15 hp 101 dX6_readNumber_80 (by decide) (fun c_80 => ?_) (fun c_80 => ?_)
          · skip
            refine E_iconst 0 (by decide) dX6_readNumber_101 ?_
            refine E_zret rfl rfl (Nat.le_of_ble_eq_true rfl) (Nat.le_of_ble_eq_true rfl) dX6_readNumber_102 ?_
            exact okQI ⟨rfl, hF, h61, by rw [hrd]; exact h15, by rw [hrd]; exact h16, h21, b0 (fun q => by first | (have := q.1; omega) | exact q.2 (by rw [hrd]; exact c_94))⟩
          · skip
            refine E_aload_n 0 dX6_readNumber_83 rfl rfl ?_
            refine E_callV (c_X6_here l hfl mj ml N (p + i) hm4 (by omega) h15 (by omega)) cw_X6_180 (As := []) (st := []) wi_yX6_here we_yX6_here (ci := 6) (q := (RX6, TX6, 23)) rfl rfl (wl_atO tw_61) rfl ⟨Nat.le_of_ble_eq_true rfl, Nat.le_of_ble_eq_true rfl, Nat.le_of_ble_eq_true rfl, Nat.le_of_ble_eq_true rfl⟩ (Nat.le_of_ble_eq_true rfl) dX6_readNumber_84 (fun _ _ h => h) rfl (kE ?_)
            rw [show mj 64 = mi 64 from (hF 64 (by decide))]
            refine E_bipush 48 (by decide) dX6_readNumber_87 ?_
            refine E_bipush 57 (by decide) dX6_readNumber_89 ?_
            refine E_callS (c_X6_in l hfl mj ml (hV (mi 64) N (p + i)) 48 57 (tX (mi 64) N (p + i)) 48 57 hV_t (show (48 : Int32).toInt = 48 from rfl) (show (57 : Int32).toInt = 57 from rfl)) cw_X6_53 (As := [.int (hV (mi 64) N (p + i)), .int 48, .int 57]) (st := []) ws_yX6_in rfl ⟨Nat.le_of_ble_eq_true rfl, Nat.le_of_ble_eq_true rfl, Nat.le_of_ble_eq_true rfl, Nat.le_of_ble_eq_true rfl⟩ (Nat.le_of_ble_eq_true rfl) dX6_readNumber_91 (fun _ _ h => h) rfl (kE ?_)
            refine B_ne 101 dX6_readNumber_94 (by decide) (fun c_94 => ?_) (fun c_94 => ?_)
            · skip
              refine E_iconst 0 (by decide) dX6_readNumber_101 ?_
              refine E_zret rfl rfl (Nat.le_of_ble_eq_true rfl) (Nat.le_of_ble_eq_true rfl) dX6_readNumber_102 ?_
              exact okQI ⟨rfl, hF, h61, by rw [hrd]; exact h15, by rw [hrd]; exact h16, h21, b0 (fun q => by first | (have := q.1; omega) | exact q.2 (by rw [hrd]; exact c_94))⟩
            · skip
              refine E_iconst 1 (by decide) dX6_readNumber_97 ?_
              refine E_goto 102 dX6_readNumber_98 (by decide) ?_
              refine E_zret rfl rfl (Nat.le_of_ble_eq_true rfl) (Nat.le_of_ble_eq_true rfl) dX6_readNumber_102 ?_
              exact okQI ⟨rfl, hF, h61, by rw [hrd]; exact h15, by rw [hrd]; exact h16, h21, b1 ⟨by omega, by rw [hrd]; exact c_94⟩⟩
        · skip
          have hb9 := c_37
          have hv9 := (rdV_le (t := tX (mi 64) N) (p := p) hi hd).2 (by omega)
          refine E_aload_n 0 dX6_readNumber_40 rfl rfl ?_
          refine E_bipush 10 (by decide) dX6_readNumber_41 ?_
          refine E_aload_n 0 dX6_readNumber_43 rfl rfl ?_
          refine gf_X6_186 (mj 61 16) tw_61 rfl rfl dX6_readNumber_44 ?_
          refine E_imul dX6_readNumber_47 ?_
          refine E_aload_n 0 dX6_readNumber_48 rfl rfl ?_
          refine E_callV (c_X6_here l hfl mj ml N (p + i) hm4 (by omega) h15 (by omega)) cw_X6_180 (As := []) (st := [.int (10 * (mj 61 16)), .ref 61]) wi_yX6_here we_yX6_here (ci := 6) (q := (RX6, TX6, 23)) rfl rfl (wl_atO tw_61) rfl ⟨Nat.le_of_ble_eq_true rfl, Nat.le_of_ble_eq_true rfl, Nat.le_of_ble_eq_true rfl, Nat.le_of_ble_eq_true rfl⟩ (Nat.le_of_ble_eq_true rfl) dX6_readNumber_49 (fun _ _ h => h) rfl (kE ?_)
          rw [show mj 64 = mi 64 from (hF 64 (by decide))]
          refine E_iadd dX6_readNumber_52 ?_
          refine E_bipush 48 (by decide) dX6_readNumber_53 ?_
          refine E_isub dX6_readNumber_55 ?_
          refine pf_X6_186 tw_61 rfl dX6_readNumber_56 ?_
          refine E_aload_n 0 dX6_readNumber_59 rfl rfl ?_
          refine E_dup rfl dX6_readNumber_60 ?_
          refine gf_X6_177 (mj 61 15) tw_61 rfl ((u2_n (by omega)).trans rfl) dX6_readNumber_61 ?_
          refine E_iconst 1 (by decide) dX6_readNumber_64 ?_
          refine E_iadd dX6_readNumber_65 ?_
          refine pf_X6_177 tw_61 rfl dX6_readNumber_66 ?_
          refine E_goto 13 dX6_readNumber_69 (by decide) ?_
          exact ih13 (i + 1) (u2 (u2 mj 61 16 (((10 * (mj 61 16)) + (hV (mi 64) N (p + i))) - 48)) 61 15 ((mj 61 15) + 1)) (by omega) (by omega) ((hF.u (by decide)).u (by decide)) ((h61.u (by decide)).u (by decide)) (by rw [u2_s]; exact (tI_add h15 (show (1 : Int32).toInt = 1 from rfl) (by omega)).trans (by omega)) (by rw [u2_n (by omega), u2_s]; exact (tI_sub (tI_add (tI_mul (show (10 : Int32).toInt = 10 from rfl) h16 (by omega)) hV_t (by omega)) (show (48 : Int32).toInt = 48 from rfl) (by omega)).trans (by rw [dg_v c_37])) (by rw [u2_n (by omega), u2_n (by omega)]; exact h21) (lt_s hd c_37)
  exact J13 _ 0 (u2 (u2 mi 61 21 (mi 61 15)) 61 16 0) (Nat.lt_succ_self _) (by omega) ((Fr.rfl'.u (by decide)).u (by decide)) ((KF.r.u (by decide)).u (by decide)) (by rw [u2_n (by omega), u2_n (by omega)]; exact hp) (by rw [u2_s]; rfl) (by rw [u2_n (by omega), u2_s]) (fun j h => absurd h (Nat.not_lt_zero j))
end MO20
