section CL6
/-- the best ruler of m marks -/
def BrE (V : Nat → Int32) (m : Nat) (r : Int32) (mi : MI) (ml : MJ) : Prop := (∃ (s : Nat) (R : List Nat), s ≤ 40 ∧ r.toInt = (s : Int) ∧ skFA V m s = some R ∧ (∀ t, t < s → skFA V m t = none) ∧ CSI mi ml (DS V R) (V 3).toInt (V 4).toInt R.length ∧ ∀ x, x ∈ R → x ≤ 40) ∨ (r = -1 ∧ ∀ t, t ≤ 40 → skFA V m t = none)
theorem CrE_0 {V : Nat → Int32} {m S : Nat} {x : Int} {mi : MI} {ml : MJ} (h : CrE V m S 1 x mi ml) (hx : x ≤ 0) : skFA V m S = none := by
  rcases h with ⟨a, b⟩ | ⟨a, _⟩
  · exact skFA_none (by omega)
  · omega
theorem CrE_p {V : Nat → Int32} {m S : Nat} {x : Int} {mi : MI} {ml : MJ} (h : CrE V m S 1 x mi ml) (hx : 0 < x) : ∃ R, skFA V m S = some R ∧ CSI mi ml (DS V R) (V 3).toInt (V 4).toInt R.length ∧ ∀ x, x ∈ R → x ≤ 40 := by
  rcases h with ⟨a, b⟩ | ⟨a, b, R, c, d, e⟩
  · omega
  · exact ⟨R, e rfl, c, d⟩
/-- the ways to take l things out of k -/
def bcN : Nat → Nat → Nat
  | 0, _ => 1
  | _ + 1, 0 => 0
  | l + 1, k + 1 => bcN l k + bcN (l + 1) k
theorem smF_bc {f : Nat → Nat} {S l : Nat} (h : ∀ y, f y ≤ bcN l (S - (y + 1))) : ∀ k x, S - x = k → smF f x k ≤ bcN (l + 1) k
  | 0, _, _ => Nat.le_refl _
  | k + 1, x, e => by
    have ih := smF_bc h k (x + 1) (by omega)
    have h1 := h x
    rw [show S - (x + 1) = k by omega] at h1
    rw [smF, bcN]; omega
theorem skC_bc (V : Nat → Int32) {S : Nat} : ∀ l R x, skC V S l R x ≤ bcN l (S - x)
  | 0, _, _ => by rw [skC, bcN]; exact Nat.le_refl _
  | l + 1, R, x => by
    rw [skC]
    refine smF_bc (fun y => ?_) (S - x) x rfl
    rcases Classical.em (ClN V (R ++ [y])) with q | q
    · simp only [ifp_t q]; exact skC_bc V l _ _
    · simp only [ifp_f q]; exact Nat.zero_le _
theorem bcN_b : ∀ m, m < 6 → ∀ S, S < 41 → bcN (m - 2) (S - 1) < 10000 := by decide +kernel
theorem skCA_b {V : Nat → Int32} {m S : Nat} (hm : m ≤ 5) (hS : S ≤ 40) : skCA V m S < 10000 := by
  unfold skCA
  by_cases h1 : m = 1
  · rw [if_pos h1]; by_cases h2 : S = 0
    · rw [if_pos h2]; omega
    · rw [if_neg h2]; omega
  · rw [if_neg h1]
    by_cases h2 : S = 0
    · rw [if_pos h2]; omega
    · rw [if_neg h2]
      rcases Classical.em (ClN V [0, S]) with q | q
      · rw [ifp_t q]; exact Nat.lt_of_le_of_lt (skC_bc V _ _ _) (bcN_b m (by omega) S (by omega))
      · rw [ifp_f q]; omega
set_option maxHeartbeats 1600000 in
set_option maxRecDepth 100000 in
theorem c_X5_findBestRuler (l : Launch) (hfl : l.stackTraces = false) (mi : MI) (ml : MJ) (V : Nat → Int32) (hV : WFV V) (hD : DR 1 mi V) (n : Nat) (hn : (V 5).toInt = (n : Int)) (h10 : n ≤ 10) (hz : ml 56 0 = 0 ∧ ml 57 0 = 0) (sp : Nat) (hsp : (V 4).toInt = (sp : Int)) (hs1 : 1 ≤ sp) (hs10 : sp ≤ 10) (xm : Int32) (m : Nat) (hxm : xm.toInt = (m : Int)) (hm : 1 ≤ m ∧ m ≤ 6) : Ct l yX5_findBestRuler (.code yX5_findBestRuler cX5_findBestRuler 3 (some .int)) 9 0 0 [.ref 0, .int xm] (wl mi ml) (QI (fun r mi9 ml9 => Fr [53, 54, 55] mi mi9 ∧ FLc ml ml9 ∧ (ml9 56 0 = 0 ∧ ml9 57 0 = 0) ∧ BrE V m r mi9 ml9)) noX := by
  refine Ct_of (ini := false) pn_X5 hfl (fun h => nomatch h) (Nat.le_of_ble_eq_true rfl) ?_
  show E l RX5 cX5_findBestRuler 3 (some .int) false [] (rmE 9 0 0) (wl mi ml) (TgM (wl mi ml) 0 0 (QI (fun r mi9 ml9 => Fr [53, 54, 55] mi mi9 ∧ FLc ml ml9 ∧ (ml9 56 0 = 0 ∧ ml9 57 0 = 0) ∧ BrE V m r mi9 ml9)) noX) 0 0 0 [(0, .ref 0), (1, .int xm)] [] (wl mi ml)
  refine E_iconst 0 (by decide) dX5_findBestRuler_0 ?_
  refine E_istore_n [(2, .int 0), (0, .ref 0), (1, .int xm)] dX5_findBestRuler_1 rfl (by decide) rfl ?_
  have J2 : ∀ (Nm : Nat) (xs : Int32) (s : Nat) (ma : MI) (la : MJ), 42 - s < Nm → xs.toInt = (s : Int) → s ≤ 41 → Fr [53, 54, 55] mi ma → FLc ml la → (la 56 0 = 0 ∧ la 57 0 = 0) → (∀ t, t < s → skFA V m t = none) → E l RX5 cX5_findBestRuler 3 (some .int) false [] (rmE 9 0 0) (wl mi ml) (TgM (wl mi ml) 0 0 (QI (fun r mi9 ml9 => Fr [53, 54, 55] mi mi9 ∧ FLc ml ml9 ∧ (ml9 56 0 = 0 ∧ ml9 57 0 = 0) ∧ BrE V m r mi9 ml9)) noX) 0 0 2 [(0, .ref 0), (1, .int xm), (2, .int xs)] [] (wl ma la) := by
    intro Nm
    induction Nm with
    | zero => intros; omega
    | succ Nm ih2 =>
      intro xs s ma la hN2 hs hs41 hF hL hz2 hno
      refine E_iload_n 2 dX5_findBestRuler_2 rfl rfl ?_
      refine E_bipush 40 (by decide) dX5_findBestRuler_3 ?_
      refine Z_gt (s : Int) 40 hs (show (40 : Int32).toInt = 40 from rfl) 26 dX5_findBestRuler_5 (by decide) (fun c_5 => ?_) (fun c_5 => ?_)
      · skip
        refine E_iconst (-1) (by decide) dX5_findBestRuler_26 ?_
        refine E_iret rfl (Nat.le_of_ble_eq_true rfl) (Nat.le_of_ble_eq_true rfl) dX5_findBestRuler_27 ?_
        exact okQI ⟨hF, hL, hz2, Or.inr ⟨rfl, fun t ht => hno t (by omega)⟩⟩
      · skip
        refine E_aload_n 0 dX5_findBestRuler_8 rfl rfl ?_
        refine E_iload_n 1 dX5_findBestRuler_9 rfl rfl ?_
        refine E_iload_n 2 dX5_findBestRuler_10 rfl rfl ?_
        refine E_iconst 1 (by decide) dX5_findBestRuler_11 ?_
        refine E_callV (c_X5_countRulers l hfl ma la V hV (hD.r8 (hF 1 (by decide)) (hF 2 (by decide)) (hF 3 (by decide)) (hF 4 (by decide)) (hF 5 (by decide)) (hF 6 (by decide)) (hF 7 (by decide)) (hF 8 (by decide))) n hn h10 hz2 sp hsp hs1 hs10 s 1 xs 1 (hs.trans (by omega)) (by omega) ((show (1 : Int32).toInt = 1 from rfl).trans (by omega)) (by omega) xm m (hxm.trans (by omega)) (by omega)) cw_X5_201 (As := [.int xm, .int xs, .int 1]) (st := []) wi_yX5_countRulers we_yX5_countRulers (ci := 5) (q := (RX5, TX5, 7)) rfl rfl (wl_atO tw_0) rfl ⟨Nat.le_of_ble_eq_true rfl, Nat.le_of_ble_eq_true rfl, Nat.le_of_ble_eq_true rfl, Nat.le_of_ble_eq_true rfl⟩ (Nat.le_of_ble_eq_true rfl) dX5_findBestRuler_12 (fun _ _ h => h) rfl (kI (fun r_12 mi_12 ml_12 h_12 => ?_))
        refine Y_le r_12.toInt rfl 20 dX5_findBestRuler_15 (by decide) (fun c_15 => ?_) (fun c_15 => ?_)
        · skip
          refine E_iinc 2 (xs + 1) [(2, .int (xs + 1)), (0, .ref 0), (1, .int xm)] dX5_findBestRuler_20 rfl rfl (by decide) rfl ?_
          refine E_goto 2 dX5_findBestRuler_23 (by decide) ?_
          refine E_sub [1, 2, 0] rfl ?_
          exact ih2 (xs + 1) (s + 1) mi_12 ml_12 (by omega) ((tI_add hs (show (1 : Int32).toInt = 1 from rfl) (by omega)).trans (by omega)) (by omega) (hF.trans h_12.1 (fun _ h => h) (fun _ h => h)) (hL.trans h_12.2.1) h_12.2.2.1 (lt_s hno (CrE_0 h_12.2.2.2 c_15))
        · skip
          refine E_iload_n 2 dX5_findBestRuler_18 rfl rfl ?_
          refine E_iret rfl (Nat.le_of_ble_eq_true rfl) (Nat.le_of_ble_eq_true rfl) dX5_findBestRuler_19 ?_
          obtain ⟨R, hR1, hR2, hR3⟩ := CrE_p h_12.2.2.2 c_15
          exact okQI ⟨hF.trans h_12.1 (fun _ h => h) (fun _ h => h), hL.trans h_12.2.1, h_12.2.2.1, Or.inl ⟨s, R, by omega, hs, hR1, hno, hR2, hR3⟩⟩
  refine E_sub [1, 2, 0] rfl ?_
  exact J2 _ 0 0 mi ml (Nat.lt_succ_self _) (show (0 : Int32).toInt = 0 from rfl) (by omega) Fr_r FLc_r hz (fun t h => absurd h (Nat.not_lt_zero t))
set_option maxHeartbeats 1600000 in
set_option maxRecDepth 100000 in
theorem c_X5_leastSpan (l : Launch) (hfl : l.stackTraces = false) (mi : MI) (ml : MJ) (V : Nat → Int32) (hV : WFV V) (hD : DR 1 mi V) (n : Nat) (hn : (V 5).toInt = (n : Int)) (h10 : n ≤ 10) (hz : ml 56 0 = 0 ∧ ml 57 0 = 0) (sp : Nat) (hsp : (V 4).toInt = (sp : Int)) (hs1 : 1 ≤ sp) (hs10 : sp ≤ 10) (a : Int32) (A : Int) (hA : a.toInt = A) : Ct l yX5_leastSpan (.code yX5_leastSpan cX5_leastSpan 2 (some .int)) 10 1 6 [.ref 0, .int a] (wl mi ml) (QI (fun r mi9 ml9 => Fr [53, 54, 55] mi mi9 ∧ FLc ml ml9 ∧ (ml9 56 0 = 0 ∧ ml9 57 0 = 0) ∧ (1 ≤ A ∧ A ≤ 6) ∧ ∃ m : Nat, A = (m : Int) ∧ BrE V m r mi9 ml9)) (XW (fun En mi9 ml9 => mi = mi9 ∧ ml = ml9 ∧ En = xIA ∧ ¬ (1 ≤ A ∧ A ≤ 6))) := by
  refine Ct_of (ini := false) pn_X5 hfl (fun h => nomatch h) (Nat.le_of_ble_eq_true rfl) ?_
  show E l RX5 cX5_leastSpan 2 (some .int) false [] (rmE 10 1 6) (wl mi ml) (TgM (wl mi ml) 1 6 (QI (fun r mi9 ml9 => Fr [53, 54, 55] mi mi9 ∧ FLc ml ml9 ∧ (ml9 56 0 = 0 ∧ ml9 57 0 = 0) ∧ (1 ≤ A ∧ A ≤ 6) ∧ ∃ m : Nat, A = (m : Int) ∧ BrE V m r mi9 ml9)) (XW (fun En mi9 ml9 => mi = mi9 ∧ ml = ml9 ∧ En = xIA ∧ ¬ (1 ≤ A ∧ A ≤ 6)))) 0 0 0 [(0, .ref 0), (1, .int a)] [] (wl mi ml)
  refine E_iload_n 1 dX5_leastSpan_0 rfl rfl ?_
  refine E_bipush 6 (by decide) dX5_leastSpan_1 ?_
  refine E_callSx (c_X5_needMarks l hfl mi ml  a A hA 6 6 (show (6 : Int32).toInt = 6 from rfl)) cw_X5_189 (As := [.int a, .int 6]) (st := []) ws_yX5_needMarks rfl ⟨Nat.le_of_ble_eq_true rfl, Nat.le_of_ble_eq_true rfl, Nat.le_of_ble_eq_true rfl, Nat.le_of_ble_eq_true rfl⟩ (Nat.le_of_ble_eq_true rfl) dX5_leastSpan_3 rfl (Nat.le_of_ble_eq_true rfl) (Nat.le_of_ble_eq_true rfl) (XW.w (by rintro _ _ _ ⟨rfl, rfl, rfl, q⟩; exact ⟨rfl, rfl, rfl, q⟩)) rfl (kV (fun mi_3 ml_3 h_3 => ?_))
  obtain ⟨rfl, rfl, h_3⟩ := h_3
  obtain ⟨m, hm⟩ : ∃ m : Nat, A = (m : Int) := ⟨A.toNat, by omega⟩
  refine E_aload_n 0 dX5_leastSpan_6 rfl rfl ?_
  refine E_iload_n 1 dX5_leastSpan_7 rfl rfl ?_
  refine E_callV (c_X5_findBestRuler l hfl mi ml V hV hD n hn h10 hz sp hsp hs1 hs10 a m (hA.trans (by omega)) (by omega)) cw_X5_192 (As := [.int a]) (st := []) wi_yX5_findBestRuler we_yX5_findBestRuler (ci := 5) (q := (RX5, TX5, 7)) rfl rfl (wl_atO tw_0) rfl ⟨Nat.le_of_ble_eq_true rfl, Nat.le_of_ble_eq_true rfl, Nat.le_of_ble_eq_true rfl, Nat.le_of_ble_eq_true rfl⟩ (Nat.le_of_ble_eq_true rfl) dX5_leastSpan_8 (fun _ _ h => h) rfl (kI (fun r_8 mi_8 ml_8 h_8 => ?_))
  refine E_iret rfl (Nat.le_of_ble_eq_true rfl) (Nat.le_of_ble_eq_true rfl) dX5_leastSpan_11 ?_
  exact okQI ⟨h_8.1, h_8.2.1, h_8.2.2.1, h_3, m, hm, h_8.2.2.2⟩
set_option maxHeartbeats 1600000 in
set_option maxRecDepth 100000 in
theorem c_X5_bestRuler (l : Launch) (hfl : l.stackTraces = false) (mi : MI) (ml : MJ) (V : Nat → Int32) (hV : WFV V) (hD : DR 1 mi V) (n : Nat) (hn : (V 5).toInt = (n : Int)) (h10 : n ≤ 10) (hz : ml 56 0 = 0 ∧ ml 57 0 = 0) (sp : Nat) (hsp : (V 4).toInt = (sp : Int)) (hs1 : 1 ≤ sp) (hs10 : sp ≤ 10) (a : Int32) (A : Int) (hA : a.toInt = A) : Ct l yX5_bestRuler (.code yX5_bestRuler cX5_bestRuler 2 (some .long)) 10 1 6 [.ref 0, .int a] (wl mi ml) (QJ (fun r mi9 ml9 => Fr [53, 54, 55] mi mi9 ∧ FLc ml ml9 ∧ (ml9 56 0 = 0 ∧ ml9 57 0 = 0) ∧ (1 ≤ A ∧ A ≤ 6) ∧ ∃ m : Nat, A = (m : Int) ∧ ((r = 0 ∧ ∀ t, t ≤ 40 → skFA V m t = none) ∨ (∃ (s : Nat) (R : List Nat), s ≤ 40 ∧ skFA V m s = some R ∧ (∀ t, t < s → skFA V m t = none) ∧ r = rbF R)))) (XW (fun En mi9 ml9 => mi = mi9 ∧ ml = ml9 ∧ En = xIA ∧ ¬ (1 ≤ A ∧ A ≤ 6))) := by
  refine Ct_of (ini := false) pn_X5 hfl (fun h => nomatch h) (Nat.le_of_ble_eq_true rfl) ?_
  show E l RX5 cX5_bestRuler 2 (some .long) false [] (rmE 10 1 6) (wl mi ml) (TgM (wl mi ml) 1 6 (QJ (fun r mi9 ml9 => Fr [53, 54, 55] mi mi9 ∧ FLc ml ml9 ∧ (ml9 56 0 = 0 ∧ ml9 57 0 = 0) ∧ (1 ≤ A ∧ A ≤ 6) ∧ ∃ m : Nat, A = (m : Int) ∧ ((r = 0 ∧ ∀ t, t ≤ 40 → skFA V m t = none) ∨ (∃ (s : Nat) (R : List Nat), s ≤ 40 ∧ skFA V m s = some R ∧ (∀ t, t < s → skFA V m t = none) ∧ r = rbF R)))) (XW (fun En mi9 ml9 => mi = mi9 ∧ ml = ml9 ∧ En = xIA ∧ ¬ (1 ≤ A ∧ A ≤ 6)))) 0 0 0 [(0, .ref 0), (1, .int a)] [] (wl mi ml)
  refine E_iload_n 1 dX5_bestRuler_0 rfl rfl ?_
  refine E_bipush 6 (by decide) dX5_bestRuler_1 ?_
  refine E_callSx (c_X5_needMarks l hfl mi ml  a A hA 6 6 (show (6 : Int32).toInt = 6 from rfl)) cw_X5_189 (As := [.int a, .int 6]) (st := []) ws_yX5_needMarks rfl ⟨Nat.le_of_ble_eq_true rfl, Nat.le_of_ble_eq_true rfl, Nat.le_of_ble_eq_true rfl, Nat.le_of_ble_eq_true rfl⟩ (Nat.le_of_ble_eq_true rfl) dX5_bestRuler_3 rfl (Nat.le_of_ble_eq_true rfl) (Nat.le_of_ble_eq_true rfl) (XW.w (by rintro _ _ _ ⟨rfl, rfl, rfl, q⟩; exact ⟨rfl, rfl, rfl, q⟩)) rfl (kV (fun mi_3 ml_3 h_3 => ?_))
  obtain ⟨rfl, rfl, h_3⟩ := h_3
  obtain ⟨m, hm⟩ : ∃ m : Nat, A = (m : Int) := ⟨A.toNat, by omega⟩
  refine E_aload_n 0 dX5_bestRuler_6 rfl rfl ?_
  refine E_iload_n 1 dX5_bestRuler_7 rfl rfl ?_
  refine E_callV (c_X5_findBestRuler l hfl mi ml V hV hD n hn h10 hz sp hsp hs1 hs10 a m (hA.trans (by omega)) (by omega)) cw_X5_192 (As := [.int a]) (st := []) wi_yX5_findBestRuler we_yX5_findBestRuler (ci := 5) (q := (RX5, TX5, 7)) rfl rfl (wl_atO tw_0) rfl ⟨Nat.le_of_ble_eq_true rfl, Nat.le_of_ble_eq_true rfl, Nat.le_of_ble_eq_true rfl, Nat.le_of_ble_eq_true rfl⟩ (Nat.le_of_ble_eq_true rfl) dX5_bestRuler_8 (fun _ _ h => h) rfl (kI (fun r_8 mi_8 ml_8 h_8 => ?_))
  refine E_iconst (-1) (by decide) dX5_bestRuler_11 ?_
  refine Z_ne r_8.toInt (-1) rfl (show ((-1) : Int32).toInt = (-1) from rfl) 19 dX5_bestRuler_12 (by decide) (fun c_12 => ?_) (fun c_12 => ?_)
  · skip
    obtain ⟨s, R, hs1_, hs2_, hR1, hR4, hR2, hR3⟩ := h_8.2.2.2.resolve_right (fun z => c_12 (by rw [z.1]; rfl))
    refine E_aload_n 0 dX5_bestRuler_19 rfl rfl ?_
    refine gf_X5_36 tw_0 rfl dX5_bestRuler_20 ?_
    refine E_callV (c_X0_channelSet l hfl mi_8 ml_8 V R _ _ hR2 (fun x hx => by have := hR3 x hx; omega)) cw_X5_195 (As := []) (st := []) wi_yX0_channelSet we_yX0_channelSet (ci := 0) (q := (RX0, TX0, 10)) rfl rfl (wl_atO tw_53) rfl ⟨Nat.le_of_ble_eq_true rfl, Nat.le_of_ble_eq_true rfl, Nat.le_of_ble_eq_true rfl, Nat.le_of_ble_eq_true rfl⟩ (Nat.le_of_ble_eq_true rfl) dX5_bestRuler_23 (fun _ _ h => h) rfl (kE ?_)
    refine E_lret rfl (Nat.le_of_ble_eq_true rfl) (Nat.le_of_ble_eq_true rfl) dX5_bestRuler_26 ?_
    exact okQJ ⟨h_8.1, h_8.2.1, h_8.2.2.1, h_3, m, hm, Or.inr ⟨s, R, hs1_, hR1, hR4, rfl⟩⟩
  · skip
    have h9 := h_8.2.2.2.resolve_left (fun z => by obtain ⟨s, R, _, hs, _⟩ := z; omega)
    refine E_lconst 0 rfl dX5_bestRuler_15 ?_
    refine E_goto 26 dX5_bestRuler_16 (by decide) ?_
    refine E_lret rfl (Nat.le_of_ble_eq_true rfl) (Nat.le_of_ble_eq_true rfl) dX5_bestRuler_26 ?_
    exact okQJ ⟨h_8.1, h_8.2.1, h_8.2.2.1, h_3, m, hm, Or.inl ⟨rfl, h9.2⟩⟩
set_option maxHeartbeats 1600000 in
set_option maxRecDepth 100000 in
theorem c_X5_rulers (l : Launch) (hfl : l.stackTraces = false) (mi : MI) (ml : MJ) (V : Nat → Int32) (hV : WFV V) (hD : DR 1 mi V) (n : Nat) (hn : (V 5).toInt = (n : Int)) (h10 : n ≤ 10) (hz : ml 56 0 = 0 ∧ ml 57 0 = 0) (sp : Nat) (hsp : (V 4).toInt = (sp : Int)) (hs1 : 1 ≤ sp) (hs10 : sp ≤ 10) (a : Int32) (A : Int) (hA : a.toInt = A) (b : Int32) (B : Int) (hB : b.toInt = B) : Ct l yX5_rulers (.code yX5_rulers cX5_rulers 3 (some .int)) 9 2 12 [.ref 0, .int a, .int b] (wl mi ml) (QI (fun r mi9 ml9 => Fr [53, 54, 55] mi mi9 ∧ FLc ml ml9 ∧ (ml9 56 0 = 0 ∧ ml9 57 0 = 0) ∧ ((1 ≤ A ∧ A ≤ 5) ∧ (0 ≤ B ∧ B ≤ 40)) ∧ ∃ m S : Nat, A = (m : Int) ∧ B = (S : Int) ∧ CrE V m S 10000 r.toInt mi9 ml9)) (XW (fun En mi9 ml9 => mi = mi9 ∧ ml = ml9 ∧ En = xIA ∧ ¬ ((1 ≤ A ∧ A ≤ 5) ∧ (0 ≤ B ∧ B ≤ 40)))) := by
  refine Ct_of (ini := false) pn_X5 hfl (fun h => nomatch h) (Nat.le_of_ble_eq_true rfl) ?_
  show E l RX5 cX5_rulers 3 (some .int) false [] (rmE 9 2 12) (wl mi ml) (TgM (wl mi ml) 2 12 (QI (fun r mi9 ml9 => Fr [53, 54, 55] mi mi9 ∧ FLc ml ml9 ∧ (ml9 56 0 = 0 ∧ ml9 57 0 = 0) ∧ ((1 ≤ A ∧ A ≤ 5) ∧ (0 ≤ B ∧ B ≤ 40)) ∧ ∃ m S : Nat, A = (m : Int) ∧ B = (S : Int) ∧ CrE V m S 10000 r.toInt mi9 ml9)) (XW (fun En mi9 ml9 => mi = mi9 ∧ ml = ml9 ∧ En = xIA ∧ ¬ ((1 ≤ A ∧ A ≤ 5) ∧ (0 ≤ B ∧ B ≤ 40))))) 0 0 0 [(0, .ref 0), (1, .int a), (2, .int b)] [] (wl mi ml)
  refine E_iload_n 1 dX5_rulers_0 rfl rfl ?_
  refine E_iconst 5 (by decide) dX5_rulers_1 ?_
  refine E_callSx (c_X5_needMarks l hfl mi ml  a A hA 5 5 (show (5 : Int32).toInt = 5 from rfl)) cw_X5_189 (As := [.int a, .int 5]) (st := []) ws_yX5_needMarks rfl ⟨Nat.le_of_ble_eq_true rfl, Nat.le_of_ble_eq_true rfl, Nat.le_of_ble_eq_true rfl, Nat.le_of_ble_eq_true rfl⟩ (Nat.le_of_ble_eq_true rfl) dX5_rulers_2 rfl (Nat.le_of_ble_eq_true rfl) (Nat.le_of_ble_eq_true rfl) (XW.w (by rintro _ _ _ ⟨rfl, rfl, rfl, q⟩; exact ⟨rfl, rfl, rfl, fun z => q z.1⟩)) rfl (kV (fun mi_2 ml_2 h_2 => ?_))
  obtain ⟨rfl, rfl, h_2⟩ := h_2
  refine E_iload_n 2 dX5_rulers_5 rfl rfl ?_
  refine E_iconst 0 (by decide) dX5_rulers_6 ?_
  refine E_bipush 40 (by decide) dX5_rulers_7 ?_
  refine E_callS (c_X5_isWithin l hfl mi ml b B hB 0 0 (show (0 : Int32).toInt = 0 from rfl) 40 40 (show (40 : Int32).toInt = 40 from rfl)) cw_X5_112 (As := [.int b, .int 0, .int 40]) (st := []) ws_yX5_isWithin rfl ⟨Nat.le_of_ble_eq_true rfl, Nat.le_of_ble_eq_true rfl, Nat.le_of_ble_eq_true rfl, Nat.le_of_ble_eq_true rfl⟩ (Nat.le_of_ble_eq_true rfl) dX5_rulers_9 (fun _ _ h => h) rfl (kE ?_)
  refine B_ne 25 dX5_rulers_12 (by decide) (fun c_12 => ?_) (fun c_12 => ?_)
  · skip
    obtain ⟨m, hm⟩ : ∃ m : Nat, A = (m : Int) := ⟨A.toNat, by omega⟩
    obtain ⟨S, hS⟩ : ∃ q : Nat, B = (q : Int) := ⟨B.toNat, by omega⟩
    refine E_aload_n 0 dX5_rulers_25 rfl rfl ?_
    refine E_iload_n 1 dX5_rulers_26 rfl rfl ?_
    refine E_iload_n 2 dX5_rulers_27 rfl rfl ?_
    refine E_sipush 10000 (by decide) dX5_rulers_28 ?_
    refine E_callV (c_X5_countRulers l hfl mi ml V hV hD n hn h10 hz sp hsp hs1 hs10 S 10000 b 10000 (hB.trans (by omega)) (by omega) ((show (10000 : Int32).toInt = 10000 from rfl).trans (by omega)) (by omega) a m (hA.trans (by omega)) (by omega)) cw_X5_201 (As := [.int a, .int b, .int 10000]) (st := []) wi_yX5_countRulers we_yX5_countRulers (ci := 5) (q := (RX5, TX5, 7)) rfl rfl (wl_atO tw_0) rfl ⟨Nat.le_of_ble_eq_true rfl, Nat.le_of_ble_eq_true rfl, Nat.le_of_ble_eq_true rfl, Nat.le_of_ble_eq_true rfl⟩ (Nat.le_of_ble_eq_true rfl) dX5_rulers_31 (fun _ _ h => h) rfl (kI (fun r_31 mi_31 ml_31 h_31 => ?_))
    refine E_iret rfl (Nat.le_of_ble_eq_true rfl) (Nat.le_of_ble_eq_true rfl) dX5_rulers_34 ?_
    exact okQI ⟨h_31.1, h_31.2.1, h_31.2.2.1, ⟨h_2, c_12⟩, m, S, hm, hS, h_31.2.2.2⟩
  · skip
    refine E_throw (cls := "java/lang/IllegalArgumentException") (names := ["java/lang/RuntimeException", "java/lang/Exception"]) (by decide) fitX wcl_X5_62 wz_IllegalArgumentException str_199 atIA otIA rfl ⟨Nat.le_of_ble_eq_true rfl, Nat.le_of_ble_eq_true rfl, Nat.le_of_ble_eq_true rfl, Nat.le_of_ble_eq_true rfl⟩ (Nat.le_of_ble_eq_true rfl) (Nat.le_of_ble_eq_true rfl) dX5_rulers_15 dX5_rulers_18 dX5_rulers_19 dX5_rulers_21 dX5_rulers_24 ?_
    exact okXW ⟨rfl, rfl, rfl, fun z => c_12 z.2⟩
end CL6
