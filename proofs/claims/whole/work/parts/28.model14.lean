section MO14
theorem DgS.L {mi mj : MI} {n nm nt : Nat} {V : Nat → Int32} (h : DgS mi mj n nm nt) (e : mi 62 = V) : (mj 61 14).toInt = ((fitL V n nm nt (2 ^ nm)).length : Int) ∧ lsN mj (fitL V n nm nt (2 ^ nm)) := by subst e; exact h.2.2
theorem SM_d {mi mj : MI} {n nm nt : Nat} {c : Int32} (h : DgS (u2 mi 61 5 c) mj n nm nt) : SM c mi mj :=
  ⟨Fr.trans (F := [61]) (Fr.rfl'.u (by decide)) h.1 (by decide) (by decide), by rw [h.2.1 2 (by decide) (by decide), u2_n (by omega)], by rw [h.2.1 4 (by decide) (by decide), u2_n (by omega)], by rw [h.2.1 5 (by decide) (by decide), u2_s]⟩
theorem WFV_T {V V' : Nat → Int32} {n nt : Nat} {a c h : Int32} (hw : WFV V) (hn : (V 5).toInt = (n : Int)) (hnt : (V 32).toInt = (nt : Int)) (hlt : nt < 16) (hA : 0 ≤ a.toInt ∧ a.toInt ≤ ((2 ^ n - 1 : Nat) : Int)) (hC : 0 ≤ c.toInt ∧ c.toInt ≤ 63) (hH : h = 0 ∨ h = 1) (e0 : ∀ k, k < 33 + 3 * nt → k ≠ 32 → V' k = V k) (e1 : V' (33 + 3 * nt) = a) (e2 : V' (34 + 3 * nt) = c) (e3 : V' (35 + 3 * nt) = h) (e4 : (V' 32).toInt = (nt : Int) + 1) : WFV V' := by
  have b5 := hw.2.1.1
  have b26 := hw.2.1.2.1
  have c5 : V' 5 = V 5 := e0 5 (by omega) (by omega)
  have c26 : V' 26 = V 26 := e0 26 (by omega) (by omega)
  refine ⟨?_, ?_, ?_, ?_, ?_, ?_⟩
  · rw [e0 0 (by omega) (by omega), e0 1 (by omega) (by omega), e0 2 (by omega) (by omega), e0 3 (by omega) (by omega), e0 4 (by omega) (by omega)]
    exact hw.1
  · rw [c5, c26, e4]
    exact ⟨b5, b26, by omega, by omega⟩
  · intro k hk
    rw [c5] at hk
    rw [e0 (6 + 2 * k) (by omega) (by omega), e0 (7 + 2 * k) (by omega) (by omega)]
    exact hw.2.2.1 k hk
  · intro x y hx hy
    rw [c5] at hx hy
    rw [e0 (6 + 2 * x) (by omega) (by omega), e0 (6 + 2 * y) (by omega) (by omega)]
    exact hw.2.2.2.1 x y hx hy
  · intro k hk
    rw [c26] at hk
    rw [c5, e0 (27 + k) (by omega) (by omega)]
    exact hw.2.2.2.2.1 k hk
  · intro t ht
    rw [e4] at ht
    rw [c5]
    rcases Nat.lt_or_ge t nt with q | q
    · rw [e0 (33 + 3 * t) (by omega) (by omega), e0 (34 + 3 * t) (by omega) (by omega), e0 (35 + 3 * t) (by omega) (by omega)]
      exact hw.2.2.2.2.2 t (by omega)
    · have e : t = nt := by omega
      subst e
      rw [e1, e2, e3, show (V 5).toInt.toNat = n by omega]
      exact ⟨⟨hA.1, by have := Nat.two_pow_pos n; omega⟩, hC, hH⟩
/-- the diagnosis with the fewest mixers -/
def bsF (L : List Nat) : Int := L.foldl (fun b s => if b = -1 ∨ popc s < popc b.toNat then (s : Int) else b) (-1)
theorem bsF_add (L : List Nat) (s : Nat) : bsF (L ++ [s]) = if bsF L = -1 ∨ popc s < popc (bsF L).toNat then (s : Int) else bsF L := by unfold bsF; rw [List.foldl_append]; rfl
theorem bsF_or (L : List Nat) : bsF L = -1 ∨ ∃ s, s ∈ L ∧ bsF L = (s : Int) := by
  have h : ∀ (M : List Nat) (b : Int), (M.foldl (fun b s => if b = -1 ∨ popc s < popc b.toNat then (s : Int) else b) b) = b ∨ ∃ s, s ∈ M ∧ (M.foldl (fun b s => if b = -1 ∨ popc s < popc b.toNat then (s : Int) else b) b) = (s : Int) := by
    intro M
    induction M with
    | nil => intro b; exact Or.inl rfl
    | cons s M ih =>
      intro b
      rw [List.foldl_cons]
      rcases ih (if b = -1 ∨ popc s < popc b.toNat then (s : Int) else b) with q | ⟨x, hx, q⟩
      · rw [q]
        split
        · exact Or.inr ⟨s, List.mem_cons_self .., rfl⟩
        · exact Or.inl rfl
      · exact Or.inr ⟨x, List.mem_cons_of_mem _ hx, q⟩
  exact h L (-1)
theorem take_s {L : List Nat} {i s : Nat} (h : L[i]? = some s) : L.take (i + 1) = L.take i ++ [s] := by rw [List.take_add_one, h]; rfl
/-- bad in all diagnoses, or in none -/
noncomputable def ctF (P : Prop) (m : Int32) (L : List Nat) : Int32 := L.foldl (fun w s => w &&& ifp P (nI s) (nI s ^^^ (-1))) m
theorem ctF_add (P : Prop) (m : Int32) (L : List Nat) (s : Nat) : ctF P m (L ++ [s]) = ctF P m L &&& ifp P (nI s) (nI s ^^^ (-1)) := by unfold ctF; rw [List.foldl_append]; rfl
/-- how many diagnoses are heard by h -/
def cntF (L : List Nat) (h : Nat) : Nat := (L.filter (fun s => decide ((s &&& h) ≠ 0))).length
theorem cntF_y {L : List Nat} {h i s : Nat} (hs : L[i]? = some s) (c : (s &&& h) ≠ 0) : cntF (L.take (i + 1)) h = cntF (L.take i) h + 1 := by
  rw [take_s hs, cntF, cntF, List.filter_append, List.length_append]; simp [c]
theorem cntF_n {L : List Nat} {h i s : Nat} (hs : L[i]? = some s) (c : (s &&& h) = 0) : cntF (L.take (i + 1)) h = cntF (L.take i) h + 0 := by
  rw [take_s hs, cntF, cntF, List.filter_append, List.length_append]; simp [c]
theorem cntF_le (L : List Nat) (h : Nat) : cntF L h ≤ L.length := List.length_filter_le _ _
theorem take_le (L : List Nat) (i : Nat) : (L.take i).length ≤ i := by rw [List.length_take]; omega
noncomputable def btW (V : Nat → Int32) (n nm act : Nat) (L : List Nat) (c : Nat) : Nat := if L.length - cntF L (hbS V n act c nm) < cntF L (hbS V n act c nm) then cntF L (hbS V n act c nm) else L.length - cntF L (hbS V n act c nm)
noncomputable def btS (V : Nat → Int32) (n nm act : Nat) (L : List Nat) : Nat → Nat × Nat
  | 0 => (0, 100)
  | c + 1 => if btW V n nm act L c < (btS V n nm act L c).2 then (c, btW V n nm act L c) else btS V n nm act L c
theorem btS_y {V : Nat → Int32} {n nm act c : Nat} {L : List Nat} (h : btW V n nm act L c < (btS V n nm act L c).2) : btS V n nm act L (c + 1) = (c, btW V n nm act L c) := by rw [btS, if_pos h]
theorem btS_n {V : Nat → Int32} {n nm act c : Nat} {L : List Nat} (h : ¬ btW V n nm act L c < (btS V n nm act L c).2) : btS V n nm act L (c + 1) = btS V n nm act L c := by rw [btS, if_neg h]
theorem btS_1 (V : Nat → Int32) (n nm act : Nat) (L : List Nat) : ∀ c, (btS V n nm act L c).1 ≤ c
  | 0 => Nat.le_refl _
  | c + 1 => by
    have ih := btS_1 V n nm act L c
    rw [btS]
    split
    · show c ≤ c + 1
      omega
    · omega
theorem btS_2 (V : Nat → Int32) (n nm act : Nat) (L : List Nat) : ∀ c, (btS V n nm act L c).2 ≤ 100
  | 0 => Nat.le_refl _
  | c + 1 => by
    have ih := btS_2 V n nm act L c
    rw [btS]
    split
    · show btW V n nm act L c ≤ 100
      omega
    · omega
set_option maxHeartbeats 1600000 in
set_option maxRecDepth 100000 in
theorem c_X6_diagnoses (l : Launch) (hfl : l.stackTraces = false) (mi : MI) (ml : MJ) (n : Nat) (hn : (mi 62 5).toInt = (n : Int)) (h10 : n ≤ 10) (hwf : WFV (mi 62)) (nm : Nat) (hnm : (mi 62 26).toInt = (nm : Int)) (hm5 : nm ≤ 5) (nt : Nat) (hnt : (mi 62 32).toInt = (nt : Int)) : Ct l yX6_diagnoses (.code yX6_diagnoses cX6_diagnoses 1 (some .int)) 8 0 0 [.ref 61] (wl mi ml) (QI (fun r mi9 ml9 => ml = ml9 ∧ SM 0 mi mi9 ∧ r.toInt = ((fitL (mi 62) n nm nt (2 ^ nm)).length : Int))) noX := by
  refine Ct_of (ini := false) pn_X6 hfl (fun h => nomatch h) (Nat.le_of_ble_eq_true rfl) ?_
  show E l RX6 cX6_diagnoses 1 (some .int) false [] (rmE 8 0 0) (wl mi ml) (TgM (wl mi ml) 0 0 (QI (fun r mi9 ml9 => ml = ml9 ∧ SM 0 mi mi9 ∧ r.toInt = ((fitL (mi 62) n nm nt (2 ^ nm)).length : Int))) noX) 0 0 0 [(0, .ref 61)] [] (wl mi ml)
  refine E_aload_n 0 dX6_diagnoses_0 rfl rfl ?_
  refine E_iconst 0 (by decide) dX6_diagnoses_1 ?_
  refine pf_X6_43 tw_61 rfl dX6_diagnoses_2 ?_
  refine E_aload_n 0 dX6_diagnoses_5 rfl rfl ?_
  refine E_callV (c_X6_diagnose l hfl (u2 mi 61 5 0) ml n ((congrArg Int32.toInt ((u2_n (by omega)).trans rfl)).trans hn) (by omega) (by rw [show (u2 mi 61 5 0) 62 = mi 62 from (u2_p (by decide))]; exact hwf) nm ((congrArg Int32.toInt ((u2_n (by omega)).trans rfl)).trans hnm) (by omega) nt ((congrArg Int32.toInt ((u2_n (by omega)).trans rfl)).trans hnt)) cw_X6_168 (As := []) (st := []) wi_yX6_diagnose we_yX6_diagnose (ci := 6) (q := (RX6, TX6, 23)) rfl rfl (wl_atO tw_61) rfl ⟨Nat.le_of_ble_eq_true rfl, Nat.le_of_ble_eq_true rfl, Nat.le_of_ble_eq_true rfl, Nat.le_of_ble_eq_true rfl⟩ (Nat.le_of_ble_eq_true rfl) dX6_diagnoses_6 (fun _ _ h => h) rfl (kV (fun mi_6 ml_6 h_6 => ?_))
  obtain ⟨hl9_6, hD_6⟩ := h_6
  subst hl9_6
  have hL_6 := hD_6.L (V := (mi 62)) (u2_p (by decide))
  refine E_aload_n 0 dX6_diagnoses_9 rfl rfl ?_
  refine gf_X6_165 (mi_6 61 14) tw_61 rfl rfl dX6_diagnoses_10 ?_
  refine E_iret rfl (Nat.le_of_ble_eq_true rfl) (Nat.le_of_ble_eq_true rfl) dX6_diagnoses_13 ?_
  exact okQI ⟨rfl, SM_d hD_6, hL_6.1⟩
theorem bs_y1 {L : List Nat} {s : Nat} {x : Int32} (hb : x.toInt = bsF L) (c : x.toInt = -1) (hs : s < 32) : (nI s).toInt = (if bsF L = -1 ∨ popc s < popc (bsF L).toNat then (s : Int) else bsF L) := by
  rw [if_pos (Or.inl (hb.symm.trans c))]; exact tI_nI (by omega)
theorem bs_y2 {L : List Nat} {s k : Nat} {x : Int32} (hb : x.toInt = bsF L) (hx : x.toInt = (k : Int)) (c : popc s < popc k) (hs : s < 32) : (nI s).toInt = (if bsF L = -1 ∨ popc s < popc (bsF L).toNat then (s : Int) else bsF L) := by
  rw [if_pos (Or.inr (by rw [← hb, hx]; exact c))]; exact tI_nI (by omega)
theorem bs_nat {V : Nat → Int32} {n nm nt i : Nat} {x : Int32} (hb : x.toInt = bsF ((fitL V n nm nt (2 ^ nm)).take i)) (hc : x.toInt ≠ -1) (h : 2 ^ nm ≤ 32) : ∃ k : Nat, x.toInt = (k : Int) ∧ k < 1024 := by
  rcases bsF_or ((fitL V n nm nt (2 ^ nm)).take i) with q | ⟨s, hs, q⟩
  · exact absurd (hb.trans q) hc
  · exact ⟨s, hb.trans q, by have := fitL_lt _ _ (List.mem_of_mem_take hs); omega⟩
set_option maxHeartbeats 1600000 in
set_option maxRecDepth 100000 in
theorem c_X6_best (l : Launch) (hfl : l.stackTraces = false) (mi : MI) (ml : MJ) (n : Nat) (hn : (mi 62 5).toInt = (n : Int)) (h10 : n ≤ 10) (hwf : WFV (mi 62)) (nm : Nat) (hnm : (mi 62 26).toInt = (nm : Int)) (hm5 : nm ≤ 5) (nt : Nat) (hnt : (mi 62 32).toInt = (nt : Int)) : Ct l yX6_best (.code yX6_best cX6_best 3 (some .int)) 8 0 0 [.ref 61] (wl mi ml) (QI (fun r mi9 ml9 => ml = ml9 ∧ DgS mi mi9 n nm nt ∧ r.toInt = bsF (fitL (mi 62) n nm nt (2 ^ nm)))) noX := by
  refine Ct_of (ini := false) pn_X6 hfl (fun h => nomatch h) (Nat.le_of_ble_eq_true rfl) ?_
  show E l RX6 cX6_best 3 (some .int) false [] (rmE 8 0 0) (wl mi ml) (TgM (wl mi ml) 0 0 (QI (fun r mi9 ml9 => ml = ml9 ∧ DgS mi mi9 n nm nt ∧ r.toInt = bsF (fitL (mi 62) n nm nt (2 ^ nm)))) noX) 0 0 0 [(0, .ref 61)] [] (wl mi ml)
  have hll := fitL_len (mi 62) n nm nt (2 ^ nm)
  have h32 := p2_5 hm5
  refine E_aload_n 0 dX6_best_0 rfl rfl ?_
  refine E_callV (c_X6_diagnose l hfl mi ml n hn (by omega) hwf nm hnm (by omega) nt hnt) cw_X6_168 (As := []) (st := []) wi_yX6_diagnose we_yX6_diagnose (ci := 6) (q := (RX6, TX6, 23)) rfl rfl (wl_atO tw_61) rfl ⟨Nat.le_of_ble_eq_true rfl, Nat.le_of_ble_eq_true rfl, Nat.le_of_ble_eq_true rfl, Nat.le_of_ble_eq_true rfl⟩ (Nat.le_of_ble_eq_true rfl) dX6_best_1 (fun _ _ h => h) rfl (kV (fun mi_1 ml_1 h_1 => ?_))
  obtain ⟨hl9_1, hD_1⟩ := h_1
  subst hl9_1
  have hL_1 := hD_1.L (V := (mi 62)) rfl
  refine E_iconst (-1) (by decide) dX6_best_4 ?_
  refine E_istore_n [(1, .int (-1)), (0, .ref 61)] dX6_best_5 rfl (by decide) rfl ?_
  refine E_iconst 0 (by decide) dX6_best_6 ?_
  refine E_istore_n [(2, .int 0), (1, .int (-1)), (0, .ref 61)] dX6_best_7 rfl (by decide) rfl ?_
  have J8 : ∀ (Nm : Nat) (xb xi : Int32) (i : Nat), (fitL (mi 62) n nm nt (2 ^ nm)).length - i < Nm → xi.toInt = (i : Int) → i ≤ (fitL (mi 62) n nm nt (2 ^ nm)).length → xb.toInt = bsF ((fitL (mi 62) n nm nt (2 ^ nm)).take i) → E l RX6 cX6_best 3 (some .int) false [] (rmE 8 0 0) (wl mi ml) (TgM (wl mi ml) 0 0 (QI (fun r mi9 ml9 => ml = ml9 ∧ DgS mi mi9 n nm nt ∧ r.toInt = bsF (fitL (mi 62) n nm nt (2 ^ nm)))) noX) 0 0 8 [(0, .ref 61), (1, .int xb), (2, .int xi)] [] (wl mi_1 ml) := by
    intro Nm
    induction Nm with
    | zero => intros; omega
    | succ Nm ih8 =>
      intro xb xi i hN8 hxi hi hb
      refine E_iload_n 2 dX6_best_8 rfl rfl ?_
      refine E_aload_n 0 dX6_best_9 rfl rfl ?_
      refine gf_X6_165 (mi_1 61 14) tw_61 rfl rfl dX6_best_10 ?_
      refine Z_ge (i : Int) (((fitL (mi 62) n nm nt (2 ^ nm)).length : Nat) : Int) hxi hL_1.1 54 dX6_best_13 (by decide) (fun c_13 => ?_) (fun c_13 => ?_)
      · skip
        refine E_iload_n 1 dX6_best_54 rfl rfl ?_
        refine E_iret rfl (Nat.le_of_ble_eq_true rfl) (Nat.le_of_ble_eq_true rfl) dX6_best_55 ?_
        exact okQI ⟨rfl, hD_1, by rw [hb, show i = (fitL (mi 62) n nm nt (2 ^ nm)).length by omega, List.take_length]⟩
      · skip
        obtain ⟨s9, hs9⟩ : ∃ q, (fitL (mi 62) n nm nt (2 ^ nm))[i]? = some q := ⟨_, List.getElem?_eq_getElem (by omega)⟩
        have hv9 := hL_1.2 i s9 hs9
        have hs32 : s9 < 32 := Nat.lt_of_lt_of_le (fitL_lt _ _ (List.mem_of_getElem? hs9)) (p2_5 hm5)
        refine E_iload_n 1 dX6_best_16 rfl rfl ?_
        refine E_iconst (-1) (by decide) dX6_best_17 ?_
        refine Z_eq xb.toInt (-1) rfl (show ((-1) : Int32).toInt = (-1) from rfl) 37 dX6_best_18 (by decide) (fun c_18 => ?_) (fun c_18 => ?_)
        · skip
          refine E_aload_n 0 dX6_best_37 rfl rfl ?_
          refine gf_X6_34 tw_61 rfl dX6_best_38 ?_
          refine E_iload_n 2 dX6_best_41 rfl rfl ?_
          refine S_iald i (nI s9) tw_70 hxi (by omega) hv9 dX6_best_42 ?_
          refine E_goto 47 dX6_best_43 (by decide) ?_
          refine E_istore_n [(1, .int (nI s9)), (0, .ref 61), (2, .int xi)] dX6_best_47 rfl (by decide) rfl ?_
          refine E_iinc 2 (xi + 1) [(2, .int (xi + 1)), (1, .int (nI s9)), (0, .ref 61)] dX6_best_48 rfl rfl (by decide) rfl ?_
          refine E_goto 8 dX6_best_51 (by decide) ?_
          refine E_sub [2, 1, 0] rfl ?_
          exact ih8 (nI s9) (xi + 1) (i + 1) (by omega) ((tI_add hxi (show (1 : Int32).toInt = 1 from rfl) (by omega)).trans (by omega)) (by omega) (by rw [take_s hs9, bsF_add]; first | exact bs_y1 hb c_18 (by omega) | exact bs_y2 hb hx9 (by omega) (by omega))
        · skip
          refine E_aload_n 0 dX6_best_21 rfl rfl ?_
          refine gf_X6_34 tw_61 rfl dX6_best_22 ?_
          refine E_iload_n 2 dX6_best_25 rfl rfl ?_
          refine S_iald i (nI s9) tw_70 hxi (by omega) hv9 dX6_best_26 ?_
          refine E_callS (c_X6_bits l hfl mi_1 ml (nI s9) s9 ((tI_nI (by omega)).trans (by omega)) (by omega)) cw_X6_135 (As := [.int (nI s9)]) (st := []) ws_yX6_bits rfl ⟨Nat.le_of_ble_eq_true rfl, Nat.le_of_ble_eq_true rfl, Nat.le_of_ble_eq_true rfl, Nat.le_of_ble_eq_true rfl⟩ (Nat.le_of_ble_eq_true rfl) dX6_best_27 (fun _ _ h => h) rfl (kE ?_)
          obtain ⟨x9, hx9, hx32⟩ : ∃ x : Nat, xb.toInt = (x : Int) ∧ x < 1024 := bs_nat hb c_18 (p2_5 hm5)
          have hpp := popc_le s9
          have hpx := popc_le x9
          refine E_iload_n 1 dX6_best_30 rfl rfl ?_
          refine E_callS (c_X6_bits l hfl mi_1 ml xb x9 hx9 (by omega)) cw_X6_135 (As := [.int xb]) (st := [.int (nI (popc s9))]) ws_yX6_bits rfl ⟨Nat.le_of_ble_eq_true rfl, Nat.le_of_ble_eq_true rfl, Nat.le_of_ble_eq_true rfl, Nat.le_of_ble_eq_true rfl⟩ (Nat.le_of_ble_eq_true rfl) dX6_best_31 (fun _ _ h => h) rfl (kE ?_)
          refine Z_ge ((popc s9 : Nat) : Int) ((popc x9 : Nat) : Int) (tI_nI (by have := popc_le s9; omega)) (tI_nI (by have := popc_le x9; omega)) 46 dX6_best_34 (by decide) (fun c_34 => ?_) (fun c_34 => ?_)
          · skip
            refine E_iload_n 1 dX6_best_46 rfl rfl ?_
            refine E_istore_n [(1, .int xb), (0, .ref 61), (2, .int xi)] dX6_best_47 rfl (by decide) rfl ?_
            refine E_iinc 2 (xi + 1) [(2, .int (xi + 1)), (1, .int xb), (0, .ref 61)] dX6_best_48 rfl rfl (by decide) rfl ?_
            refine E_goto 8 dX6_best_51 (by decide) ?_
            refine E_sub [2, 1, 0] rfl ?_
            exact ih8 xb (xi + 1) (i + 1) (by omega) ((tI_add hxi (show (1 : Int32).toInt = 1 from rfl) (by omega)).trans (by omega)) (by omega) (by rw [take_s hs9, bsF_add]; exact hb.trans (if_neg (by rw [← hb]; intro q; rcases q with q | q; exact c_18 q; rw [hx9] at q; simp only [Int.toNat_natCast] at q; omega)).symm)
          · skip
            refine E_aload_n 0 dX6_best_37 rfl rfl ?_
            refine gf_X6_34 tw_61 rfl dX6_best_38 ?_
            refine E_iload_n 2 dX6_best_41 rfl rfl ?_
            refine S_iald i (nI s9) tw_70 hxi (by omega) hv9 dX6_best_42 ?_
            refine E_goto 47 dX6_best_43 (by decide) ?_
            refine E_istore_n [(1, .int (nI s9)), (0, .ref 61), (2, .int xi)] dX6_best_47 rfl (by decide) rfl ?_
            refine E_iinc 2 (xi + 1) [(2, .int (xi + 1)), (1, .int (nI s9)), (0, .ref 61)] dX6_best_48 rfl rfl (by decide) rfl ?_
            refine E_goto 8 dX6_best_51 (by decide) ?_
            refine E_sub [2, 1, 0] rfl ?_
            exact ih8 (nI s9) (xi + 1) (i + 1) (by omega) ((tI_add hxi (show (1 : Int32).toInt = 1 from rfl) (by omega)).trans (by omega)) (by omega) (by rw [take_s hs9, bsF_add]; first | exact bs_y1 hb c_18 (by omega) | exact bs_y2 hb hx9 (by omega) (by omega))
  refine E_sub [2, 1, 0] rfl ?_
  exact J8 _ (-1) 0 0 (Nat.lt_succ_self _) (show (0 : Int32).toInt = 0 from rfl) (Nat.zero_le _) rfl
set_option maxHeartbeats 1600000 in
set_option maxRecDepth 100000 in
theorem c_X6_diagnosis (l : Launch) (hfl : l.stackTraces = false) (mi : MI) (ml : MJ) (n : Nat) (hn : (mi 62 5).toInt = (n : Int)) (h10 : n ≤ 10) (hwf : WFV (mi 62)) (nm : Nat) (hnm : (mi 62 26).toInt = (nm : Int)) (hm5 : nm ≤ 5) (nt : Nat) (hnt : (mi 62 32).toInt = (nt : Int)) : Ct l yX6_diagnosis (.code yX6_diagnosis cX6_diagnosis 1 (some .int)) 9 0 0 [.ref 61] (wl mi ml) (QI (fun r mi9 ml9 => ml = ml9 ∧ SM 0 mi mi9 ∧ r.toInt = bsF (fitL (mi 62) n nm nt (2 ^ nm)))) noX := by
  refine Ct_of (ini := false) pn_X6 hfl (fun h => nomatch h) (Nat.le_of_ble_eq_true rfl) ?_
  show E l RX6 cX6_diagnosis 1 (some .int) false [] (rmE 9 0 0) (wl mi ml) (TgM (wl mi ml) 0 0 (QI (fun r mi9 ml9 => ml = ml9 ∧ SM 0 mi mi9 ∧ r.toInt = bsF (fitL (mi 62) n nm nt (2 ^ nm)))) noX) 0 0 0 [(0, .ref 61)] [] (wl mi ml)
  refine E_aload_n 0 dX6_diagnosis_0 rfl rfl ?_
  refine E_iconst 0 (by decide) dX6_diagnosis_1 ?_
  refine pf_X6_43 tw_61 rfl dX6_diagnosis_2 ?_
  refine E_aload_n 0 dX6_diagnosis_5 rfl rfl ?_
  refine E_callV (c_X6_best l hfl (u2 mi 61 5 0) ml n ((congrArg Int32.toInt ((u2_n (by omega)).trans rfl)).trans hn) (by omega) (by rw [show (u2 mi 61 5 0) 62 = mi 62 from (u2_p (by decide))]; exact hwf) nm ((congrArg Int32.toInt ((u2_n (by omega)).trans rfl)).trans hnm) (by omega) nt ((congrArg Int32.toInt ((u2_n (by omega)).trans rfl)).trans hnt)) cw_X6_171 (As := []) (st := []) wi_yX6_best we_yX6_best (ci := 6) (q := (RX6, TX6, 23)) rfl rfl (wl_atO tw_61) rfl ⟨Nat.le_of_ble_eq_true rfl, Nat.le_of_ble_eq_true rfl, Nat.le_of_ble_eq_true rfl, Nat.le_of_ble_eq_true rfl⟩ (Nat.le_of_ble_eq_true rfl) dX6_diagnosis_6 (fun _ _ h => h) rfl (kI (fun r_6 mi_6 ml_6 h_6 => ?_))
  obtain ⟨hl9_6, hD_6, hb_6⟩ := h_6
  subst hl9_6
  rw [show (u2 mi 61 5 0) 62 = mi 62 from (u2_p (by decide))] at hb_6
  refine E_iret rfl (Nat.le_of_ble_eq_true rfl) (Nat.le_of_ble_eq_true rfl) dX6_diagnosis_9 ?_
  exact okQI ⟨rfl, SM_d hD_6, hb_6⟩
set_option maxHeartbeats 1600000 in
set_option maxRecDepth 100000 in
theorem c_X6_certain (l : Launch) (hfl : l.stackTraces = false) (mi : MI) (ml : MJ) (n : Nat) (hn : (mi 62 5).toInt = (n : Int)) (h10 : n ≤ 10) (hwf : WFV (mi 62)) (nm : Nat) (hnm : (mi 62 26).toInt = (nm : Int)) (hm5 : nm ≤ 5) (nt : Nat) (hnt : (mi 62 32).toInt = (nt : Int)) (P : Prop) : Ct l yX6_certain (.code yX6_certain cX6_certain 4 (some .int)) 8 0 0 [.ref 61, .int (bI (P))] (wl mi ml) (QI (fun r mi9 ml9 => ml = ml9 ∧ SM 0 mi mi9 ∧ r = ctF P (nI (2 ^ nm - 1)) (fitL (mi 62) n nm nt (2 ^ nm)))) noX := by
  refine Ct_of (ini := false) pn_X6 hfl (fun h => nomatch h) (Nat.le_of_ble_eq_true rfl) ?_
  show E l RX6 cX6_certain 4 (some .int) false [] (rmE 8 0 0) (wl mi ml) (TgM (wl mi ml) 0 0 (QI (fun r mi9 ml9 => ml = ml9 ∧ SM 0 mi mi9 ∧ r = ctF P (nI (2 ^ nm - 1)) (fitL (mi 62) n nm nt (2 ^ nm)))) noX) 0 0 0 [(0, .ref 61), (1, .int (bI (P)))] [] (wl mi ml)
  have hll := fitL_len (mi 62) n nm nt (2 ^ nm)
  have h32 := p2_5 hm5
  refine E_aload_n 0 dX6_certain_0 rfl rfl ?_
  refine E_iconst 0 (by decide) dX6_certain_1 ?_
  refine pf_X6_43 tw_61 rfl dX6_certain_2 ?_
  refine E_aload_n 0 dX6_certain_5 rfl rfl ?_
  refine E_callV (c_X6_diagnose l hfl (u2 mi 61 5 0) ml n ((congrArg Int32.toInt ((u2_n (by omega)).trans rfl)).trans hn) (by omega) (by rw [show (u2 mi 61 5 0) 62 = mi 62 from (u2_p (by decide))]; exact hwf) nm ((congrArg Int32.toInt ((u2_n (by omega)).trans rfl)).trans hnm) (by omega) nt ((congrArg Int32.toInt ((u2_n (by omega)).trans rfl)).trans hnt)) cw_X6_168 (As := []) (st := []) wi_yX6_diagnose we_yX6_diagnose (ci := 6) (q := (RX6, TX6, 23)) rfl rfl (wl_atO tw_61) rfl ⟨Nat.le_of_ble_eq_true rfl, Nat.le_of_ble_eq_true rfl, Nat.le_of_ble_eq_true rfl, Nat.le_of_ble_eq_true rfl⟩ (Nat.le_of_ble_eq_true rfl) dX6_certain_6 (fun _ _ h => h) rfl (kV (fun mi_6 ml_6 h_6 => ?_))
  obtain ⟨hl9_6, hD_6⟩ := h_6
  subst hl9_6
  have hL_6 := hD_6.L (V := (mi 62)) (u2_p (by decide))
  refine E_iconst 1 (by decide) dX6_certain_9 ?_
  refine E_aload_n 0 dX6_certain_10 rfl rfl ?_
  refine gf_X6_7 tw_61 rfl dX6_certain_11 ?_
  refine E_bipush 26 (by decide) dX6_certain_14 ?_
  refine S_iald 26 (mi 62 26) tw_62 rfl (by decide) ((congrFun (hD_6.1 62 (by decide)) 26).trans ((u2_n (by omega)).trans rfl)) dX6_certain_16 ?_
  refine E_ishl dX6_certain_17 ?_
  refine E_iconst 1 (by decide) dX6_certain_18 ?_
  refine E_isub dX6_certain_19 ?_
  rw [show (((1 : Int32) <<< ((mi 62 26) &&& 31)) - 1) = (nI (2 ^ nm - 1)) from (pow_nI hnm (by omega))]
  refine E_istore_n [(2, .int (nI (2 ^ nm - 1))), (0, .ref 61), (1, .int (bI (P)))] dX6_certain_20 rfl (by decide) rfl ?_
  refine E_iconst 0 (by decide) dX6_certain_21 ?_
  refine E_istore_n [(3, .int 0), (2, .int (nI (2 ^ nm - 1))), (0, .ref 61), (1, .int (bI (P)))] dX6_certain_22 rfl (by decide) rfl ?_
  have J23 : ∀ (Nm : Nat) (xw xi : Int32) (i : Nat), (fitL (mi 62) n nm nt (2 ^ nm)).length - i < Nm → xi.toInt = (i : Int) → i ≤ (fitL (mi 62) n nm nt (2 ^ nm)).length → xw = ctF P (nI (2 ^ nm - 1)) ((fitL (mi 62) n nm nt (2 ^ nm)).take i) → E l RX6 cX6_certain 4 (some .int) false [] (rmE 8 0 0) (wl mi ml) (TgM (wl mi ml) 0 0 (QI (fun r mi9 ml9 => ml = ml9 ∧ SM 0 mi mi9 ∧ r = ctF P (nI (2 ^ nm - 1)) (fitL (mi 62) n nm nt (2 ^ nm)))) noX) 0 0 23 [(0, .ref 61), (1, .int (bI (P))), (2, .int xw), (3, .int xi)] [] (wl mi_6 ml) := by
    intro Nm
    induction Nm with
    | zero => intros; omega
    | succ Nm ih23 =>
      intro xw xi i hN23 hxi hi hw9
      refine E_iload_n 3 dX6_certain_23 rfl rfl ?_
      refine E_aload_n 0 dX6_certain_24 rfl rfl ?_
      refine gf_X6_165 (mi_6 61 14) tw_61 rfl rfl dX6_certain_25 ?_
      refine Z_ge (i : Int) (((fitL (mi 62) n nm nt (2 ^ nm)).length : Nat) : Int) hxi hL_6.1 61 dX6_certain_28 (by decide) (fun c_28 => ?_) (fun c_28 => ?_)
      · skip
        refine E_iload_n 2 dX6_certain_61 rfl rfl ?_
        refine E_iret rfl (Nat.le_of_ble_eq_true rfl) (Nat.le_of_ble_eq_true rfl) dX6_certain_62 ?_
        exact okQI ⟨rfl, SM_d hD_6, by rw [hw9, show i = (fitL (mi 62) n nm nt (2 ^ nm)).length by omega, List.take_length]⟩
      · skip
        obtain ⟨s9, hs9⟩ : ∃ q, (fitL (mi 62) n nm nt (2 ^ nm))[i]? = some q := ⟨_, List.getElem?_eq_getElem (by omega)⟩
        have hv9 := hL_6.2 i s9 hs9
        have hs32 : s9 < 32 := Nat.lt_of_lt_of_le (fitL_lt _ _ (List.mem_of_getElem? hs9)) (p2_5 hm5)
        refine E_iload_n 2 dX6_certain_31 rfl rfl ?_
        refine E_iload_n 1 dX6_certain_32 rfl rfl ?_
        refine B_eq 45 dX6_certain_33 (by decide) (fun c_33 => ?_) (fun c_33 => ?_)
        · skip
          refine E_aload_n 0 dX6_certain_45 rfl rfl ?_
          refine gf_X6_34 tw_61 rfl dX6_certain_46 ?_
          refine E_iload_n 3 dX6_certain_49 rfl rfl ?_
          refine S_iald i (nI s9) tw_70 hxi (by omega) hv9 dX6_certain_50 ?_
          refine E_iconst (-1) (by decide) dX6_certain_51 ?_
          refine E_ixor dX6_certain_52 ?_
          refine E_iand dX6_certain_53 ?_
          refine E_istore_n [(2, .int (xw &&& ((nI s9) ^^^ ((-1) : Int32)))), (0, .ref 61), (1, .int (bI (P))), (3, .int xi)] dX6_certain_54 rfl (by decide) rfl ?_
          refine E_iinc 3 (xi + 1) [(3, .int (xi + 1)), (2, .int (xw &&& ((nI s9) ^^^ ((-1) : Int32)))), (0, .ref 61), (1, .int (bI (P)))] dX6_certain_55 rfl rfl (by decide) rfl ?_
          refine E_goto 23 dX6_certain_58 (by decide) ?_
          refine E_sub [2, 3, 1, 0] rfl ?_
          exact ih23 (xw &&& ((nI s9) ^^^ ((-1) : Int32))) (xi + 1) (i + 1) (by omega) ((tI_add hxi (show (1 : Int32).toInt = 1 from rfl) (by omega)).trans (by omega)) (by omega) (by rw [hw9, take_s hs9, ctF_add, ifp_f c_33])
        · skip
          refine E_aload_n 0 dX6_certain_36 rfl rfl ?_
          refine gf_X6_34 tw_61 rfl dX6_certain_37 ?_
          refine E_iload_n 3 dX6_certain_40 rfl rfl ?_
          refine S_iald i (nI s9) tw_70 hxi (by omega) hv9 dX6_certain_41 ?_
          refine E_goto 53 dX6_certain_42 (by decide) ?_
          refine E_iand dX6_certain_53 ?_
          refine E_istore_n [(2, .int (xw &&& (nI s9))), (0, .ref 61), (1, .int (bI (P))), (3, .int xi)] dX6_certain_54 rfl (by decide) rfl ?_
          refine E_iinc 3 (xi + 1) [(3, .int (xi + 1)), (2, .int (xw &&& (nI s9))), (0, .ref 61), (1, .int (bI (P)))] dX6_certain_55 rfl rfl (by decide) rfl ?_
          refine E_goto 23 dX6_certain_58 (by decide) ?_
          refine E_sub [2, 3, 1, 0] rfl ?_
          exact ih23 (xw &&& (nI s9)) (xi + 1) (i + 1) (by omega) ((tI_add hxi (show (1 : Int32).toInt = 1 from rfl) (by omega)).trans (by omega)) (by omega) (by rw [hw9, take_s hs9, ctF_add, ifp_t c_33])
  refine E_sub [2, 3, 1, 0] rfl ?_
  exact J23 _ (nI (2 ^ nm - 1)) 0 0 (Nat.lt_succ_self _) (show (0 : Int32).toInt = 0 from rfl) (Nat.zero_le _) rfl
end MO14
