section LW1
theorem lk_13 : Wd (.classLink RL 13 xIA) := ⟨List.mem_of_getElem? (i := 549) (by decide +kernel), rfl⟩
theorem lk_15 : Wd (.classLink RL 15 xIS) := ⟨List.mem_of_getElem? (i := 550) (by decide +kernel), rfl⟩
theorem lk_21 : Wd (.classLink RL 21 xIO) := ⟨List.mem_of_getElem? (i := 650) (by decide +kernel), rfl⟩
theorem ck_xIA : Wd (.castable xIA xIA) := ⟨List.mem_of_getElem? (i := 560) (by decide +kernel), rfl⟩
theorem ck_xIS : Wd (.castable xIS xIS) := ⟨List.mem_of_getElem? (i := 632) (by decide +kernel), rfl⟩
theorem ck_xIO : Wd (.castable xIO xIO) := ⟨List.mem_of_getElem? (i := 662) (by decide +kernel), rfl⟩
/-- how a helper ends: 0 and the answer in out, or the throw's number -/
def HQ (PN : Int32 → MI → MJ → Prop) (PX : String → MI → MJ → Prop) (cd : String → Int32) : Option Value → AW → Prop := fun rv w => ∃ (r : Int32) (mi : MI) (ml : MJ), rv = some (.int r) ∧ w = wl mi ml ∧ ((r = 0 ∧ ∃ (v : Int32) (mk : MJ), PN v mi mk ∧ u2 mk 73 0 v.toInt64 = ml) ∨ ∃ En, PX En mi ml ∧ r = cd En)
def HJ (PN : Int64 → MI → MJ → Prop) (PX : String → MI → MJ → Prop) (cd : String → Int32) : Option Value → AW → Prop := fun rv w => ∃ (r : Int32) (mi : MI) (ml : MJ), rv = some (.int r) ∧ w = wl mi ml ∧ ((r = 0 ∧ ∃ (v : Int64) (mk : MJ), PN v mi mk ∧ u2 mk 73 0 v = ml) ∨ ∃ En, PX En mi ml ∧ r = cd En)
theorem okHQ {PN : Int32 → MI → MJ → Prop} {PX : String → MI → MJ → Prop} {cd : String → Int32} {v : Int32} {mi : MI} {mk : MJ} (h : PN v mi mk) : HQ PN PX cd (some (.int 0)) (wl mi (u2 mk 73 0 v.toInt64)) := ⟨0, mi, _, rfl, rfl, Or.inl ⟨rfl, v, mk, h, rfl⟩⟩
theorem okHJ {PN : Int64 → MI → MJ → Prop} {PX : String → MI → MJ → Prop} {cd : String → Int32} {v : Int64} {mi : MI} {mk : MJ} (h : PN v mi mk) : HJ PN PX cd (some (.int 0)) (wl mi (u2 mk 73 0 v)) := ⟨0, mi, _, rfl, rfl, Or.inl ⟨rfl, v, mk, h, rfl⟩⟩
theorem xXQ {PN : Int32 → MI → MJ → Prop} {PX : String → MI → MJ → Prop} {cd : String → Int32} {hk : String → Int32 → Prop} (h : ∀ En mi ml, PX En mi ml → hk En (cd En)) : ∀ En w, XW PX En w → ∃ v, hk En v ∧ HQ PN PX cd (some (.int v)) w := by
  intro En w hx
  obtain ⟨mi, ml, e, q⟩ := hx
  exact ⟨cd En, h En mi ml q, cd En, mi, ml, rfl, e, Or.inr ⟨En, q, rfl⟩⟩
theorem xXJ {PN : Int64 → MI → MJ → Prop} {PX : String → MI → MJ → Prop} {cd : String → Int32} {hk : String → Int32 → Prop} (h : ∀ En mi ml, PX En mi ml → hk En (cd En)) : ∀ En w, XW PX En w → ∃ v, hk En v ∧ HJ PN PX cd (some (.int v)) w := by
  intro En w hx
  obtain ⟨mi, ml, e, q⟩ := hx
  exact ⟨cd En, h En mi ml q, cd En, mi, ml, rfl, e, Or.inr ⟨En, q, rfl⟩⟩
/-- the numbers of the throws -/
def cd1 : String → Int32 := fun _ => 1
def cdA : String → Int32 := fun En => if En = xIA then 1 else 2
def cdO : String → Int32 := fun En => if En = xIO then 1 else 2
set_option maxRecDepth 100000 in
theorem h_L_addCarrier (l : Launch) (hfl : l.stackTraces = false) (mi : MI) (ml : MJ) (V : Nat → Int32) (hV : WFV V) (hD : DR 1 mi V) (n : Nat) (hn : (V 5).toInt = (n : Int)) (h10 : n ≤ 10) (p sz : Nat) (hp : (mi 17 1).toInt = (p : Int)) (hp4 : p < 4) (hsz : (mi 17 2).toInt = (sz : Int)) (hs4 : sz ≤ 4) (c v : Int32) (C L : Int) (hC : c.toInt = C) (hL : v.toInt = L) : CtH l yL_addCarrier (.codeWith yL_addCarrier cL_addCarrier 5 (some .int) [((0 : Nat), (10 : Nat), (13 : Nat), (13 : Nat)), ((0 : Nat), (10 : Nat), (17 : Nat), (15 : Nat))]) 4 2 12 [.ref 0, .int c, .int v, .ref 73] (wl mi ml) (HQ (fun r mi9 ml9 => ml = ml9 ∧ ((0 ≤ C ∧ C < 64) ∧ (0 ≤ L ∧ L ≤ 60) ∧ ¬ tkV V n (-1) c) ∧ n < 10 ∧ r.toInt = (n : Int) ∧ ∃ mk, PUS p sz mi mk ∧ u2 (u2 (u2 (u2 mk 1 5 (V 5 + 1)) 2 n c) 3 n v) 1 10 0 = mi9) (fun En mi9 ml9 => mi = mi9 ∧ ml = ml9 ∧ ((En = xIA ∧ ¬ ((0 ≤ C ∧ C < 64) ∧ (0 ≤ L ∧ L ≤ 60) ∧ ¬ tkV V n (-1) c)) ∨ (En = xIS ∧ ((0 ≤ C ∧ C < 64) ∧ (0 ≤ L ∧ L ≤ 60) ∧ ¬ tkV V n (-1) c) ∧ ¬ n < 10))) cdA) noX := by
  refine CtH_of pn_L hfl (Nat.le_of_ble_eq_true rfl) ?_
  show EZ (fun s _ => Nc2 s) l RL cL_addCarrier 5 (some .int) false (tableOf [((0 : Nat), (10 : Nat), (13 : Nat), (13 : Nat)), ((0 : Nat), (10 : Nat), (17 : Nat), (15 : Nat))]) (rmE 4 2 12) (wl mi ml) (TgM (wl mi ml) 2 12 (HQ (fun r mi9 ml9 => ml = ml9 ∧ ((0 ≤ C ∧ C < 64) ∧ (0 ≤ L ∧ L ≤ 60) ∧ ¬ tkV V n (-1) c) ∧ n < 10 ∧ r.toInt = (n : Int) ∧ ∃ mk, PUS p sz mi mk ∧ u2 (u2 (u2 (u2 mk 1 5 (V 5 + 1)) 2 n c) 3 n v) 1 10 0 = mi9) (fun En mi9 ml9 => mi = mi9 ∧ ml = ml9 ∧ ((En = xIA ∧ ¬ ((0 ≤ C ∧ C < 64) ∧ (0 ≤ L ∧ L ≤ 60) ∧ ¬ tkV V n (-1) c)) ∨ (En = xIS ∧ ((0 ≤ C ∧ C < 64) ∧ (0 ≤ L ∧ L ≤ 60) ∧ ¬ tkV V n (-1) c) ∧ ¬ n < 10))) cdA) noX) 0 0 0 [(0, .ref 0), (1, .int c), (2, .int v), (3, .ref 73)] [] (wl mi ml)
  refine EZ_aload_n 3 dL_addCarrier_0 rfl rfl ?_
  refine EZ_iconst 0 (by decide) dL_addCarrier_1 ?_
  refine EZ_aload_n 0 dL_addCarrier_2 rfl rfl ?_
  refine EZ_iload_n 1 dL_addCarrier_3 rfl rfl ?_
  refine EZ_iload_n 2 dL_addCarrier_4 rfl rfl ?_
  refine EZ_callVH (c_X5_addCarrier l hfl mi ml V hV hD n hn h10 p sz hp hp4 hsz hs4 c v C L hC hL) cw_L_7 (As := [.int c, .int v]) (st := [.int 0, .ref 73]) wi_yX5_addCarrier we_yX5_addCarrier (ci := 5) (q := (RX5, TX5, 7)) rfl rfl (wl_atO tw_0) rfl ⟨Nat.le_of_ble_eq_true rfl, Nat.le_of_ble_eq_true rfl, Nat.le_of_ble_eq_true rfl, Nat.le_of_ble_eq_true rfl⟩ (Nat.le_of_ble_eq_true rfl) dL_addCarrier_5 rfl (Nat.le_of_ble_eq_true rfl) (Nat.le_of_ble_eq_true rfl) (xXQ (fun En mi ml h => ?_)) rfl (zkI (fun r9 mi9 ml9 h9 => ?_))
  · have hEn : En = xIA ∨ En = xIS := by
      have h9 := h.2.2
      first | exact h9.elim (fun q => Or.inl q.1) (fun q => Or.inr q.1) | exact h9.elim (fun q => Or.inr q.1) (fun q => Or.inl q.1)
    rcases hEn with e | e
    · subst e
      exact (show HOK RL _ _ _ _ _ 1 from ⟨[], ⟨0, 10, 13, 13⟩, [⟨0, 10, 17, 15⟩], rfl, (fun z hz => by cases hz), rfl, (by decide : (13 : Nat) ≠ 0), lk_13, ck_xIA, 4, 2, 1, by decide, Or.inl ⟨dL_addCarrier_13, rfl⟩, dL_addCarrier_15, by decide, dL_addCarrier_16⟩)
    · subst e
      exact (show HOK RL _ _ _ _ _ 2 from ⟨[⟨0, 10, 13, 13⟩], ⟨0, 10, 17, 15⟩, [], rfl, (fun z hz => by rw [List.mem_singleton.mp hz]; exact Or.inr ⟨(by decide : (13 : Nat) ≠ 0), _, lk_13, fun s hs => hs.1⟩), rfl, (by decide : (15 : Nat) ≠ 0), lk_15, ck_xIS, 4, 2, 2, by decide, Or.inl ⟨dL_addCarrier_17, rfl⟩, dL_addCarrier_19, by decide, dL_addCarrier_20⟩)
  refine EZ_i2l dL_addCarrier_8 ?_
  refine SZ_last 0 tw_73 rfl (by decide) dL_addCarrier_9 ?_
  refine EZ_goto 21 dL_addCarrier_10 (by decide) ?_
  refine EZ_iconst 0 (by decide) dL_addCarrier_21 ?_
  exact EZ_iret rfl (Nat.le_of_ble_eq_true rfl) (Nat.le_of_ble_eq_true rfl) dL_addCarrier_22 (okHQ h9)
set_option maxRecDepth 100000 in
theorem h_L_moveCarrier (l : Launch) (hfl : l.stackTraces = false) (mi : MI) (ml : MJ) (V : Nat → Int32) (hV : WFV V) (hD : DR 1 mi V) (n : Nat) (hn : (V 5).toInt = (n : Int)) (h10 : n ≤ 10) (p sz : Nat) (hp : (mi 17 1).toInt = (p : Int)) (hp4 : p < 4) (hsz : (mi 17 2).toInt = (sz : Int)) (hs4 : sz ≤ 4) (q : Int32) (B : Int) (hB : q.toInt = B) (c v : Int32) (C L : Int) (hC : c.toInt = C) (hL : v.toInt = L) : CtH l yL_moveCarrier (.codeWith yL_moveCarrier cL_moveCarrier 6 (some .int) [((0 : Nat), (12 : Nat), (15 : Nat), (21 : Nat)), ((0 : Nat), (12 : Nat), (19 : Nat), (13 : Nat))]) 4 3 18 [.ref 0, .int q, .int c, .int v, .ref 73] (wl mi ml) (HQ (fun r mi9 ml9 => ml = ml9 ∧ (0 ≤ B ∧ B < (n : Int)) ∧ ((0 ≤ C ∧ C < 64) ∧ (0 ≤ L ∧ L ≤ 60) ∧ ¬ tkV V n B c) ∧ ∃ (b : Nat) (mk : MI), b < n ∧ B = (b : Int) ∧ r = V (6 + 2 * b) ∧ PUS p sz mi mk ∧ u2 (u2 (u2 mk 2 b c) 3 b v) 1 10 0 = mi9) (fun En mi9 ml9 => mi = mi9 ∧ ml = ml9 ∧ ((En = xIO ∧ ¬ (0 ≤ B ∧ B < (n : Int))) ∨ (En = xIA ∧ (0 ≤ B ∧ B < (n : Int)) ∧ ¬ ((0 ≤ C ∧ C < 64) ∧ (0 ≤ L ∧ L ≤ 60) ∧ ¬ tkV V n B c)))) cdO) noX := by
  refine CtH_of pn_L hfl (Nat.le_of_ble_eq_true rfl) ?_
  show EZ (fun s _ => Nc2 s) l RL cL_moveCarrier 6 (some .int) false (tableOf [((0 : Nat), (12 : Nat), (15 : Nat), (21 : Nat)), ((0 : Nat), (12 : Nat), (19 : Nat), (13 : Nat))]) (rmE 4 3 18) (wl mi ml) (TgM (wl mi ml) 3 18 (HQ (fun r mi9 ml9 => ml = ml9 ∧ (0 ≤ B ∧ B < (n : Int)) ∧ ((0 ≤ C ∧ C < 64) ∧ (0 ≤ L ∧ L ≤ 60) ∧ ¬ tkV V n B c) ∧ ∃ (b : Nat) (mk : MI), b < n ∧ B = (b : Int) ∧ r = V (6 + 2 * b) ∧ PUS p sz mi mk ∧ u2 (u2 (u2 mk 2 b c) 3 b v) 1 10 0 = mi9) (fun En mi9 ml9 => mi = mi9 ∧ ml = ml9 ∧ ((En = xIO ∧ ¬ (0 ≤ B ∧ B < (n : Int))) ∨ (En = xIA ∧ (0 ≤ B ∧ B < (n : Int)) ∧ ¬ ((0 ≤ C ∧ C < 64) ∧ (0 ≤ L ∧ L ≤ 60) ∧ ¬ tkV V n B c)))) cdO) noX) 0 0 0 [(0, .ref 0), (1, .int q), (2, .int c), (3, .int v), (4, .ref 73)] [] (wl mi ml)
  refine EZ_aload 4 dL_moveCarrier_0 rfl ?_
  refine EZ_iconst 0 (by decide) dL_moveCarrier_2 ?_
  refine EZ_aload_n 0 dL_moveCarrier_3 rfl rfl ?_
  refine EZ_iload_n 1 dL_moveCarrier_4 rfl rfl ?_
  refine EZ_iload_n 2 dL_moveCarrier_5 rfl rfl ?_
  refine EZ_iload_n 3 dL_moveCarrier_6 rfl rfl ?_
  refine EZ_callVH (c_X5_moveCarrier l hfl mi ml V hV hD n hn h10 p sz hp hp4 hsz hs4 q B hB c v C L hC hL) cw_L_17 (As := [.int q, .int c, .int v]) (st := [.int 0, .ref 73]) wi_yX5_moveCarrier we_yX5_moveCarrier (ci := 5) (q := (RX5, TX5, 7)) rfl rfl (wl_atO tw_0) rfl ⟨Nat.le_of_ble_eq_true rfl, Nat.le_of_ble_eq_true rfl, Nat.le_of_ble_eq_true rfl, Nat.le_of_ble_eq_true rfl⟩ (Nat.le_of_ble_eq_true rfl) dL_moveCarrier_7 rfl (Nat.le_of_ble_eq_true rfl) (Nat.le_of_ble_eq_true rfl) (xXQ (fun En mi ml h => ?_)) rfl (zkI (fun r9 mi9 ml9 h9 => ?_))
  · have hEn : En = xIO ∨ En = xIA := by
      have h9 := h.2.2
      first | exact h9.elim (fun q => Or.inl q.1) (fun q => Or.inr q.1) | exact h9.elim (fun q => Or.inr q.1) (fun q => Or.inl q.1)
    rcases hEn with e | e
    · subst e
      exact (show HOK RL _ _ _ _ _ 1 from ⟨[], ⟨0, 12, 15, 21⟩, [⟨0, 12, 19, 13⟩], rfl, (fun z hz => by cases hz), rfl, (by decide : (21 : Nat) ≠ 0), lk_21, ck_xIO, 5, 2, 1, by decide, Or.inl ⟨dL_moveCarrier_15, rfl⟩, dL_moveCarrier_17, by decide, dL_moveCarrier_18⟩)
    · subst e
      exact (show HOK RL _ _ _ _ _ 2 from ⟨[⟨0, 12, 15, 21⟩], ⟨0, 12, 19, 13⟩, [], rfl, (fun z hz => by rw [List.mem_singleton.mp hz]; exact Or.inr ⟨(by decide : (21 : Nat) ≠ 0), _, lk_21, fun s hs => hs.2⟩), rfl, (by decide : (13 : Nat) ≠ 0), lk_13, ck_xIA, 5, 2, 2, by decide, Or.inl ⟨dL_moveCarrier_19, rfl⟩, dL_moveCarrier_21, by decide, dL_moveCarrier_22⟩)
  refine EZ_i2l dL_moveCarrier_10 ?_
  refine SZ_last 0 tw_73 rfl (by decide) dL_moveCarrier_11 ?_
  refine EZ_goto 23 dL_moveCarrier_12 (by decide) ?_
  refine EZ_iconst 0 (by decide) dL_moveCarrier_23 ?_
  exact EZ_iret rfl (Nat.le_of_ble_eq_true rfl) (Nat.le_of_ble_eq_true rfl) dL_moveCarrier_24 (okHQ h9)
set_option maxRecDepth 100000 in
theorem h_L_removeCarrier (l : Launch) (hfl : l.stackTraces = false) (mi : MI) (ml : MJ) (V : Nat → Int32) (hV : WFV V) (hD : DR 1 mi V) (n : Nat) (hn : (V 5).toInt = (n : Int)) (h10 : n ≤ 10) (m : Nat) (hm : (V 26).toInt = (m : Int)) (h5 : m ≤ 5) (p sz : Nat) (hp : (mi 17 1).toInt = (p : Int)) (hp4 : p < 4) (hsz : (mi 17 2).toInt = (sz : Int)) (hs4 : sz ≤ 4) (q : Int32) (B : Int) (hB : q.toInt = B) : CtH l yL_removeCarrier (.codeWith yL_removeCarrier cL_removeCarrier 4 (some .int) [((0 : Nat), (9 : Nat), (12 : Nat), (21 : Nat))]) 5 1 6 [.ref 0, .int q, .ref 73] (wl mi ml) (HQ (fun r mi9 ml9 => ml = ml9 ∧ ∃ (b : Nat) (mk : MI), b < n ∧ B = (b : Int) ∧ r.toInt = (n : Int) - 1 ∧ PUS p sz mi mk ∧ TOS 1 mk mi9 b n m (((1 : Int32) <<< (q &&& 31)) - 1)) (fun En mi9 ml9 => mi = mi9 ∧ ml = ml9 ∧ En = xIO ∧ ¬ (0 ≤ B ∧ B < (n : Int))) cd1) noX := by
  refine CtH_of pn_L hfl (Nat.le_of_ble_eq_true rfl) ?_
  show EZ (fun s _ => Nc2 s) l RL cL_removeCarrier 4 (some .int) false (tableOf [((0 : Nat), (9 : Nat), (12 : Nat), (21 : Nat))]) (rmE 5 1 6) (wl mi ml) (TgM (wl mi ml) 1 6 (HQ (fun r mi9 ml9 => ml = ml9 ∧ ∃ (b : Nat) (mk : MI), b < n ∧ B = (b : Int) ∧ r.toInt = (n : Int) - 1 ∧ PUS p sz mi mk ∧ TOS 1 mk mi9 b n m (((1 : Int32) <<< (q &&& 31)) - 1)) (fun En mi9 ml9 => mi = mi9 ∧ ml = ml9 ∧ En = xIO ∧ ¬ (0 ≤ B ∧ B < (n : Int))) cd1) noX) 0 0 0 [(0, .ref 0), (1, .int q), (2, .ref 73)] [] (wl mi ml)
  refine EZ_aload_n 2 dL_removeCarrier_0 rfl rfl ?_
  refine EZ_iconst 0 (by decide) dL_removeCarrier_1 ?_
  refine EZ_aload_n 0 dL_removeCarrier_2 rfl rfl ?_
  refine EZ_iload_n 1 dL_removeCarrier_3 rfl rfl ?_
  refine EZ_callVH (c_X5_removeCarrier l hfl mi ml V hV hD n hn h10 m hm h5 p sz hp hp4 hsz hs4 q B hB) cw_L_23 (As := [.int q]) (st := [.int 0, .ref 73]) wi_yX5_removeCarrier we_yX5_removeCarrier (ci := 5) (q := (RX5, TX5, 7)) rfl rfl (wl_atO tw_0) rfl ⟨Nat.le_of_ble_eq_true rfl, Nat.le_of_ble_eq_true rfl, Nat.le_of_ble_eq_true rfl, Nat.le_of_ble_eq_true rfl⟩ (Nat.le_of_ble_eq_true rfl) dL_removeCarrier_4 rfl (Nat.le_of_ble_eq_true rfl) (Nat.le_of_ble_eq_true rfl) (xXQ (fun En mi ml h => ?_)) rfl (zkI (fun r9 mi9 ml9 h9 => ?_))
  · have hEn : En = xIO := by
      first | exact h.2.2.1 | exact h.2.1
    subst hEn
    exact ⟨[], ⟨0, 9, 12, 21⟩, [], rfl, (fun z hz => by cases hz), rfl, (by decide : (21 : Nat) ≠ 0), lk_21, ck_xIO, 3, 1, 1, by decide, Or.inr ⟨3, rfl, dL_removeCarrier_12, rfl⟩, dL_removeCarrier_13, by decide, dL_removeCarrier_14⟩
  refine EZ_i2l dL_removeCarrier_7 ?_
  refine SZ_last 0 tw_73 rfl (by decide) dL_removeCarrier_8 ?_
  refine EZ_goto 15 dL_removeCarrier_9 (by decide) ?_
  refine EZ_iconst 0 (by decide) dL_removeCarrier_15 ?_
  exact EZ_iret rfl (Nat.le_of_ble_eq_true rfl) (Nat.le_of_ble_eq_true rfl) dL_removeCarrier_16 (okHQ h9)
set_option maxRecDepth 100000 in
theorem h_L_shift (l : Launch) (hfl : l.stackTraces = false) (mi : MI) (ml : MJ) (V : Nat → Int32) (hV : WFV V) (hD : DR 1 mi V) (n : Nat) (hn : (V 5).toInt = (n : Int)) (h10 : n ≤ 10) (p sz : Nat) (hp : (mi 17 1).toInt = (p : Int)) (hp4 : p < 4) (hsz : (mi 17 2).toInt = (sz : Int)) (hs4 : sz ≤ 4) (a : Int32) (B : Int) (hB : a.toInt = B) : CtH l yL_shift (.codeWith yL_shift cL_shift 4 (some .int) [((0 : Nat), (9 : Nat), (12 : Nat), (13 : Nat)), ((0 : Nat), (9 : Nat), (15 : Nat), (15 : Nat))]) 4 1 6 [.ref 0, .int a, .ref 73] (wl mi ml) (HQ (fun r mi9 ml9 => ml = ml9 ∧ (-64 < B ∧ B < 64) ∧ (∀ j, j < n → (0 ≤ (V (6 + 2 * j)).toInt + B ∧ (V (6 + 2 * j)).toInt + B < 64)) ∧ r.toInt = (n : Int) ∧ ∃ mk m1, PUS p sz mi mk ∧ SHI 1 a mk m1 n ∧ u2 m1 1 10 0 = mi9) (fun En mi9 ml9 => mi = mi9 ∧ ml = ml9 ∧ ((En = xIA ∧ ¬ (-64 < B ∧ B < 64)) ∨ (En = xIS ∧ (-64 < B ∧ B < 64) ∧ ¬ (∀ j, j < n → (0 ≤ (V (6 + 2 * j)).toInt + B ∧ (V (6 + 2 * j)).toInt + B < 64))))) cdA) noX := by
  refine CtH_of pn_L hfl (Nat.le_of_ble_eq_true rfl) ?_
  show EZ (fun s _ => Nc2 s) l RL cL_shift 4 (some .int) false (tableOf [((0 : Nat), (9 : Nat), (12 : Nat), (13 : Nat)), ((0 : Nat), (9 : Nat), (15 : Nat), (15 : Nat))]) (rmE 4 1 6) (wl mi ml) (TgM (wl mi ml) 1 6 (HQ (fun r mi9 ml9 => ml = ml9 ∧ (-64 < B ∧ B < 64) ∧ (∀ j, j < n → (0 ≤ (V (6 + 2 * j)).toInt + B ∧ (V (6 + 2 * j)).toInt + B < 64)) ∧ r.toInt = (n : Int) ∧ ∃ mk m1, PUS p sz mi mk ∧ SHI 1 a mk m1 n ∧ u2 m1 1 10 0 = mi9) (fun En mi9 ml9 => mi = mi9 ∧ ml = ml9 ∧ ((En = xIA ∧ ¬ (-64 < B ∧ B < 64)) ∨ (En = xIS ∧ (-64 < B ∧ B < 64) ∧ ¬ (∀ j, j < n → (0 ≤ (V (6 + 2 * j)).toInt + B ∧ (V (6 + 2 * j)).toInt + B < 64))))) cdA) noX) 0 0 0 [(0, .ref 0), (1, .int a), (2, .ref 73)] [] (wl mi ml)
  refine EZ_aload_n 2 dL_shift_0 rfl rfl ?_
  refine EZ_iconst 0 (by decide) dL_shift_1 ?_
  refine EZ_aload_n 0 dL_shift_2 rfl rfl ?_
  refine EZ_iload_n 1 dL_shift_3 rfl rfl ?_
  refine EZ_callVH (c_X5_shift l hfl mi ml V hV hD n hn h10 p sz hp hp4 hsz hs4 a B hB) cw_L_27 (As := [.int a]) (st := [.int 0, .ref 73]) wi_yX5_shift we_yX5_shift (ci := 5) (q := (RX5, TX5, 7)) rfl rfl (wl_atO tw_0) rfl ⟨Nat.le_of_ble_eq_true rfl, Nat.le_of_ble_eq_true rfl, Nat.le_of_ble_eq_true rfl, Nat.le_of_ble_eq_true rfl⟩ (Nat.le_of_ble_eq_true rfl) dL_shift_4 rfl (Nat.le_of_ble_eq_true rfl) (Nat.le_of_ble_eq_true rfl) (xXQ (fun En mi ml h => ?_)) rfl (zkI (fun r9 mi9 ml9 h9 => ?_))
  · have hEn : En = xIA ∨ En = xIS := by
      have h9 := h.2.2
      first | exact h9.elim (fun q => Or.inl q.1) (fun q => Or.inr q.1) | exact h9.elim (fun q => Or.inr q.1) (fun q => Or.inl q.1)
    rcases hEn with e | e
    · subst e
      exact (show HOK RL _ _ _ _ _ 1 from ⟨[], ⟨0, 9, 12, 13⟩, [⟨0, 9, 15, 15⟩], rfl, (fun z hz => by cases hz), rfl, (by decide : (13 : Nat) ≠ 0), lk_13, ck_xIA, 3, 1, 1, by decide, Or.inr ⟨3, rfl, dL_shift_12, rfl⟩, dL_shift_13, by decide, dL_shift_14⟩)
    · subst e
      exact (show HOK RL _ _ _ _ _ 2 from ⟨[⟨0, 9, 12, 13⟩], ⟨0, 9, 15, 15⟩, [], rfl, (fun z hz => by rw [List.mem_singleton.mp hz]; exact Or.inr ⟨(by decide : (13 : Nat) ≠ 0), _, lk_13, fun s hs => hs.1⟩), rfl, (by decide : (15 : Nat) ≠ 0), lk_15, ck_xIS, 3, 1, 2, by decide, Or.inr ⟨3, rfl, dL_shift_15, rfl⟩, dL_shift_16, by decide, dL_shift_17⟩)
  refine EZ_i2l dL_shift_7 ?_
  refine SZ_last 0 tw_73 rfl (by decide) dL_shift_8 ?_
  refine EZ_goto 18 dL_shift_9 (by decide) ?_
  refine EZ_iconst 0 (by decide) dL_shift_18 ?_
  exact EZ_iret rfl (Nat.le_of_ble_eq_true rfl) (Nat.le_of_ble_eq_true rfl) dL_shift_19 (okHQ h9)
set_option maxRecDepth 100000 in
theorem h_L_setProducts (l : Launch) (hfl : l.stackTraces = false) (mi : MI) (ml : MJ) (V : Nat → Int32) (hV : WFV V) (hD : DR 1 mi V) (p sz : Nat) (hp : (mi 17 1).toInt = (p : Int)) (hp4 : p < 4) (hsz : (mi 17 2).toInt = (sz : Int)) (hs4 : sz ≤ 4) (a : Int32) (A : Int) (hA : a.toInt = A) (b : Int32) (B : Int) (hB : b.toInt = B) (c : Int32) (C : Int) (hC : c.toInt = C) : CtH l yL_setProducts (.codeWith yL_setProducts cL_setProducts 6 (some .int) [((0 : Nat), (12 : Nat), (15 : Nat), (13 : Nat))]) 4 1 6 [.ref 0, .int a, .int b, .int c, .ref 73] (wl mi ml) (HQ (fun r mi9 ml9 => ml = ml9 ∧ ((0 ≤ A ∧ A ≤ 7) ∧ (0 ≤ B ∧ B ≤ 300) ∧ (0 ≤ C ∧ C ≤ 300)) ∧ r = V 0 ∧ ∃ mk, PUS p sz mi mk ∧ u2 (u2 (u2 (u2 mk 1 0 a) 1 1 b) 1 2 c) 1 10 0 = mi9) (fun En mi9 ml9 => mi = mi9 ∧ ml = ml9 ∧ En = xIA ∧ ¬ ((0 ≤ A ∧ A ≤ 7) ∧ (0 ≤ B ∧ B ≤ 300) ∧ (0 ≤ C ∧ C ≤ 300))) cd1) noX := by
  refine CtH_of pn_L hfl (Nat.le_of_ble_eq_true rfl) ?_
  show EZ (fun s _ => Nc2 s) l RL cL_setProducts 6 (some .int) false (tableOf [((0 : Nat), (12 : Nat), (15 : Nat), (13 : Nat))]) (rmE 4 1 6) (wl mi ml) (TgM (wl mi ml) 1 6 (HQ (fun r mi9 ml9 => ml = ml9 ∧ ((0 ≤ A ∧ A ≤ 7) ∧ (0 ≤ B ∧ B ≤ 300) ∧ (0 ≤ C ∧ C ≤ 300)) ∧ r = V 0 ∧ ∃ mk, PUS p sz mi mk ∧ u2 (u2 (u2 (u2 mk 1 0 a) 1 1 b) 1 2 c) 1 10 0 = mi9) (fun En mi9 ml9 => mi = mi9 ∧ ml = ml9 ∧ En = xIA ∧ ¬ ((0 ≤ A ∧ A ≤ 7) ∧ (0 ≤ B ∧ B ≤ 300) ∧ (0 ≤ C ∧ C ≤ 300))) cd1) noX) 0 0 0 [(0, .ref 0), (1, .int a), (2, .int b), (3, .int c), (4, .ref 73)] [] (wl mi ml)
  refine EZ_aload 4 dL_setProducts_0 rfl ?_
  refine EZ_iconst 0 (by decide) dL_setProducts_2 ?_
  refine EZ_aload_n 0 dL_setProducts_3 rfl rfl ?_
  refine EZ_iload_n 1 dL_setProducts_4 rfl rfl ?_
  refine EZ_iload_n 2 dL_setProducts_5 rfl rfl ?_
  refine EZ_iload_n 3 dL_setProducts_6 rfl rfl ?_
  refine EZ_callVH (c_X5_setProducts l hfl mi ml V hV hD p sz hp hp4 hsz hs4 a A hA b B hB c C hC) cw_L_30 (As := [.int a, .int b, .int c]) (st := [.int 0, .ref 73]) wi_yX5_setProducts we_yX5_setProducts (ci := 5) (q := (RX5, TX5, 7)) rfl rfl (wl_atO tw_0) rfl ⟨Nat.le_of_ble_eq_true rfl, Nat.le_of_ble_eq_true rfl, Nat.le_of_ble_eq_true rfl, Nat.le_of_ble_eq_true rfl⟩ (Nat.le_of_ble_eq_true rfl) dL_setProducts_7 rfl (Nat.le_of_ble_eq_true rfl) (Nat.le_of_ble_eq_true rfl) (xXQ (fun En mi ml h => ?_)) rfl (zkI (fun r9 mi9 ml9 h9 => ?_))
  · have hEn : En = xIA := by
      first | exact h.2.2.1 | exact h.2.1
    subst hEn
    exact ⟨[], ⟨0, 12, 15, 13⟩, [], rfl, (fun z hz => by cases hz), rfl, (by decide : (13 : Nat) ≠ 0), lk_13, ck_xIA, 5, 2, 1, by decide, Or.inl ⟨dL_setProducts_15, rfl⟩, dL_setProducts_17, by decide, dL_setProducts_18⟩
  refine EZ_i2l dL_setProducts_10 ?_
  refine SZ_last 0 tw_73 rfl (by decide) dL_setProducts_11 ?_
  refine EZ_goto 19 dL_setProducts_12 (by decide) ?_
  refine EZ_iconst 0 (by decide) dL_setProducts_19 ?_
  exact EZ_iret rfl (Nat.le_of_ble_eq_true rfl) (Nat.le_of_ble_eq_true rfl) dL_setProducts_20 (okHQ h9)
set_option maxRecDepth 100000 in
theorem h_L_setSpacing (l : Launch) (hfl : l.stackTraces = false) (mi : MI) (ml : MJ) (V : Nat → Int32) (hV : WFV V) (hD : DR 1 mi V) (p sz : Nat) (hp : (mi 17 1).toInt = (p : Int)) (hp4 : p < 4) (hsz : (mi 17 2).toInt = (sz : Int)) (hs4 : sz ≤ 4) (a : Int32) (A : Int) (hA : a.toInt = A) (b : Int32) (B : Int) (hB : b.toInt = B) : CtH l yL_setSpacing (.codeWith yL_setSpacing cL_setSpacing 5 (some .int) [((0 : Nat), (10 : Nat), (13 : Nat), (13 : Nat))]) 4 1 6 [.ref 0, .int a, .int b, .ref 73] (wl mi ml) (HQ (fun r mi9 ml9 => ml = ml9 ∧ ((0 ≤ A ∧ A ≤ 5) ∧ (1 ≤ B ∧ B ≤ 10)) ∧ r = V 3 ∧ ∃ mk, PUS p sz mi mk ∧ u2 (u2 (u2 mk 1 3 a) 1 4 b) 1 10 0 = mi9) (fun En mi9 ml9 => mi = mi9 ∧ ml = ml9 ∧ En = xIA ∧ ¬ ((0 ≤ A ∧ A ≤ 5) ∧ (1 ≤ B ∧ B ≤ 10))) cd1) noX := by
  refine CtH_of pn_L hfl (Nat.le_of_ble_eq_true rfl) ?_
  show EZ (fun s _ => Nc2 s) l RL cL_setSpacing 5 (some .int) false (tableOf [((0 : Nat), (10 : Nat), (13 : Nat), (13 : Nat))]) (rmE 4 1 6) (wl mi ml) (TgM (wl mi ml) 1 6 (HQ (fun r mi9 ml9 => ml = ml9 ∧ ((0 ≤ A ∧ A ≤ 5) ∧ (1 ≤ B ∧ B ≤ 10)) ∧ r = V 3 ∧ ∃ mk, PUS p sz mi mk ∧ u2 (u2 (u2 mk 1 3 a) 1 4 b) 1 10 0 = mi9) (fun En mi9 ml9 => mi = mi9 ∧ ml = ml9 ∧ En = xIA ∧ ¬ ((0 ≤ A ∧ A ≤ 5) ∧ (1 ≤ B ∧ B ≤ 10))) cd1) noX) 0 0 0 [(0, .ref 0), (1, .int a), (2, .int b), (3, .ref 73)] [] (wl mi ml)
  refine EZ_aload_n 3 dL_setSpacing_0 rfl rfl ?_
  refine EZ_iconst 0 (by decide) dL_setSpacing_1 ?_
  refine EZ_aload_n 0 dL_setSpacing_2 rfl rfl ?_
  refine EZ_iload_n 1 dL_setSpacing_3 rfl rfl ?_
  refine EZ_iload_n 2 dL_setSpacing_4 rfl rfl ?_
  refine EZ_callVH (c_X5_setSpacing l hfl mi ml V hV hD p sz hp hp4 hsz hs4 a A hA b B hB) cw_L_33 (As := [.int a, .int b]) (st := [.int 0, .ref 73]) wi_yX5_setSpacing we_yX5_setSpacing (ci := 5) (q := (RX5, TX5, 7)) rfl rfl (wl_atO tw_0) rfl ⟨Nat.le_of_ble_eq_true rfl, Nat.le_of_ble_eq_true rfl, Nat.le_of_ble_eq_true rfl, Nat.le_of_ble_eq_true rfl⟩ (Nat.le_of_ble_eq_true rfl) dL_setSpacing_5 rfl (Nat.le_of_ble_eq_true rfl) (Nat.le_of_ble_eq_true rfl) (xXQ (fun En mi ml h => ?_)) rfl (zkI (fun r9 mi9 ml9 h9 => ?_))
  · have hEn : En = xIA := by
      first | exact h.2.2.1 | exact h.2.1
    subst hEn
    exact ⟨[], ⟨0, 10, 13, 13⟩, [], rfl, (fun z hz => by cases hz), rfl, (by decide : (13 : Nat) ≠ 0), lk_13, ck_xIA, 4, 2, 1, by decide, Or.inl ⟨dL_setSpacing_13, rfl⟩, dL_setSpacing_15, by decide, dL_setSpacing_16⟩
  refine EZ_i2l dL_setSpacing_8 ?_
  refine SZ_last 0 tw_73 rfl (by decide) dL_setSpacing_9 ?_
  refine EZ_goto 17 dL_setSpacing_10 (by decide) ?_
  refine EZ_iconst 0 (by decide) dL_setSpacing_17 ?_
  exact EZ_iret rfl (Nat.le_of_ble_eq_true rfl) (Nat.le_of_ble_eq_true rfl) dL_setSpacing_18 (okHQ h9)
set_option maxRecDepth 100000 in
theorem h_L_size (l : Launch) (hfl : l.stackTraces = false) (mi : MI) (ml : MJ) (V : Nat → Int32) (hD : DR 1 mi V) (a : Int32) (A : Int) (hA : a.toInt = A) : CtH l yL_size (.codeWith yL_size cL_size 4 (some .int) [((0 : Nat), (9 : Nat), (12 : Nat), (13 : Nat))]) 2 1 6 [.ref 0, .int a, .ref 73] (wl mi ml) (HQ (fun r mi9 ml9 => mi = mi9 ∧ ml = ml9 ∧ (0 ≤ A ∧ A ≤ 2) ∧ ((A = 0 ∧ r = V 5) ∨ (A = 1 ∧ r = V 26) ∨ (A = 2 ∧ r = V 32))) (fun En mi9 ml9 => mi = mi9 ∧ ml = ml9 ∧ En = xIA ∧ ¬ (0 ≤ A ∧ A ≤ 2)) cd1) noX := by
  refine CtH_of pn_L hfl (Nat.le_of_ble_eq_true rfl) ?_
  show EZ (fun s _ => Nc2 s) l RL cL_size 4 (some .int) false (tableOf [((0 : Nat), (9 : Nat), (12 : Nat), (13 : Nat))]) (rmE 2 1 6) (wl mi ml) (TgM (wl mi ml) 1 6 (HQ (fun r mi9 ml9 => mi = mi9 ∧ ml = ml9 ∧ (0 ≤ A ∧ A ≤ 2) ∧ ((A = 0 ∧ r = V 5) ∨ (A = 1 ∧ r = V 26) ∨ (A = 2 ∧ r = V 32))) (fun En mi9 ml9 => mi = mi9 ∧ ml = ml9 ∧ En = xIA ∧ ¬ (0 ≤ A ∧ A ≤ 2)) cd1) noX) 0 0 0 [(0, .ref 0), (1, .int a), (2, .ref 73)] [] (wl mi ml)
  refine EZ_aload_n 2 dL_size_0 rfl rfl ?_
  refine EZ_iconst 0 (by decide) dL_size_1 ?_
  refine EZ_aload_n 0 dL_size_2 rfl rfl ?_
  refine EZ_iload_n 1 dL_size_3 rfl rfl ?_
  refine EZ_callVH (c_X5_size l hfl mi ml V hD a A hA) cw_L_36 (As := [.int a]) (st := [.int 0, .ref 73]) wi_yX5_size we_yX5_size (ci := 5) (q := (RX5, TX5, 7)) rfl rfl (wl_atO tw_0) rfl ⟨Nat.le_of_ble_eq_true rfl, Nat.le_of_ble_eq_true rfl, Nat.le_of_ble_eq_true rfl, Nat.le_of_ble_eq_true rfl⟩ (Nat.le_of_ble_eq_true rfl) dL_size_4 rfl (Nat.le_of_ble_eq_true rfl) (Nat.le_of_ble_eq_true rfl) (xXQ (fun En mi ml h => ?_)) rfl (zkI (fun r9 mi9 ml9 h9 => ?_))
  · have hEn : En = xIA := by
      first | exact h.2.2.1 | exact h.2.1
    subst hEn
    exact ⟨[], ⟨0, 9, 12, 13⟩, [], rfl, (fun z hz => by cases hz), rfl, (by decide : (13 : Nat) ≠ 0), lk_13, ck_xIA, 3, 1, 1, by decide, Or.inr ⟨3, rfl, dL_size_12, rfl⟩, dL_size_13, by decide, dL_size_14⟩
  refine EZ_i2l dL_size_7 ?_
  refine SZ_last 0 tw_73 rfl (by decide) dL_size_8 ?_
  refine EZ_goto 15 dL_size_9 (by decide) ?_
  refine EZ_iconst 0 (by decide) dL_size_15 ?_
  exact EZ_iret rfl (Nat.le_of_ble_eq_true rfl) (Nat.le_of_ble_eq_true rfl) dL_size_16 (okHQ h9)
set_option maxRecDepth 100000 in
theorem h_L_carrier (l : Launch) (hfl : l.stackTraces = false) (mi : MI) (ml : MJ) (V : Nat → Int32) (hV : WFV V) (hD : DR 1 mi V) (n : Nat) (hn : (V 5).toInt = (n : Int)) (h10 : n ≤ 10) (a : Int32) (A : Int) (hA : a.toInt = A) (xb : Int32) (P : Prop) (hxb : xb = bI P) : CtH l yL_carrier (.codeWith yL_carrier cL_carrier 5 (some .int) [((0 : Nat), (10 : Nat), (13 : Nat), (21 : Nat))]) 4 1 6 [.ref 0, .int a, .int xb, .ref 73] (wl mi ml) (HQ (fun r mi9 ml9 => mi = mi9 ∧ ml = ml9 ∧ ∃ b : Nat, b < n ∧ A = (b : Int) ∧ ((P ∧ r = V (7 + 2 * b)) ∨ (¬ P ∧ r = V (6 + 2 * b)))) (fun En mi9 ml9 => mi = mi9 ∧ ml = ml9 ∧ En = xIO ∧ ¬ (0 ≤ A ∧ A < (n : Int))) cd1) noX := by
  subst hxb
  refine CtH_of pn_L hfl (Nat.le_of_ble_eq_true rfl) ?_
  show EZ (fun s _ => Nc2 s) l RL cL_carrier 5 (some .int) false (tableOf [((0 : Nat), (10 : Nat), (13 : Nat), (21 : Nat))]) (rmE 4 1 6) (wl mi ml) (TgM (wl mi ml) 1 6 (HQ (fun r mi9 ml9 => mi = mi9 ∧ ml = ml9 ∧ ∃ b : Nat, b < n ∧ A = (b : Int) ∧ ((P ∧ r = V (7 + 2 * b)) ∨ (¬ P ∧ r = V (6 + 2 * b)))) (fun En mi9 ml9 => mi = mi9 ∧ ml = ml9 ∧ En = xIO ∧ ¬ (0 ≤ A ∧ A < (n : Int))) cd1) noX) 0 0 0 [(0, .ref 0), (1, .int a), (2, .int (bI (P))), (3, .ref 73)] [] (wl mi ml)
  refine EZ_aload_n 3 dL_carrier_0 rfl rfl ?_
  refine EZ_iconst 0 (by decide) dL_carrier_1 ?_
  refine EZ_aload_n 0 dL_carrier_2 rfl rfl ?_
  refine EZ_iload_n 1 dL_carrier_3 rfl rfl ?_
  refine EZ_iload_n 2 dL_carrier_4 rfl rfl ?_
  refine EZ_callVH (c_X5_carrier l hfl mi ml V hV hD n hn h10 a A hA _ P rfl) cw_L_39 (As := [.int a, .int (bI (P))]) (st := [.int 0, .ref 73]) wi_yX5_carrier we_yX5_carrier (ci := 5) (q := (RX5, TX5, 7)) rfl rfl (wl_atO tw_0) rfl ⟨Nat.le_of_ble_eq_true rfl, Nat.le_of_ble_eq_true rfl, Nat.le_of_ble_eq_true rfl, Nat.le_of_ble_eq_true rfl⟩ (Nat.le_of_ble_eq_true rfl) dL_carrier_5 rfl (Nat.le_of_ble_eq_true rfl) (Nat.le_of_ble_eq_true rfl) (xXQ (fun En mi ml h => ?_)) rfl (zkI (fun r9 mi9 ml9 h9 => ?_))
  · have hEn : En = xIO := by
      first | exact h.2.2.1 | exact h.2.1
    subst hEn
    exact ⟨[], ⟨0, 10, 13, 21⟩, [], rfl, (fun z hz => by cases hz), rfl, (by decide : (21 : Nat) ≠ 0), lk_21, ck_xIO, 4, 2, 1, by decide, Or.inl ⟨dL_carrier_13, rfl⟩, dL_carrier_15, by decide, dL_carrier_16⟩
  refine EZ_i2l dL_carrier_8 ?_
  refine SZ_last 0 tw_73 rfl (by decide) dL_carrier_9 ?_
  refine EZ_goto 17 dL_carrier_10 (by decide) ?_
  refine EZ_iconst 0 (by decide) dL_carrier_17 ?_
  exact EZ_iret rfl (Nat.le_of_ble_eq_true rfl) (Nat.le_of_ble_eq_true rfl) dL_carrier_18 (okHQ h9)
set_option maxRecDepth 100000 in
theorem h_L_product (l : Launch) (hfl : l.stackTraces = false) (mi : MI) (ml : MJ) (V : Nat → Int32) (hV : WFV V) (hD : DR 1 mi V) (n : Nat) (hn : (V 5).toInt = (n : Int)) (h10 : n ≤ 10) (x a : Int32) (X A : Int) (hX : x.toInt = X) (hA : a.toInt = A) : CtH l yL_product (.codeWith yL_product cL_product 5 (some .int) [((0 : Nat), (10 : Nat), (13 : Nat), (21 : Nat)), ((0 : Nat), (10 : Nat), (17 : Nat), (13 : Nat))]) 5 1 6 [.ref 0, .int x, .int a, .ref 73] (wl mi ml) (HQ (fun r mi9 ml9 => ml = ml9 ∧ Fr [51, 52] mi mi9 ∧ ∃ (i j : Nat) (row : Nat → Int32), X = (i : Int) ∧ i < (prV V (2 ^ n - 1) n).length ∧ A = (j : Int) ∧ j < 6 ∧ encd (DV V) row (prV V (2 ^ n - 1) n) ∧ r = row (6 * i + j)) (fun En mi9 ml9 => ml = ml9 ∧ Fr [51, 52] mi mi9 ∧ ((En = xIO ∧ ¬ (0 ≤ X ∧ X < ((prV V (2 ^ n - 1) n).length : Int))) ∨ (En = xIA ∧ (0 ≤ X ∧ X < ((prV V (2 ^ n - 1) n).length : Int)) ∧ ¬ (0 ≤ A ∧ A ≤ 5)))) cdO) noX := by
  refine CtH_of pn_L hfl (Nat.le_of_ble_eq_true rfl) ?_
  show EZ (fun s _ => Nc2 s) l RL cL_product 5 (some .int) false (tableOf [((0 : Nat), (10 : Nat), (13 : Nat), (21 : Nat)), ((0 : Nat), (10 : Nat), (17 : Nat), (13 : Nat))]) (rmE 5 1 6) (wl mi ml) (TgM (wl mi ml) 1 6 (HQ (fun r mi9 ml9 => ml = ml9 ∧ Fr [51, 52] mi mi9 ∧ ∃ (i j : Nat) (row : Nat → Int32), X = (i : Int) ∧ i < (prV V (2 ^ n - 1) n).length ∧ A = (j : Int) ∧ j < 6 ∧ encd (DV V) row (prV V (2 ^ n - 1) n) ∧ r = row (6 * i + j)) (fun En mi9 ml9 => ml = ml9 ∧ Fr [51, 52] mi mi9 ∧ ((En = xIO ∧ ¬ (0 ≤ X ∧ X < ((prV V (2 ^ n - 1) n).length : Int))) ∨ (En = xIA ∧ (0 ≤ X ∧ X < ((prV V (2 ^ n - 1) n).length : Int)) ∧ ¬ (0 ≤ A ∧ A ≤ 5)))) cdO) noX) 0 0 0 [(0, .ref 0), (1, .int x), (2, .int a), (3, .ref 73)] [] (wl mi ml)
  refine EZ_aload_n 3 dL_product_0 rfl rfl ?_
  refine EZ_iconst 0 (by decide) dL_product_1 ?_
  refine EZ_aload_n 0 dL_product_2 rfl rfl ?_
  refine EZ_iload_n 1 dL_product_3 rfl rfl ?_
  refine EZ_iload_n 2 dL_product_4 rfl rfl ?_
  refine EZ_callVH (c_X5_product l hfl mi ml V hV hD n hn h10 x a X A hX hA) cw_L_43 (As := [.int x, .int a]) (st := [.int 0, .ref 73]) wi_yX5_product we_yX5_product (ci := 5) (q := (RX5, TX5, 7)) rfl rfl (wl_atO tw_0) rfl ⟨Nat.le_of_ble_eq_true rfl, Nat.le_of_ble_eq_true rfl, Nat.le_of_ble_eq_true rfl, Nat.le_of_ble_eq_true rfl⟩ (Nat.le_of_ble_eq_true rfl) dL_product_5 rfl (Nat.le_of_ble_eq_true rfl) (Nat.le_of_ble_eq_true rfl) (xXQ (fun En mi ml h => ?_)) rfl (zkI (fun r9 mi9 ml9 h9 => ?_))
  · have hEn : En = xIO ∨ En = xIA := by
      have h9 := h.2.2
      first | exact h9.elim (fun q => Or.inl q.1) (fun q => Or.inr q.1) | exact h9.elim (fun q => Or.inr q.1) (fun q => Or.inl q.1)
    rcases hEn with e | e
    · subst e
      exact (show HOK RL _ _ _ _ _ 1 from ⟨[], ⟨0, 10, 13, 21⟩, [⟨0, 10, 17, 13⟩], rfl, (fun z hz => by cases hz), rfl, (by decide : (21 : Nat) ≠ 0), lk_21, ck_xIO, 4, 2, 1, by decide, Or.inl ⟨dL_product_13, rfl⟩, dL_product_15, by decide, dL_product_16⟩)
    · subst e
      exact (show HOK RL _ _ _ _ _ 2 from ⟨[⟨0, 10, 13, 21⟩], ⟨0, 10, 17, 13⟩, [], rfl, (fun z hz => by rw [List.mem_singleton.mp hz]; exact Or.inr ⟨(by decide : (21 : Nat) ≠ 0), _, lk_21, fun s hs => hs.2⟩), rfl, (by decide : (13 : Nat) ≠ 0), lk_13, ck_xIA, 4, 2, 2, by decide, Or.inl ⟨dL_product_17, rfl⟩, dL_product_19, by decide, dL_product_20⟩)
  refine EZ_i2l dL_product_8 ?_
  refine SZ_last 0 tw_73 rfl (by decide) dL_product_9 ?_
  refine EZ_goto 21 dL_product_10 (by decide) ?_
  refine EZ_iconst 0 (by decide) dL_product_21 ?_
  exact EZ_iret rfl (Nat.le_of_ble_eq_true rfl) (Nat.le_of_ble_eq_true rfl) dL_product_22 (okHQ h9)
set_option maxRecDepth 100000 in
theorem h_L_fallout (l : Launch) (hfl : l.stackTraces = false) (mi : MI) (ml : MJ) (V : Nat → Int32) (hV : WFV V) (hD : DR 1 mi V) (n : Nat) (hn : (V 5).toInt = (n : Int)) (h10 : n ≤ 10) (a : Int32) (A : Int) (hA : a.toInt = A) : CtH l yL_fallout (.codeWith yL_fallout cL_fallout 4 (some .int) [((0 : Nat), (8 : Nat), (11 : Nat), (13 : Nat))]) 6 1 6 [.ref 0, .int a, .ref 73] (wl mi ml) (HJ (fun r mi9 ml9 => ml = ml9 ∧ Fr [51, 52] mi mi9 ∧ (0 ≤ A ∧ A ≤ ((2 ^ n - 1 : Nat) : Int)) ∧ ∃ s : Nat, A = (s : Int) ∧ r = foA (DV V) (prV V s n) (prV V s n).length) (fun En mi9 ml9 => ml = ml9 ∧ mi = mi9 ∧ En = xIA ∧ ¬ (0 ≤ A ∧ A ≤ ((2 ^ n - 1 : Nat) : Int))) cd1) noX := by
  refine CtH_of pn_L hfl (Nat.le_of_ble_eq_true rfl) ?_
  show EZ (fun s _ => Nc2 s) l RL cL_fallout 4 (some .int) false (tableOf [((0 : Nat), (8 : Nat), (11 : Nat), (13 : Nat))]) (rmE 6 1 6) (wl mi ml) (TgM (wl mi ml) 1 6 (HJ (fun r mi9 ml9 => ml = ml9 ∧ Fr [51, 52] mi mi9 ∧ (0 ≤ A ∧ A ≤ ((2 ^ n - 1 : Nat) : Int)) ∧ ∃ s : Nat, A = (s : Int) ∧ r = foA (DV V) (prV V s n) (prV V s n).length) (fun En mi9 ml9 => ml = ml9 ∧ mi = mi9 ∧ En = xIA ∧ ¬ (0 ≤ A ∧ A ≤ ((2 ^ n - 1 : Nat) : Int))) cd1) noX) 0 0 0 [(0, .ref 0), (1, .int a), (2, .ref 73)] [] (wl mi ml)
  refine EZ_aload_n 2 dL_fallout_0 rfl rfl ?_
  refine EZ_iconst 0 (by decide) dL_fallout_1 ?_
  refine EZ_aload_n 0 dL_fallout_2 rfl rfl ?_
  refine EZ_iload_n 1 dL_fallout_3 rfl rfl ?_
  refine EZ_callVH (c_X5_fallout l hfl mi ml V hV hD n hn h10 a A hA) cw_L_46 (As := [.int a]) (st := [.int 0, .ref 73]) wi_yX5_fallout we_yX5_fallout (ci := 5) (q := (RX5, TX5, 7)) rfl rfl (wl_atO tw_0) rfl ⟨Nat.le_of_ble_eq_true rfl, Nat.le_of_ble_eq_true rfl, Nat.le_of_ble_eq_true rfl, Nat.le_of_ble_eq_true rfl⟩ (Nat.le_of_ble_eq_true rfl) dL_fallout_4 rfl (Nat.le_of_ble_eq_true rfl) (Nat.le_of_ble_eq_true rfl) (xXJ (fun En mi ml h => ?_)) rfl (zkJ (fun r9 mi9 ml9 h9 => ?_))
  · have hEn : En = xIA := by
      first | exact h.2.2.1 | exact h.2.1
    subst hEn
    exact ⟨[], ⟨0, 8, 11, 13⟩, [], rfl, (fun z hz => by cases hz), rfl, (by decide : (13 : Nat) ≠ 0), lk_13, ck_xIA, 3, 1, 1, by decide, Or.inr ⟨3, rfl, dL_fallout_11, rfl⟩, dL_fallout_12, by decide, dL_fallout_13⟩
  refine SZ_last 0 tw_73 rfl (by decide) dL_fallout_7 ?_
  refine EZ_goto 14 dL_fallout_8 (by decide) ?_
  refine EZ_iconst 0 (by decide) dL_fallout_14 ?_
  exact EZ_iret rfl (Nat.le_of_ble_eq_true rfl) (Nat.le_of_ble_eq_true rfl) dL_fallout_15 (okHJ h9)
set_option maxRecDepth 100000 in
theorem h_L_hitsOn (l : Launch) (hfl : l.stackTraces = false) (mi : MI) (ml : MJ) (V : Nat → Int32) (hV : WFV V) (hD : DR 1 mi V) (n : Nat) (hn : (V 5).toInt = (n : Int)) (h10 : n ≤ 10) (a : Int32) (A : Int) (hA : a.toInt = A) : CtH l yL_hitsOn (.codeWith yL_hitsOn cL_hitsOn 4 (some .int) [((0 : Nat), (9 : Nat), (12 : Nat), (21 : Nat))]) 5 1 6 [.ref 0, .int a, .ref 73] (wl mi ml) (HQ (fun r mi9 ml9 => ml = ml9 ∧ Fr [51, 52] mi mi9 ∧ ∃ b : Nat, b < n ∧ A = (b : Int) ∧ r.toInt = (hcA (DV V) (V 3).toInt (V (6 + 2 * b)).toInt (prV V (2 ^ n - 1) n) (prV V (2 ^ n - 1) n).length : Int)) (fun En mi9 ml9 => ml = ml9 ∧ mi = mi9 ∧ En = xIO ∧ ¬ (0 ≤ A ∧ A < (n : Int))) cd1) noX := by
  refine CtH_of pn_L hfl (Nat.le_of_ble_eq_true rfl) ?_
  show EZ (fun s _ => Nc2 s) l RL cL_hitsOn 4 (some .int) false (tableOf [((0 : Nat), (9 : Nat), (12 : Nat), (21 : Nat))]) (rmE 5 1 6) (wl mi ml) (TgM (wl mi ml) 1 6 (HQ (fun r mi9 ml9 => ml = ml9 ∧ Fr [51, 52] mi mi9 ∧ ∃ b : Nat, b < n ∧ A = (b : Int) ∧ r.toInt = (hcA (DV V) (V 3).toInt (V (6 + 2 * b)).toInt (prV V (2 ^ n - 1) n) (prV V (2 ^ n - 1) n).length : Int)) (fun En mi9 ml9 => ml = ml9 ∧ mi = mi9 ∧ En = xIO ∧ ¬ (0 ≤ A ∧ A < (n : Int))) cd1) noX) 0 0 0 [(0, .ref 0), (1, .int a), (2, .ref 73)] [] (wl mi ml)
  refine EZ_aload_n 2 dL_hitsOn_0 rfl rfl ?_
  refine EZ_iconst 0 (by decide) dL_hitsOn_1 ?_
  refine EZ_aload_n 0 dL_hitsOn_2 rfl rfl ?_
  refine EZ_iload_n 1 dL_hitsOn_3 rfl rfl ?_
  refine EZ_callVH (c_X5_hitsOn l hfl mi ml V hV hD n hn h10 a A hA) cw_L_50 (As := [.int a]) (st := [.int 0, .ref 73]) wi_yX5_hitsOn we_yX5_hitsOn (ci := 5) (q := (RX5, TX5, 7)) rfl rfl (wl_atO tw_0) rfl ⟨Nat.le_of_ble_eq_true rfl, Nat.le_of_ble_eq_true rfl, Nat.le_of_ble_eq_true rfl, Nat.le_of_ble_eq_true rfl⟩ (Nat.le_of_ble_eq_true rfl) dL_hitsOn_4 rfl (Nat.le_of_ble_eq_true rfl) (Nat.le_of_ble_eq_true rfl) (xXQ (fun En mi ml h => ?_)) rfl (zkI (fun r9 mi9 ml9 h9 => ?_))
  · have hEn : En = xIO := by
      first | exact h.2.2.1 | exact h.2.1
    subst hEn
    exact ⟨[], ⟨0, 9, 12, 21⟩, [], rfl, (fun z hz => by cases hz), rfl, (by decide : (21 : Nat) ≠ 0), lk_21, ck_xIO, 3, 1, 1, by decide, Or.inr ⟨3, rfl, dL_hitsOn_12, rfl⟩, dL_hitsOn_13, by decide, dL_hitsOn_14⟩
  refine EZ_i2l dL_hitsOn_7 ?_
  refine SZ_last 0 tw_73 rfl (by decide) dL_hitsOn_8 ?_
  refine EZ_goto 15 dL_hitsOn_9 (by decide) ?_
  refine EZ_iconst 0 (by decide) dL_hitsOn_15 ?_
  exact EZ_iret rfl (Nat.le_of_ble_eq_true rfl) (Nat.le_of_ble_eq_true rfl) dL_hitsOn_16 (okHQ h9)
set_option maxRecDepth 100000 in
theorem h_L_leastSpan (l : Launch) (hfl : l.stackTraces = false) (mi : MI) (ml : MJ) (V : Nat → Int32) (hV : WFV V) (hD : DR 1 mi V) (n : Nat) (hn : (V 5).toInt = (n : Int)) (h10 : n ≤ 10) (hz : ml 56 0 = 0 ∧ ml 57 0 = 0) (sp : Nat) (hsp : (V 4).toInt = (sp : Int)) (hs1 : 1 ≤ sp) (hs10 : sp ≤ 10) (a : Int32) (A : Int) (hA : a.toInt = A) : CtH l yL_leastSpan (.codeWith yL_leastSpan cL_leastSpan 4 (some .int) [((0 : Nat), (9 : Nat), (12 : Nat), (13 : Nat))]) 11 1 6 [.ref 0, .int a, .ref 73] (wl mi ml) (HQ (fun r mi9 ml9 => Fr [53, 54, 55] mi mi9 ∧ FLc ml ml9 ∧ (ml9 56 0 = 0 ∧ ml9 57 0 = 0) ∧ (1 ≤ A ∧ A ≤ 6) ∧ ∃ m : Nat, A = (m : Int) ∧ BrE V m r mi9 ml9) (fun En mi9 ml9 => mi = mi9 ∧ ml = ml9 ∧ En = xIA ∧ ¬ (1 ≤ A ∧ A ≤ 6)) cd1) noX := by
  refine CtH_of pn_L hfl (Nat.le_of_ble_eq_true rfl) ?_
  show EZ (fun s _ => Nc2 s) l RL cL_leastSpan 4 (some .int) false (tableOf [((0 : Nat), (9 : Nat), (12 : Nat), (13 : Nat))]) (rmE 11 1 6) (wl mi ml) (TgM (wl mi ml) 1 6 (HQ (fun r mi9 ml9 => Fr [53, 54, 55] mi mi9 ∧ FLc ml ml9 ∧ (ml9 56 0 = 0 ∧ ml9 57 0 = 0) ∧ (1 ≤ A ∧ A ≤ 6) ∧ ∃ m : Nat, A = (m : Int) ∧ BrE V m r mi9 ml9) (fun En mi9 ml9 => mi = mi9 ∧ ml = ml9 ∧ En = xIA ∧ ¬ (1 ≤ A ∧ A ≤ 6)) cd1) noX) 0 0 0 [(0, .ref 0), (1, .int a), (2, .ref 73)] [] (wl mi ml)
  refine EZ_aload_n 2 dL_leastSpan_0 rfl rfl ?_
  refine EZ_iconst 0 (by decide) dL_leastSpan_1 ?_
  refine EZ_aload_n 0 dL_leastSpan_2 rfl rfl ?_
  refine EZ_iload_n 1 dL_leastSpan_3 rfl rfl ?_
  refine EZ_callVH (c_X5_leastSpan l hfl mi ml V hV hD n hn h10 hz sp hsp hs1 hs10 a A hA) cw_L_53 (As := [.int a]) (st := [.int 0, .ref 73]) wi_yX5_leastSpan we_yX5_leastSpan (ci := 5) (q := (RX5, TX5, 7)) rfl rfl (wl_atO tw_0) rfl ⟨Nat.le_of_ble_eq_true rfl, Nat.le_of_ble_eq_true rfl, Nat.le_of_ble_eq_true rfl, Nat.le_of_ble_eq_true rfl⟩ (Nat.le_of_ble_eq_true rfl) dL_leastSpan_4 rfl (Nat.le_of_ble_eq_true rfl) (Nat.le_of_ble_eq_true rfl) (xXQ (fun En mi ml h => ?_)) rfl (zkI (fun r9 mi9 ml9 h9 => ?_))
  · have hEn : En = xIA := by
      first | exact h.2.2.1 | exact h.2.1
    subst hEn
    exact ⟨[], ⟨0, 9, 12, 13⟩, [], rfl, (fun z hz => by cases hz), rfl, (by decide : (13 : Nat) ≠ 0), lk_13, ck_xIA, 3, 1, 1, by decide, Or.inr ⟨3, rfl, dL_leastSpan_12, rfl⟩, dL_leastSpan_13, by decide, dL_leastSpan_14⟩
  refine EZ_i2l dL_leastSpan_7 ?_
  refine SZ_last 0 tw_73 rfl (by decide) dL_leastSpan_8 ?_
  refine EZ_goto 15 dL_leastSpan_9 (by decide) ?_
  refine EZ_iconst 0 (by decide) dL_leastSpan_15 ?_
  exact EZ_iret rfl (Nat.le_of_ble_eq_true rfl) (Nat.le_of_ble_eq_true rfl) dL_leastSpan_16 (okHQ h9)
set_option maxRecDepth 100000 in
theorem h_L_bestRuler (l : Launch) (hfl : l.stackTraces = false) (mi : MI) (ml : MJ) (V : Nat → Int32) (hV : WFV V) (hD : DR 1 mi V) (n : Nat) (hn : (V 5).toInt = (n : Int)) (h10 : n ≤ 10) (hz : ml 56 0 = 0 ∧ ml 57 0 = 0) (sp : Nat) (hsp : (V 4).toInt = (sp : Int)) (hs1 : 1 ≤ sp) (hs10 : sp ≤ 10) (a : Int32) (A : Int) (hA : a.toInt = A) : CtH l yL_bestRuler (.codeWith yL_bestRuler cL_bestRuler 4 (some .int) [((0 : Nat), (8 : Nat), (11 : Nat), (13 : Nat))]) 11 1 6 [.ref 0, .int a, .ref 73] (wl mi ml) (HJ (fun r mi9 ml9 => Fr [53, 54, 55] mi mi9 ∧ FLc ml ml9 ∧ (ml9 56 0 = 0 ∧ ml9 57 0 = 0) ∧ (1 ≤ A ∧ A ≤ 6) ∧ ∃ m : Nat, A = (m : Int) ∧ ((r = 0 ∧ ∀ t, t ≤ 40 → skFA V m t = none) ∨ (∃ (s : Nat) (R : List Nat), s ≤ 40 ∧ skFA V m s = some R ∧ (∀ t, t < s → skFA V m t = none) ∧ r = rbF R))) (fun En mi9 ml9 => mi = mi9 ∧ ml = ml9 ∧ En = xIA ∧ ¬ (1 ≤ A ∧ A ≤ 6)) cd1) noX := by
  refine CtH_of pn_L hfl (Nat.le_of_ble_eq_true rfl) ?_
  show EZ (fun s _ => Nc2 s) l RL cL_bestRuler 4 (some .int) false (tableOf [((0 : Nat), (8 : Nat), (11 : Nat), (13 : Nat))]) (rmE 11 1 6) (wl mi ml) (TgM (wl mi ml) 1 6 (HJ (fun r mi9 ml9 => Fr [53, 54, 55] mi mi9 ∧ FLc ml ml9 ∧ (ml9 56 0 = 0 ∧ ml9 57 0 = 0) ∧ (1 ≤ A ∧ A ≤ 6) ∧ ∃ m : Nat, A = (m : Int) ∧ ((r = 0 ∧ ∀ t, t ≤ 40 → skFA V m t = none) ∨ (∃ (s : Nat) (R : List Nat), s ≤ 40 ∧ skFA V m s = some R ∧ (∀ t, t < s → skFA V m t = none) ∧ r = rbF R))) (fun En mi9 ml9 => mi = mi9 ∧ ml = ml9 ∧ En = xIA ∧ ¬ (1 ≤ A ∧ A ≤ 6)) cd1) noX) 0 0 0 [(0, .ref 0), (1, .int a), (2, .ref 73)] [] (wl mi ml)
  refine EZ_aload_n 2 dL_bestRuler_0 rfl rfl ?_
  refine EZ_iconst 0 (by decide) dL_bestRuler_1 ?_
  refine EZ_aload_n 0 dL_bestRuler_2 rfl rfl ?_
  refine EZ_iload_n 1 dL_bestRuler_3 rfl rfl ?_
  refine EZ_callVH (c_X5_bestRuler l hfl mi ml V hV hD n hn h10 hz sp hsp hs1 hs10 a A hA) cw_L_56 (As := [.int a]) (st := [.int 0, .ref 73]) wi_yX5_bestRuler we_yX5_bestRuler (ci := 5) (q := (RX5, TX5, 7)) rfl rfl (wl_atO tw_0) rfl ⟨Nat.le_of_ble_eq_true rfl, Nat.le_of_ble_eq_true rfl, Nat.le_of_ble_eq_true rfl, Nat.le_of_ble_eq_true rfl⟩ (Nat.le_of_ble_eq_true rfl) dL_bestRuler_4 rfl (Nat.le_of_ble_eq_true rfl) (Nat.le_of_ble_eq_true rfl) (xXJ (fun En mi ml h => ?_)) rfl (zkJ (fun r9 mi9 ml9 h9 => ?_))
  · have hEn : En = xIA := by
      first | exact h.2.2.1 | exact h.2.1
    subst hEn
    exact ⟨[], ⟨0, 8, 11, 13⟩, [], rfl, (fun z hz => by cases hz), rfl, (by decide : (13 : Nat) ≠ 0), lk_13, ck_xIA, 3, 1, 1, by decide, Or.inr ⟨3, rfl, dL_bestRuler_11, rfl⟩, dL_bestRuler_12, by decide, dL_bestRuler_13⟩
  refine SZ_last 0 tw_73 rfl (by decide) dL_bestRuler_7 ?_
  refine EZ_goto 14 dL_bestRuler_8 (by decide) ?_
  refine EZ_iconst 0 (by decide) dL_bestRuler_14 ?_
  exact EZ_iret rfl (Nat.le_of_ble_eq_true rfl) (Nat.le_of_ble_eq_true rfl) dL_bestRuler_15 (okHJ h9)
set_option maxRecDepth 100000 in
theorem h_L_rulers (l : Launch) (hfl : l.stackTraces = false) (mi : MI) (ml : MJ) (V : Nat → Int32) (hV : WFV V) (hD : DR 1 mi V) (n : Nat) (hn : (V 5).toInt = (n : Int)) (h10 : n ≤ 10) (hz : ml 56 0 = 0 ∧ ml 57 0 = 0) (sp : Nat) (hsp : (V 4).toInt = (sp : Int)) (hs1 : 1 ≤ sp) (hs10 : sp ≤ 10) (a : Int32) (A : Int) (hA : a.toInt = A) (b : Int32) (B : Int) (hB : b.toInt = B) : CtH l yL_rulers (.codeWith yL_rulers cL_rulers 5 (some .int) [((0 : Nat), (10 : Nat), (13 : Nat), (13 : Nat))]) 10 2 12 [.ref 0, .int a, .int b, .ref 73] (wl mi ml) (HQ (fun r mi9 ml9 => Fr [53, 54, 55] mi mi9 ∧ FLc ml ml9 ∧ (ml9 56 0 = 0 ∧ ml9 57 0 = 0) ∧ ((1 ≤ A ∧ A ≤ 5) ∧ (0 ≤ B ∧ B ≤ 40)) ∧ ∃ m S : Nat, A = (m : Int) ∧ B = (S : Int) ∧ CrE V m S 10000 r.toInt mi9 ml9) (fun En mi9 ml9 => mi = mi9 ∧ ml = ml9 ∧ En = xIA ∧ ¬ ((1 ≤ A ∧ A ≤ 5) ∧ (0 ≤ B ∧ B ≤ 40))) cd1) noX := by
  refine CtH_of pn_L hfl (Nat.le_of_ble_eq_true rfl) ?_
  show EZ (fun s _ => Nc2 s) l RL cL_rulers 5 (some .int) false (tableOf [((0 : Nat), (10 : Nat), (13 : Nat), (13 : Nat))]) (rmE 10 2 12) (wl mi ml) (TgM (wl mi ml) 2 12 (HQ (fun r mi9 ml9 => Fr [53, 54, 55] mi mi9 ∧ FLc ml ml9 ∧ (ml9 56 0 = 0 ∧ ml9 57 0 = 0) ∧ ((1 ≤ A ∧ A ≤ 5) ∧ (0 ≤ B ∧ B ≤ 40)) ∧ ∃ m S : Nat, A = (m : Int) ∧ B = (S : Int) ∧ CrE V m S 10000 r.toInt mi9 ml9) (fun En mi9 ml9 => mi = mi9 ∧ ml = ml9 ∧ En = xIA ∧ ¬ ((1 ≤ A ∧ A ≤ 5) ∧ (0 ≤ B ∧ B ≤ 40))) cd1) noX) 0 0 0 [(0, .ref 0), (1, .int a), (2, .int b), (3, .ref 73)] [] (wl mi ml)
  refine EZ_aload_n 3 dL_rulers_0 rfl rfl ?_
  refine EZ_iconst 0 (by decide) dL_rulers_1 ?_
  refine EZ_aload_n 0 dL_rulers_2 rfl rfl ?_
  refine EZ_iload_n 1 dL_rulers_3 rfl rfl ?_
  refine EZ_iload_n 2 dL_rulers_4 rfl rfl ?_
  refine EZ_callVH (c_X5_rulers l hfl mi ml V hV hD n hn h10 hz sp hsp hs1 hs10 a A hA b B hB) cw_L_59 (As := [.int a, .int b]) (st := [.int 0, .ref 73]) wi_yX5_rulers we_yX5_rulers (ci := 5) (q := (RX5, TX5, 7)) rfl rfl (wl_atO tw_0) rfl ⟨Nat.le_of_ble_eq_true rfl, Nat.le_of_ble_eq_true rfl, Nat.le_of_ble_eq_true rfl, Nat.le_of_ble_eq_true rfl⟩ (Nat.le_of_ble_eq_true rfl) dL_rulers_5 rfl (Nat.le_of_ble_eq_true rfl) (Nat.le_of_ble_eq_true rfl) (xXQ (fun En mi ml h => ?_)) rfl (zkI (fun r9 mi9 ml9 h9 => ?_))
  · have hEn : En = xIA := by
      first | exact h.2.2.1 | exact h.2.1
    subst hEn
    exact ⟨[], ⟨0, 10, 13, 13⟩, [], rfl, (fun z hz => by cases hz), rfl, (by decide : (13 : Nat) ≠ 0), lk_13, ck_xIA, 4, 2, 1, by decide, Or.inl ⟨dL_rulers_13, rfl⟩, dL_rulers_15, by decide, dL_rulers_16⟩
  refine EZ_i2l dL_rulers_8 ?_
  refine SZ_last 0 tw_73 rfl (by decide) dL_rulers_9 ?_
  refine EZ_goto 17 dL_rulers_10 (by decide) ?_
  refine EZ_iconst 0 (by decide) dL_rulers_17 ?_
  exact EZ_iret rfl (Nat.le_of_ble_eq_true rfl) (Nat.le_of_ble_eq_true rfl) dL_rulers_18 (okHQ h9)
set_option maxRecDepth 100000 in
theorem h_L_openings (l : Launch) (hfl : l.stackTraces = false) (mi : MI) (ml : MJ) (V : Nat → Int32) (hV : WFV V) (hD : DR 1 mi V) (n : Nat) (hn : (V 5).toInt = (n : Int)) (h10 : n ≤ 10) (hz : ml 56 0 = 0 ∧ ml 57 0 = 0) (a : Int32) (A : Int) (hA : a.toInt = A) : CtH l yL_openings (.codeWith yL_openings cL_openings 4 (some .int) [((0 : Nat), (8 : Nat), (11 : Nat), (13 : Nat))]) 7 1 6 [.ref 0, .int a, .ref 73] (wl mi ml) (HJ (fun r mi9 ml9 => Fr [53, 54, 55] mi mi9 ∧ FLc ml ml9 ∧ (ml9 56 0 = 0 ∧ ml9 57 0 = 0) ∧ (0 ≤ A ∧ A ≤ 60) ∧ r = opS V n A 64) (fun En mi9 ml9 => mi = mi9 ∧ ml = ml9 ∧ En = xIA ∧ ¬ (0 ≤ A ∧ A ≤ 60)) cd1) noX := by
  refine CtH_of pn_L hfl (Nat.le_of_ble_eq_true rfl) ?_
  show EZ (fun s _ => Nc2 s) l RL cL_openings 4 (some .int) false (tableOf [((0 : Nat), (8 : Nat), (11 : Nat), (13 : Nat))]) (rmE 7 1 6) (wl mi ml) (TgM (wl mi ml) 1 6 (HJ (fun r mi9 ml9 => Fr [53, 54, 55] mi mi9 ∧ FLc ml ml9 ∧ (ml9 56 0 = 0 ∧ ml9 57 0 = 0) ∧ (0 ≤ A ∧ A ≤ 60) ∧ r = opS V n A 64) (fun En mi9 ml9 => mi = mi9 ∧ ml = ml9 ∧ En = xIA ∧ ¬ (0 ≤ A ∧ A ≤ 60)) cd1) noX) 0 0 0 [(0, .ref 0), (1, .int a), (2, .ref 73)] [] (wl mi ml)
  refine EZ_aload_n 2 dL_openings_0 rfl rfl ?_
  refine EZ_iconst 0 (by decide) dL_openings_1 ?_
  refine EZ_aload_n 0 dL_openings_2 rfl rfl ?_
  refine EZ_iload_n 1 dL_openings_3 rfl rfl ?_
  refine EZ_callVH (c_X5_openings l hfl mi ml V hV hD n hn h10 hz a A hA) cw_L_62 (As := [.int a]) (st := [.int 0, .ref 73]) wi_yX5_openings we_yX5_openings (ci := 5) (q := (RX5, TX5, 7)) rfl rfl (wl_atO tw_0) rfl ⟨Nat.le_of_ble_eq_true rfl, Nat.le_of_ble_eq_true rfl, Nat.le_of_ble_eq_true rfl, Nat.le_of_ble_eq_true rfl⟩ (Nat.le_of_ble_eq_true rfl) dL_openings_4 rfl (Nat.le_of_ble_eq_true rfl) (Nat.le_of_ble_eq_true rfl) (xXJ (fun En mi ml h => ?_)) rfl (zkJ (fun r9 mi9 ml9 h9 => ?_))
  · have hEn : En = xIA := by
      first | exact h.2.2.1 | exact h.2.1
    subst hEn
    exact ⟨[], ⟨0, 8, 11, 13⟩, [], rfl, (fun z hz => by cases hz), rfl, (by decide : (13 : Nat) ≠ 0), lk_13, ck_xIA, 3, 1, 1, by decide, Or.inr ⟨3, rfl, dL_openings_11, rfl⟩, dL_openings_12, by decide, dL_openings_13⟩
  refine SZ_last 0 tw_73 rfl (by decide) dL_openings_7 ?_
  refine EZ_goto 14 dL_openings_8 (by decide) ?_
  refine EZ_iconst 0 (by decide) dL_openings_14 ?_
  exact EZ_iret rfl (Nat.le_of_ble_eq_true rfl) (Nat.le_of_ble_eq_true rfl) dL_openings_15 (okHJ h9)
set_option maxRecDepth 100000 in
theorem h_L_putIn (l : Launch) (hfl : l.stackTraces = false) (mi : MI) (ml : MJ) (V : Nat → Int32) (hV : WFV V) (hD : DR 1 mi V) (n : Nat) (hn : (V 5).toInt = (n : Int)) (h10 : n ≤ 10) (hz : ml 56 0 = 0 ∧ ml 57 0 = 0) (p sz : Nat) (hp : (mi 17 1).toInt = (p : Int)) (hp4 : p < 4) (hsz : (mi 17 2).toInt = (sz : Int)) (hs4 : sz ≤ 4) (a : Int32) (A : Int) (hA : a.toInt = A) : CtH l yL_putIn (.codeWith yL_putIn cL_putIn 4 (some .int) [((0 : Nat), (9 : Nat), (12 : Nat), (13 : Nat)), ((0 : Nat), (9 : Nat), (15 : Nat), (15 : Nat))]) 7 3 18 [.ref 0, .int a, .ref 73] (wl mi ml) (HQ (fun r mi9 ml9 => FLc ml ml9 ∧ (ml9 56 0 = 0 ∧ ml9 57 0 = 0) ∧ (0 ≤ A ∧ A ≤ 60) ∧ n < 10 ∧ ((r = -1 ∧ (∀ c, c < 64 → ¬ opP V n A c) ∧ Fr [53, 54, 55] mi mi9) ∨ (∃ (z : Nat) (mj mk : MI), z < 64 ∧ opP V n A z ∧ (∀ c, c < z → ¬ opP V n A c) ∧ r.toInt = (z : Int) ∧ Fr [53, 54, 55] mi mj ∧ PUS p sz mj mk ∧ u2 (u2 (u2 (u2 mk 1 5 (V 5 + 1)) 2 n r) 3 n a) 1 10 0 = mi9))) (fun En mi9 ml9 => mi = mi9 ∧ ml = ml9 ∧ ((En = xIA ∧ ¬ (0 ≤ A ∧ A ≤ 60)) ∨ (En = xIS ∧ (0 ≤ A ∧ A ≤ 60) ∧ ¬ n < 10))) cdA) noX := by
  refine CtH_of pn_L hfl (Nat.le_of_ble_eq_true rfl) ?_
  show EZ (fun s _ => Nc2 s) l RL cL_putIn 4 (some .int) false (tableOf [((0 : Nat), (9 : Nat), (12 : Nat), (13 : Nat)), ((0 : Nat), (9 : Nat), (15 : Nat), (15 : Nat))]) (rmE 7 3 18) (wl mi ml) (TgM (wl mi ml) 3 18 (HQ (fun r mi9 ml9 => FLc ml ml9 ∧ (ml9 56 0 = 0 ∧ ml9 57 0 = 0) ∧ (0 ≤ A ∧ A ≤ 60) ∧ n < 10 ∧ ((r = -1 ∧ (∀ c, c < 64 → ¬ opP V n A c) ∧ Fr [53, 54, 55] mi mi9) ∨ (∃ (z : Nat) (mj mk : MI), z < 64 ∧ opP V n A z ∧ (∀ c, c < z → ¬ opP V n A c) ∧ r.toInt = (z : Int) ∧ Fr [53, 54, 55] mi mj ∧ PUS p sz mj mk ∧ u2 (u2 (u2 (u2 mk 1 5 (V 5 + 1)) 2 n r) 3 n a) 1 10 0 = mi9))) (fun En mi9 ml9 => mi = mi9 ∧ ml = ml9 ∧ ((En = xIA ∧ ¬ (0 ≤ A ∧ A ≤ 60)) ∨ (En = xIS ∧ (0 ≤ A ∧ A ≤ 60) ∧ ¬ n < 10))) cdA) noX) 0 0 0 [(0, .ref 0), (1, .int a), (2, .ref 73)] [] (wl mi ml)
  refine EZ_aload_n 2 dL_putIn_0 rfl rfl ?_
  refine EZ_iconst 0 (by decide) dL_putIn_1 ?_
  refine EZ_aload_n 0 dL_putIn_2 rfl rfl ?_
  refine EZ_iload_n 1 dL_putIn_3 rfl rfl ?_
  refine EZ_callVH (c_X5_putIn l hfl mi ml V hV hD n hn h10 hz p sz hp hp4 hsz hs4 a A hA) cw_L_65 (As := [.int a]) (st := [.int 0, .ref 73]) wi_yX5_putIn we_yX5_putIn (ci := 5) (q := (RX5, TX5, 7)) rfl rfl (wl_atO tw_0) rfl ⟨Nat.le_of_ble_eq_true rfl, Nat.le_of_ble_eq_true rfl, Nat.le_of_ble_eq_true rfl, Nat.le_of_ble_eq_true rfl⟩ (Nat.le_of_ble_eq_true rfl) dL_putIn_4 rfl (Nat.le_of_ble_eq_true rfl) (Nat.le_of_ble_eq_true rfl) (xXQ (fun En mi ml h => ?_)) rfl (zkI (fun r9 mi9 ml9 h9 => ?_))
  · have hEn : En = xIA ∨ En = xIS := by
      have h9 := h.2.2
      first | exact h9.elim (fun q => Or.inl q.1) (fun q => Or.inr q.1) | exact h9.elim (fun q => Or.inr q.1) (fun q => Or.inl q.1)
    rcases hEn with e | e
    · subst e
      exact (show HOK RL _ _ _ _ _ 1 from ⟨[], ⟨0, 9, 12, 13⟩, [⟨0, 9, 15, 15⟩], rfl, (fun z hz => by cases hz), rfl, (by decide : (13 : Nat) ≠ 0), lk_13, ck_xIA, 3, 1, 1, by decide, Or.inr ⟨3, rfl, dL_putIn_12, rfl⟩, dL_putIn_13, by decide, dL_putIn_14⟩)
    · subst e
      exact (show HOK RL _ _ _ _ _ 2 from ⟨[⟨0, 9, 12, 13⟩], ⟨0, 9, 15, 15⟩, [], rfl, (fun z hz => by rw [List.mem_singleton.mp hz]; exact Or.inr ⟨(by decide : (13 : Nat) ≠ 0), _, lk_13, fun s hs => hs.1⟩), rfl, (by decide : (15 : Nat) ≠ 0), lk_15, ck_xIS, 3, 1, 2, by decide, Or.inr ⟨3, rfl, dL_putIn_15, rfl⟩, dL_putIn_16, by decide, dL_putIn_17⟩)
  refine EZ_i2l dL_putIn_7 ?_
  refine SZ_last 0 tw_73 rfl (by decide) dL_putIn_8 ?_
  refine EZ_goto 18 dL_putIn_9 (by decide) ?_
  refine EZ_iconst 0 (by decide) dL_putIn_18 ?_
  exact EZ_iret rfl (Nat.le_of_ble_eq_true rfl) (Nat.le_of_ble_eq_true rfl) dL_putIn_19 (okHQ h9)
set_option maxRecDepth 100000 in
theorem h_L_addMixer (l : Launch) (hfl : l.stackTraces = false) (mi : MI) (ml : MJ) (V : Nat → Int32) (hV : WFV V) (hD : DR 1 mi V) (n : Nat) (hn : (V 5).toInt = (n : Int)) (h10 : n ≤ 10) (m : Nat) (hm : (V 26).toInt = (m : Int)) (h5 : m ≤ 5) (p sz : Nat) (hp : (mi 17 1).toInt = (p : Int)) (hp4 : p < 4) (hsz : (mi 17 2).toInt = (sz : Int)) (hs4 : sz ≤ 4) (a : Int32) (A : Int) (hA : a.toInt = A) : CtH l yL_addMixer (.codeWith yL_addMixer cL_addMixer 4 (some .int) [((0 : Nat), (9 : Nat), (12 : Nat), (13 : Nat)), ((0 : Nat), (9 : Nat), (15 : Nat), (15 : Nat))]) 4 2 12 [.ref 0, .int a, .ref 73] (wl mi ml) (HQ (fun r mi9 ml9 => ml = ml9 ∧ (0 ≤ A ∧ A ≤ ((2 ^ n - 1 : Nat) : Int)) ∧ m < 5 ∧ r.toInt = (m : Int) ∧ ∃ mk, PUS p sz mi mk ∧ u2 (u2 (u2 mk 1 8 (V 26 + 1)) 4 m a) 1 10 0 = mi9) (fun En mi9 ml9 => mi = mi9 ∧ ml = ml9 ∧ ((En = xIA ∧ ¬ (0 ≤ A ∧ A ≤ ((2 ^ n - 1 : Nat) : Int))) ∨ (En = xIS ∧ (0 ≤ A ∧ A ≤ ((2 ^ n - 1 : Nat) : Int)) ∧ ¬ m < 5))) cdA) noX := by
  refine CtH_of pn_L hfl (Nat.le_of_ble_eq_true rfl) ?_
  show EZ (fun s _ => Nc2 s) l RL cL_addMixer 4 (some .int) false (tableOf [((0 : Nat), (9 : Nat), (12 : Nat), (13 : Nat)), ((0 : Nat), (9 : Nat), (15 : Nat), (15 : Nat))]) (rmE 4 2 12) (wl mi ml) (TgM (wl mi ml) 2 12 (HQ (fun r mi9 ml9 => ml = ml9 ∧ (0 ≤ A ∧ A ≤ ((2 ^ n - 1 : Nat) : Int)) ∧ m < 5 ∧ r.toInt = (m : Int) ∧ ∃ mk, PUS p sz mi mk ∧ u2 (u2 (u2 mk 1 8 (V 26 + 1)) 4 m a) 1 10 0 = mi9) (fun En mi9 ml9 => mi = mi9 ∧ ml = ml9 ∧ ((En = xIA ∧ ¬ (0 ≤ A ∧ A ≤ ((2 ^ n - 1 : Nat) : Int))) ∨ (En = xIS ∧ (0 ≤ A ∧ A ≤ ((2 ^ n - 1 : Nat) : Int)) ∧ ¬ m < 5))) cdA) noX) 0 0 0 [(0, .ref 0), (1, .int a), (2, .ref 73)] [] (wl mi ml)
  refine EZ_aload_n 2 dL_addMixer_0 rfl rfl ?_
  refine EZ_iconst 0 (by decide) dL_addMixer_1 ?_
  refine EZ_aload_n 0 dL_addMixer_2 rfl rfl ?_
  refine EZ_iload_n 1 dL_addMixer_3 rfl rfl ?_
  refine EZ_callVH (c_X5_addMixer l hfl mi ml V hV hD n hn h10 m hm h5 p sz hp hp4 hsz hs4 a A hA) cw_L_68 (As := [.int a]) (st := [.int 0, .ref 73]) wi_yX5_addMixer we_yX5_addMixer (ci := 5) (q := (RX5, TX5, 7)) rfl rfl (wl_atO tw_0) rfl ⟨Nat.le_of_ble_eq_true rfl, Nat.le_of_ble_eq_true rfl, Nat.le_of_ble_eq_true rfl, Nat.le_of_ble_eq_true rfl⟩ (Nat.le_of_ble_eq_true rfl) dL_addMixer_4 rfl (Nat.le_of_ble_eq_true rfl) (Nat.le_of_ble_eq_true rfl) (xXQ (fun En mi ml h => ?_)) rfl (zkI (fun r9 mi9 ml9 h9 => ?_))
  · have hEn : En = xIA ∨ En = xIS := by
      have h9 := h.2.2
      first | exact h9.elim (fun q => Or.inl q.1) (fun q => Or.inr q.1) | exact h9.elim (fun q => Or.inr q.1) (fun q => Or.inl q.1)
    rcases hEn with e | e
    · subst e
      exact (show HOK RL _ _ _ _ _ 1 from ⟨[], ⟨0, 9, 12, 13⟩, [⟨0, 9, 15, 15⟩], rfl, (fun z hz => by cases hz), rfl, (by decide : (13 : Nat) ≠ 0), lk_13, ck_xIA, 3, 1, 1, by decide, Or.inr ⟨3, rfl, dL_addMixer_12, rfl⟩, dL_addMixer_13, by decide, dL_addMixer_14⟩)
    · subst e
      exact (show HOK RL _ _ _ _ _ 2 from ⟨[⟨0, 9, 12, 13⟩], ⟨0, 9, 15, 15⟩, [], rfl, (fun z hz => by rw [List.mem_singleton.mp hz]; exact Or.inr ⟨(by decide : (13 : Nat) ≠ 0), _, lk_13, fun s hs => hs.1⟩), rfl, (by decide : (15 : Nat) ≠ 0), lk_15, ck_xIS, 3, 1, 2, by decide, Or.inr ⟨3, rfl, dL_addMixer_15, rfl⟩, dL_addMixer_16, by decide, dL_addMixer_17⟩)
  refine EZ_i2l dL_addMixer_7 ?_
  refine SZ_last 0 tw_73 rfl (by decide) dL_addMixer_8 ?_
  refine EZ_goto 18 dL_addMixer_9 (by decide) ?_
  refine EZ_iconst 0 (by decide) dL_addMixer_18 ?_
  exact EZ_iret rfl (Nat.le_of_ble_eq_true rfl) (Nat.le_of_ble_eq_true rfl) dL_addMixer_19 (okHQ h9)
set_option maxRecDepth 100000 in
theorem h_L_setMember (l : Launch) (hfl : l.stackTraces = false) (mi : MI) (ml : MJ) (V : Nat → Int32) (hV : WFV V) (hD : DR 1 mi V) (n : Nat) (hn : (V 5).toInt = (n : Int)) (h10 : n ≤ 10) (m : Nat) (hm : (V 26).toInt = (m : Int)) (h5 : m ≤ 5) (p sz : Nat) (hp : (mi 17 1).toInt = (p : Int)) (hp4 : p < 4) (hsz : (mi 17 2).toInt = (sz : Int)) (hs4 : sz ≤ 4) (a : Int32) (A : Int) (hA : a.toInt = A) (c : Int32) (C : Int) (hC : c.toInt = C) (xb : Int32) (P : Prop) (hxb : xb = bI P) : CtH l yL_setMember (.codeWith yL_setMember cL_setMember 6 (some .int) [((0 : Nat), (12 : Nat), (15 : Nat), (21 : Nat))]) 4 2 12 [.ref 0, .int a, .int c, .int xb, .ref 73] (wl mi ml) (HQ (fun r mi9 ml9 => ml = ml9 ∧ ∃ (b d : Nat) (mk : MI), b < m ∧ d < n ∧ A = (b : Int) ∧ C = (d : Int) ∧ PUS p sz mi mk ∧ u2 (u2 mk 4 b r) 1 10 0 = mi9 ∧ ((P ∧ r = V (27 + b) ||| ((1 : Int32) <<< (c &&& 31))) ∨ (¬ P ∧ r = V (27 + b) &&& (((1 : Int32) <<< (c &&& 31)) ^^^ (-1))))) (fun En mi9 ml9 => mi = mi9 ∧ ml = ml9 ∧ En = xIO ∧ ¬ ((0 ≤ A ∧ A < (m : Int)) ∧ (0 ≤ C ∧ C < (n : Int)))) cd1) noX := by
  subst hxb
  refine CtH_of pn_L hfl (Nat.le_of_ble_eq_true rfl) ?_
  show EZ (fun s _ => Nc2 s) l RL cL_setMember 6 (some .int) false (tableOf [((0 : Nat), (12 : Nat), (15 : Nat), (21 : Nat))]) (rmE 4 2 12) (wl mi ml) (TgM (wl mi ml) 2 12 (HQ (fun r mi9 ml9 => ml = ml9 ∧ ∃ (b d : Nat) (mk : MI), b < m ∧ d < n ∧ A = (b : Int) ∧ C = (d : Int) ∧ PUS p sz mi mk ∧ u2 (u2 mk 4 b r) 1 10 0 = mi9 ∧ ((P ∧ r = V (27 + b) ||| ((1 : Int32) <<< (c &&& 31))) ∨ (¬ P ∧ r = V (27 + b) &&& (((1 : Int32) <<< (c &&& 31)) ^^^ (-1))))) (fun En mi9 ml9 => mi = mi9 ∧ ml = ml9 ∧ En = xIO ∧ ¬ ((0 ≤ A ∧ A < (m : Int)) ∧ (0 ≤ C ∧ C < (n : Int)))) cd1) noX) 0 0 0 [(0, .ref 0), (1, .int a), (2, .int c), (3, .int (bI (P))), (4, .ref 73)] [] (wl mi ml)
  refine EZ_aload 4 dL_setMember_0 rfl ?_
  refine EZ_iconst 0 (by decide) dL_setMember_2 ?_
  refine EZ_aload_n 0 dL_setMember_3 rfl rfl ?_
  refine EZ_iload_n 1 dL_setMember_4 rfl rfl ?_
  refine EZ_iload_n 2 dL_setMember_5 rfl rfl ?_
  refine EZ_iload_n 3 dL_setMember_6 rfl rfl ?_
  refine EZ_callVH (c_X5_setMember l hfl mi ml V hV hD n hn h10 m hm h5 p sz hp hp4 hsz hs4 a A hA c C hC _ P rfl) cw_L_71 (As := [.int a, .int c, .int (bI (P))]) (st := [.int 0, .ref 73]) wi_yX5_setMember we_yX5_setMember (ci := 5) (q := (RX5, TX5, 7)) rfl rfl (wl_atO tw_0) rfl ⟨Nat.le_of_ble_eq_true rfl, Nat.le_of_ble_eq_true rfl, Nat.le_of_ble_eq_true rfl, Nat.le_of_ble_eq_true rfl⟩ (Nat.le_of_ble_eq_true rfl) dL_setMember_7 rfl (Nat.le_of_ble_eq_true rfl) (Nat.le_of_ble_eq_true rfl) (xXQ (fun En mi ml h => ?_)) rfl (zkI (fun r9 mi9 ml9 h9 => ?_))
  · have hEn : En = xIO := by
      first | exact h.2.2.1 | exact h.2.1
    subst hEn
    exact ⟨[], ⟨0, 12, 15, 21⟩, [], rfl, (fun z hz => by cases hz), rfl, (by decide : (21 : Nat) ≠ 0), lk_21, ck_xIO, 5, 2, 1, by decide, Or.inl ⟨dL_setMember_15, rfl⟩, dL_setMember_17, by decide, dL_setMember_18⟩
  refine EZ_i2l dL_setMember_10 ?_
  refine SZ_last 0 tw_73 rfl (by decide) dL_setMember_11 ?_
  refine EZ_goto 19 dL_setMember_12 (by decide) ?_
  refine EZ_iconst 0 (by decide) dL_setMember_19 ?_
  exact EZ_iret rfl (Nat.le_of_ble_eq_true rfl) (Nat.le_of_ble_eq_true rfl) dL_setMember_20 (okHQ h9)
set_option maxRecDepth 100000 in
theorem h_L_mixer (l : Launch) (hfl : l.stackTraces = false) (mi : MI) (ml : MJ) (V : Nat → Int32) (hD : DR 1 mi V) (m : Nat) (hm : (V 26).toInt = (m : Int)) (h5 : m ≤ 5) (a : Int32) (A : Int) (hA : a.toInt = A) : CtH l yL_mixer (.codeWith yL_mixer cL_mixer 4 (some .int) [((0 : Nat), (9 : Nat), (12 : Nat), (21 : Nat))]) 3 1 6 [.ref 0, .int a, .ref 73] (wl mi ml) (HQ (fun r mi9 ml9 => mi = mi9 ∧ ml = ml9 ∧ ∃ b : Nat, b < m ∧ A = (b : Int) ∧ r = V (27 + b)) (fun En mi9 ml9 => mi = mi9 ∧ ml = ml9 ∧ En = xIO ∧ ¬ (0 ≤ A ∧ A < (m : Int))) cd1) noX := by
  refine CtH_of pn_L hfl (Nat.le_of_ble_eq_true rfl) ?_
  show EZ (fun s _ => Nc2 s) l RL cL_mixer 4 (some .int) false (tableOf [((0 : Nat), (9 : Nat), (12 : Nat), (21 : Nat))]) (rmE 3 1 6) (wl mi ml) (TgM (wl mi ml) 1 6 (HQ (fun r mi9 ml9 => mi = mi9 ∧ ml = ml9 ∧ ∃ b : Nat, b < m ∧ A = (b : Int) ∧ r = V (27 + b)) (fun En mi9 ml9 => mi = mi9 ∧ ml = ml9 ∧ En = xIO ∧ ¬ (0 ≤ A ∧ A < (m : Int))) cd1) noX) 0 0 0 [(0, .ref 0), (1, .int a), (2, .ref 73)] [] (wl mi ml)
  refine EZ_aload_n 2 dL_mixer_0 rfl rfl ?_
  refine EZ_iconst 0 (by decide) dL_mixer_1 ?_
  refine EZ_aload_n 0 dL_mixer_2 rfl rfl ?_
  refine EZ_iload_n 1 dL_mixer_3 rfl rfl ?_
  refine EZ_callVH (c_X5_mixer l hfl mi ml V hD m hm h5 a A hA) cw_L_75 (As := [.int a]) (st := [.int 0, .ref 73]) wi_yX5_mixer we_yX5_mixer (ci := 5) (q := (RX5, TX5, 7)) rfl rfl (wl_atO tw_0) rfl ⟨Nat.le_of_ble_eq_true rfl, Nat.le_of_ble_eq_true rfl, Nat.le_of_ble_eq_true rfl, Nat.le_of_ble_eq_true rfl⟩ (Nat.le_of_ble_eq_true rfl) dL_mixer_4 rfl (Nat.le_of_ble_eq_true rfl) (Nat.le_of_ble_eq_true rfl) (xXQ (fun En mi ml h => ?_)) rfl (zkI (fun r9 mi9 ml9 h9 => ?_))
  · have hEn : En = xIO := by
      first | exact h.2.2.1 | exact h.2.1
    subst hEn
    exact ⟨[], ⟨0, 9, 12, 21⟩, [], rfl, (fun z hz => by cases hz), rfl, (by decide : (21 : Nat) ≠ 0), lk_21, ck_xIO, 3, 1, 1, by decide, Or.inr ⟨3, rfl, dL_mixer_12, rfl⟩, dL_mixer_13, by decide, dL_mixer_14⟩
  refine EZ_i2l dL_mixer_7 ?_
  refine SZ_last 0 tw_73 rfl (by decide) dL_mixer_8 ?_
  refine EZ_goto 15 dL_mixer_9 (by decide) ?_
  refine EZ_iconst 0 (by decide) dL_mixer_15 ?_
  exact EZ_iret rfl (Nat.le_of_ble_eq_true rfl) (Nat.le_of_ble_eq_true rfl) dL_mixer_16 (okHQ h9)
set_option maxRecDepth 100000 in
theorem h_L_addTest (l : Launch) (hfl : l.stackTraces = false) (mi : MI) (ml : MJ) (V : Nat → Int32) (hV : WFV V) (hD : DR 1 mi V) (n : Nat) (hn : (V 5).toInt = (n : Int)) (h10 : n ≤ 10) (m : Nat) (hm : (V 26).toInt = (m : Int)) (h5 : m ≤ 5) (t : Nat) (ht : (V 32).toInt = (t : Int)) (h16 : t ≤ 16) (p sz : Nat) (hp : (mi 17 1).toInt = (p : Int)) (hp4 : p < 4) (hsz : (mi 17 2).toInt = (sz : Int)) (hs4 : sz ≤ 4) (a : Int32) (A : Int) (hA : a.toInt = A) (c : Int32) (C : Int) (hC : c.toInt = C) (xb : Int32) (P : Prop) (hxb : xb = bI P) : CtH l yL_addTest (.codeWith yL_addTest cL_addTest 6 (some .int) [((0 : Nat), (12 : Nat), (15 : Nat), (13 : Nat)), ((0 : Nat), (12 : Nat), (19 : Nat), (15 : Nat))]) 7 3 18 [.ref 0, .int a, .int c, .int xb, .ref 73] (wl mi ml) (HQ (fun r mi9 ml9 => ((0 ≤ A ∧ A ≤ ((2 ^ n - 1 : Nat) : Int)) ∧ (0 ≤ C ∧ C < 64)) ∧ t < 16 ∧ FL60 ml ml9 ∧ WFV (ATV V t a c (bI P)) ∧ DR 1 mi9 (ATV V t a c (bI P)) ∧ (∃ mk, PUS p sz mi mk ∧ Fr [1, 5, 6, 7, 8, 51, 52] mk mi9) ∧ r.toInt = (((fitL (ATV V t a c (bI P)) n m (t + 1) (2 ^ m)).length : Nat) : Int)) (fun En mi9 ml9 => mi = mi9 ∧ ml = ml9 ∧ ((En = xIA ∧ ¬ ((0 ≤ A ∧ A ≤ ((2 ^ n - 1 : Nat) : Int)) ∧ (0 ≤ C ∧ C < 64))) ∨ (En = xIS ∧ ((0 ≤ A ∧ A ≤ ((2 ^ n - 1 : Nat) : Int)) ∧ (0 ≤ C ∧ C < 64)) ∧ ¬ t < 16))) cdA) noX := by
  subst hxb
  refine CtH_of pn_L hfl (Nat.le_of_ble_eq_true rfl) ?_
  show EZ (fun s _ => Nc2 s) l RL cL_addTest 6 (some .int) false (tableOf [((0 : Nat), (12 : Nat), (15 : Nat), (13 : Nat)), ((0 : Nat), (12 : Nat), (19 : Nat), (15 : Nat))]) (rmE 7 3 18) (wl mi ml) (TgM (wl mi ml) 3 18 (HQ (fun r mi9 ml9 => ((0 ≤ A ∧ A ≤ ((2 ^ n - 1 : Nat) : Int)) ∧ (0 ≤ C ∧ C < 64)) ∧ t < 16 ∧ FL60 ml ml9 ∧ WFV (ATV V t a c (bI P)) ∧ DR 1 mi9 (ATV V t a c (bI P)) ∧ (∃ mk, PUS p sz mi mk ∧ Fr [1, 5, 6, 7, 8, 51, 52] mk mi9) ∧ r.toInt = (((fitL (ATV V t a c (bI P)) n m (t + 1) (2 ^ m)).length : Nat) : Int)) (fun En mi9 ml9 => mi = mi9 ∧ ml = ml9 ∧ ((En = xIA ∧ ¬ ((0 ≤ A ∧ A ≤ ((2 ^ n - 1 : Nat) : Int)) ∧ (0 ≤ C ∧ C < 64))) ∨ (En = xIS ∧ ((0 ≤ A ∧ A ≤ ((2 ^ n - 1 : Nat) : Int)) ∧ (0 ≤ C ∧ C < 64)) ∧ ¬ t < 16))) cdA) noX) 0 0 0 [(0, .ref 0), (1, .int a), (2, .int c), (3, .int (bI (P))), (4, .ref 73)] [] (wl mi ml)
  refine EZ_aload 4 dL_addTest_0 rfl ?_
  refine EZ_iconst 0 (by decide) dL_addTest_2 ?_
  refine EZ_aload_n 0 dL_addTest_3 rfl rfl ?_
  refine EZ_iload_n 1 dL_addTest_4 rfl rfl ?_
  refine EZ_iload_n 2 dL_addTest_5 rfl rfl ?_
  refine EZ_iload_n 3 dL_addTest_6 rfl rfl ?_
  refine EZ_callVH (c_X5_addTest l hfl mi ml V hV hD n hn h10 m hm h5 t ht h16 p sz hp hp4 hsz hs4 a A hA c C hC _ P rfl) cw_L_78 (As := [.int a, .int c, .int (bI (P))]) (st := [.int 0, .ref 73]) wi_yX5_addTest we_yX5_addTest (ci := 5) (q := (RX5, TX5, 7)) rfl rfl (wl_atO tw_0) rfl ⟨Nat.le_of_ble_eq_true rfl, Nat.le_of_ble_eq_true rfl, Nat.le_of_ble_eq_true rfl, Nat.le_of_ble_eq_true rfl⟩ (Nat.le_of_ble_eq_true rfl) dL_addTest_7 rfl (Nat.le_of_ble_eq_true rfl) (Nat.le_of_ble_eq_true rfl) (xXQ (fun En mi ml h => ?_)) rfl (zkI (fun r9 mi9 ml9 h9 => ?_))
  · have hEn : En = xIA ∨ En = xIS := by
      have h9 := h.2.2
      first | exact h9.elim (fun q => Or.inl q.1) (fun q => Or.inr q.1) | exact h9.elim (fun q => Or.inr q.1) (fun q => Or.inl q.1)
    rcases hEn with e | e
    · subst e
      exact (show HOK RL _ _ _ _ _ 1 from ⟨[], ⟨0, 12, 15, 13⟩, [⟨0, 12, 19, 15⟩], rfl, (fun z hz => by cases hz), rfl, (by decide : (13 : Nat) ≠ 0), lk_13, ck_xIA, 5, 2, 1, by decide, Or.inl ⟨dL_addTest_15, rfl⟩, dL_addTest_17, by decide, dL_addTest_18⟩)
    · subst e
      exact (show HOK RL _ _ _ _ _ 2 from ⟨[⟨0, 12, 15, 13⟩], ⟨0, 12, 19, 15⟩, [], rfl, (fun z hz => by rw [List.mem_singleton.mp hz]; exact Or.inr ⟨(by decide : (13 : Nat) ≠ 0), _, lk_13, fun s hs => hs.1⟩), rfl, (by decide : (15 : Nat) ≠ 0), lk_15, ck_xIS, 5, 2, 2, by decide, Or.inl ⟨dL_addTest_19, rfl⟩, dL_addTest_21, by decide, dL_addTest_22⟩)
  refine EZ_i2l dL_addTest_10 ?_
  refine SZ_last 0 tw_73 rfl (by decide) dL_addTest_11 ?_
  refine EZ_goto 23 dL_addTest_12 (by decide) ?_
  refine EZ_iconst 0 (by decide) dL_addTest_23 ?_
  exact EZ_iret rfl (Nat.le_of_ble_eq_true rfl) (Nat.le_of_ble_eq_true rfl) dL_addTest_24 (okHQ h9)
set_option maxRecDepth 100000 in
theorem h_L_test (l : Launch) (hfl : l.stackTraces = false) (mi : MI) (ml : MJ) (V : Nat → Int32) (hD : DR 1 mi V) (t : Nat) (ht : (V 32).toInt = (t : Int)) (h16 : t ≤ 16) (a : Int32) (A : Int) (hA : a.toInt = A) (b : Int32) (B : Int) (hB : b.toInt = B) : CtH l yL_test (.codeWith yL_test cL_test 5 (some .int) [((0 : Nat), (10 : Nat), (13 : Nat), (21 : Nat)), ((0 : Nat), (10 : Nat), (17 : Nat), (13 : Nat))]) 3 1 6 [.ref 0, .int a, .int b, .ref 73] (wl mi ml) (HQ (fun r mi9 ml9 => mi = mi9 ∧ ml = ml9 ∧ ∃ (j q : Nat), j < t ∧ q < 3 ∧ A = (j : Int) ∧ B = (q : Int) ∧ r = V ((33 : Nat) + 3 * j + q)) (fun En mi9 ml9 => mi = mi9 ∧ ml = ml9 ∧ ((En = xIO ∧ ¬ (0 ≤ A ∧ A < (t : Int))) ∨ (En = xIA ∧ (0 ≤ A ∧ A < (t : Int)) ∧ ¬ (0 ≤ B ∧ B ≤ 2)))) cdO) noX := by
  refine CtH_of pn_L hfl (Nat.le_of_ble_eq_true rfl) ?_
  show EZ (fun s _ => Nc2 s) l RL cL_test 5 (some .int) false (tableOf [((0 : Nat), (10 : Nat), (13 : Nat), (21 : Nat)), ((0 : Nat), (10 : Nat), (17 : Nat), (13 : Nat))]) (rmE 3 1 6) (wl mi ml) (TgM (wl mi ml) 1 6 (HQ (fun r mi9 ml9 => mi = mi9 ∧ ml = ml9 ∧ ∃ (j q : Nat), j < t ∧ q < 3 ∧ A = (j : Int) ∧ B = (q : Int) ∧ r = V ((33 : Nat) + 3 * j + q)) (fun En mi9 ml9 => mi = mi9 ∧ ml = ml9 ∧ ((En = xIO ∧ ¬ (0 ≤ A ∧ A < (t : Int))) ∨ (En = xIA ∧ (0 ≤ A ∧ A < (t : Int)) ∧ ¬ (0 ≤ B ∧ B ≤ 2)))) cdO) noX) 0 0 0 [(0, .ref 0), (1, .int a), (2, .int b), (3, .ref 73)] [] (wl mi ml)
  refine EZ_aload_n 3 dL_test_0 rfl rfl ?_
  refine EZ_iconst 0 (by decide) dL_test_1 ?_
  refine EZ_aload_n 0 dL_test_2 rfl rfl ?_
  refine EZ_iload_n 1 dL_test_3 rfl rfl ?_
  refine EZ_iload_n 2 dL_test_4 rfl rfl ?_
  refine EZ_callVH (c_X5_test l hfl mi ml V hD t ht h16 a A hA b B hB) cw_L_81 (As := [.int a, .int b]) (st := [.int 0, .ref 73]) wi_yX5_test we_yX5_test (ci := 5) (q := (RX5, TX5, 7)) rfl rfl (wl_atO tw_0) rfl ⟨Nat.le_of_ble_eq_true rfl, Nat.le_of_ble_eq_true rfl, Nat.le_of_ble_eq_true rfl, Nat.le_of_ble_eq_true rfl⟩ (Nat.le_of_ble_eq_true rfl) dL_test_5 rfl (Nat.le_of_ble_eq_true rfl) (Nat.le_of_ble_eq_true rfl) (xXQ (fun En mi ml h => ?_)) rfl (zkI (fun r9 mi9 ml9 h9 => ?_))
  · have hEn : En = xIO ∨ En = xIA := by
      have h9 := h.2.2
      first | exact h9.elim (fun q => Or.inl q.1) (fun q => Or.inr q.1) | exact h9.elim (fun q => Or.inr q.1) (fun q => Or.inl q.1)
    rcases hEn with e | e
    · subst e
      exact (show HOK RL _ _ _ _ _ 1 from ⟨[], ⟨0, 10, 13, 21⟩, [⟨0, 10, 17, 13⟩], rfl, (fun z hz => by cases hz), rfl, (by decide : (21 : Nat) ≠ 0), lk_21, ck_xIO, 4, 2, 1, by decide, Or.inl ⟨dL_test_13, rfl⟩, dL_test_15, by decide, dL_test_16⟩)
    · subst e
      exact (show HOK RL _ _ _ _ _ 2 from ⟨[⟨0, 10, 13, 21⟩], ⟨0, 10, 17, 13⟩, [], rfl, (fun z hz => by rw [List.mem_singleton.mp hz]; exact Or.inr ⟨(by decide : (21 : Nat) ≠ 0), _, lk_21, fun s hs => hs.2⟩), rfl, (by decide : (13 : Nat) ≠ 0), lk_13, ck_xIA, 4, 2, 2, by decide, Or.inl ⟨dL_test_17, rfl⟩, dL_test_19, by decide, dL_test_20⟩)
  refine EZ_i2l dL_test_8 ?_
  refine SZ_last 0 tw_73 rfl (by decide) dL_test_9 ?_
  refine EZ_goto 21 dL_test_10 (by decide) ?_
  refine EZ_iconst 0 (by decide) dL_test_21 ?_
  exact EZ_iret rfl (Nat.le_of_ble_eq_true rfl) (Nat.le_of_ble_eq_true rfl) dL_test_22 (okHQ h9)
set_option maxRecDepth 100000 in
theorem h_L_heard (l : Launch) (hfl : l.stackTraces = false) (mi : MI) (ml : MJ) (V : Nat → Int32) (hV : WFV V) (hD : DR 1 mi V) (n : Nat) (hn : (V 5).toInt = (n : Int)) (h10 : n ≤ 10) (m : Nat) (hm : (V 26).toInt = (m : Int)) (h5 : m ≤ 5) (a c : Int32) (A C : Int) (hA : a.toInt = A) (hC : c.toInt = C) : CtH l yL_heard (.codeWith yL_heard cL_heard 5 (some .int) [((0 : Nat), (10 : Nat), (13 : Nat), (13 : Nat))]) 7 2 12 [.ref 0, .int a, .int c, .ref 73] (wl mi ml) (HQ (fun r mi9 ml9 => Fr [51, 52] mi mi9 ∧ FL60 ml ml9 ∧ (0 ≤ A ∧ A ≤ ((2 ^ n - 1 : Nat) : Int)) ∧ (0 ≤ C ∧ C < 64) ∧ ∃ act ch : Nat, A = (act : Int) ∧ C = (ch : Int) ∧ r.toInt = (hbS V n act ch m : Int)) (fun En mi9 ml9 => mi = mi9 ∧ ml = ml9 ∧ En = xIA ∧ ¬ ((0 ≤ A ∧ A ≤ ((2 ^ n - 1 : Nat) : Int)) ∧ (0 ≤ C ∧ C < 64))) cd1) noX := by
  refine CtH_of pn_L hfl (Nat.le_of_ble_eq_true rfl) ?_
  show EZ (fun s _ => Nc2 s) l RL cL_heard 5 (some .int) false (tableOf [((0 : Nat), (10 : Nat), (13 : Nat), (13 : Nat))]) (rmE 7 2 12) (wl mi ml) (TgM (wl mi ml) 2 12 (HQ (fun r mi9 ml9 => Fr [51, 52] mi mi9 ∧ FL60 ml ml9 ∧ (0 ≤ A ∧ A ≤ ((2 ^ n - 1 : Nat) : Int)) ∧ (0 ≤ C ∧ C < 64) ∧ ∃ act ch : Nat, A = (act : Int) ∧ C = (ch : Int) ∧ r.toInt = (hbS V n act ch m : Int)) (fun En mi9 ml9 => mi = mi9 ∧ ml = ml9 ∧ En = xIA ∧ ¬ ((0 ≤ A ∧ A ≤ ((2 ^ n - 1 : Nat) : Int)) ∧ (0 ≤ C ∧ C < 64))) cd1) noX) 0 0 0 [(0, .ref 0), (1, .int a), (2, .int c), (3, .ref 73)] [] (wl mi ml)
  refine EZ_aload_n 3 dL_heard_0 rfl rfl ?_
  refine EZ_iconst 0 (by decide) dL_heard_1 ?_
  refine EZ_aload_n 0 dL_heard_2 rfl rfl ?_
  refine EZ_iload_n 1 dL_heard_3 rfl rfl ?_
  refine EZ_iload_n 2 dL_heard_4 rfl rfl ?_
  refine EZ_callVH (c_X5_heard l hfl mi ml V hV hD n hn h10 m hm h5 a c A C hA hC) cw_L_84 (As := [.int a, .int c]) (st := [.int 0, .ref 73]) wi_yX5_heard we_yX5_heard (ci := 5) (q := (RX5, TX5, 7)) rfl rfl (wl_atO tw_0) rfl ⟨Nat.le_of_ble_eq_true rfl, Nat.le_of_ble_eq_true rfl, Nat.le_of_ble_eq_true rfl, Nat.le_of_ble_eq_true rfl⟩ (Nat.le_of_ble_eq_true rfl) dL_heard_5 rfl (Nat.le_of_ble_eq_true rfl) (Nat.le_of_ble_eq_true rfl) (xXQ (fun En mi ml h => ?_)) rfl (zkI (fun r9 mi9 ml9 h9 => ?_))
  · have hEn : En = xIA := by
      first | exact h.2.2.1 | exact h.2.1
    subst hEn
    exact ⟨[], ⟨0, 10, 13, 13⟩, [], rfl, (fun z hz => by cases hz), rfl, (by decide : (13 : Nat) ≠ 0), lk_13, ck_xIA, 4, 2, 1, by decide, Or.inl ⟨dL_heard_13, rfl⟩, dL_heard_15, by decide, dL_heard_16⟩
  refine EZ_i2l dL_heard_8 ?_
  refine SZ_last 0 tw_73 rfl (by decide) dL_heard_9 ?_
  refine EZ_goto 17 dL_heard_10 (by decide) ?_
  refine EZ_iconst 0 (by decide) dL_heard_17 ?_
  exact EZ_iret rfl (Nat.le_of_ble_eq_true rfl) (Nat.le_of_ble_eq_true rfl) dL_heard_18 (okHQ h9)
set_option maxRecDepth 100000 in
theorem h_L_bestTest (l : Launch) (hfl : l.stackTraces = false) (mi : MI) (ml : MJ) (V : Nat → Int32) (hV : WFV V) (hD : DR 1 mi V) (n : Nat) (hn : (V 5).toInt = (n : Int)) (h10 : n ≤ 10) (m : Nat) (hm : (V 26).toInt = (m : Int)) (h5 : m ≤ 5) (t : Nat) (ht : (V 32).toInt = (t : Int)) (h16 : t ≤ 16) (a : Int32) (A : Int) (hA : a.toInt = A) : CtH l yL_bestTest (.codeWith yL_bestTest cL_bestTest 4 (some .int) [((0 : Nat), (9 : Nat), (12 : Nat), (13 : Nat))]) 7 1 6 [.ref 0, .int a, .ref 73] (wl mi ml) (HQ (fun r mi9 ml9 => Fr [51, 52] mi mi9 ∧ FL60 ml ml9 ∧ (0 ≤ A ∧ A ≤ ((2 ^ n - 1 : Nat) : Int)) ∧ ∃ act : Nat, A = (act : Int) ∧ r.toInt = ((btS V n m act (fitL V n m t (2 ^ m)) 64).1 : Int)) (fun En mi9 ml9 => mi = mi9 ∧ ml = ml9 ∧ En = xIA ∧ ¬ (0 ≤ A ∧ A ≤ ((2 ^ n - 1 : Nat) : Int))) cd1) noX := by
  refine CtH_of pn_L hfl (Nat.le_of_ble_eq_true rfl) ?_
  show EZ (fun s _ => Nc2 s) l RL cL_bestTest 4 (some .int) false (tableOf [((0 : Nat), (9 : Nat), (12 : Nat), (13 : Nat))]) (rmE 7 1 6) (wl mi ml) (TgM (wl mi ml) 1 6 (HQ (fun r mi9 ml9 => Fr [51, 52] mi mi9 ∧ FL60 ml ml9 ∧ (0 ≤ A ∧ A ≤ ((2 ^ n - 1 : Nat) : Int)) ∧ ∃ act : Nat, A = (act : Int) ∧ r.toInt = ((btS V n m act (fitL V n m t (2 ^ m)) 64).1 : Int)) (fun En mi9 ml9 => mi = mi9 ∧ ml = ml9 ∧ En = xIA ∧ ¬ (0 ≤ A ∧ A ≤ ((2 ^ n - 1 : Nat) : Int))) cd1) noX) 0 0 0 [(0, .ref 0), (1, .int a), (2, .ref 73)] [] (wl mi ml)
  refine EZ_aload_n 2 dL_bestTest_0 rfl rfl ?_
  refine EZ_iconst 0 (by decide) dL_bestTest_1 ?_
  refine EZ_aload_n 0 dL_bestTest_2 rfl rfl ?_
  refine EZ_iload_n 1 dL_bestTest_3 rfl rfl ?_
  refine EZ_callVH (c_X5_bestTest l hfl mi ml V hV hD n hn h10 m hm h5 t ht h16 a A hA) cw_L_87 (As := [.int a]) (st := [.int 0, .ref 73]) wi_yX5_bestTest we_yX5_bestTest (ci := 5) (q := (RX5, TX5, 7)) rfl rfl (wl_atO tw_0) rfl ⟨Nat.le_of_ble_eq_true rfl, Nat.le_of_ble_eq_true rfl, Nat.le_of_ble_eq_true rfl, Nat.le_of_ble_eq_true rfl⟩ (Nat.le_of_ble_eq_true rfl) dL_bestTest_4 rfl (Nat.le_of_ble_eq_true rfl) (Nat.le_of_ble_eq_true rfl) (xXQ (fun En mi ml h => ?_)) rfl (zkI (fun r9 mi9 ml9 h9 => ?_))
  · have hEn : En = xIA := by
      first | exact h.2.2.1 | exact h.2.1
    subst hEn
    exact ⟨[], ⟨0, 9, 12, 13⟩, [], rfl, (fun z hz => by cases hz), rfl, (by decide : (13 : Nat) ≠ 0), lk_13, ck_xIA, 3, 1, 1, by decide, Or.inr ⟨3, rfl, dL_bestTest_12, rfl⟩, dL_bestTest_13, by decide, dL_bestTest_14⟩
  refine EZ_i2l dL_bestTest_7 ?_
  refine SZ_last 0 tw_73 rfl (by decide) dL_bestTest_8 ?_
  refine EZ_goto 15 dL_bestTest_9 (by decide) ?_
  refine EZ_iconst 0 (by decide) dL_bestTest_15 ?_
  exact EZ_iret rfl (Nat.le_of_ble_eq_true rfl) (Nat.le_of_ble_eq_true rfl) dL_bestTest_16 (okHQ h9)
set_option maxRecDepth 100000 in
theorem h_L_append (l : Launch) (hfl : l.stackTraces = false) (mi : MI) (ml : MJ) (N : Nat) (hN : (mi 58 1).toInt = (N : Int)) (hN2 : N ≤ 120) (a : Int32) (A : Int) (hA : a.toInt = A) : CtH l yL_append (.codeWith yL_append cL_append 4 (some .int) [((0 : Nat), (9 : Nat), (12 : Nat), (13 : Nat)), ((0 : Nat), (9 : Nat), (15 : Nat), (15 : Nat))]) 3 1 6 [.ref 0, .int a, .ref 73] (wl mi ml) (HQ (fun r mi9 ml9 => ml = ml9 ∧ (0 ≤ A ∧ A ≤ 127) ∧ N < 120 ∧ r.toInt = (N : Int) + 1 ∧ u2 (u2 mi 59 N a) 58 1 r = mi9) (fun En mi9 ml9 => mi = mi9 ∧ ml = ml9 ∧ ((En = xIA ∧ ¬ (0 ≤ A ∧ A ≤ 127)) ∨ (En = xIS ∧ (0 ≤ A ∧ A ≤ 127) ∧ ¬ N < 120))) cdA) noX := by
  refine CtH_of pn_L hfl (Nat.le_of_ble_eq_true rfl) ?_
  show EZ (fun s _ => Nc2 s) l RL cL_append 4 (some .int) false (tableOf [((0 : Nat), (9 : Nat), (12 : Nat), (13 : Nat)), ((0 : Nat), (9 : Nat), (15 : Nat), (15 : Nat))]) (rmE 3 1 6) (wl mi ml) (TgM (wl mi ml) 1 6 (HQ (fun r mi9 ml9 => ml = ml9 ∧ (0 ≤ A ∧ A ≤ 127) ∧ N < 120 ∧ r.toInt = (N : Int) + 1 ∧ u2 (u2 mi 59 N a) 58 1 r = mi9) (fun En mi9 ml9 => mi = mi9 ∧ ml = ml9 ∧ ((En = xIA ∧ ¬ (0 ≤ A ∧ A ≤ 127)) ∨ (En = xIS ∧ (0 ≤ A ∧ A ≤ 127) ∧ ¬ N < 120))) cdA) noX) 0 0 0 [(0, .ref 0), (1, .int a), (2, .ref 73)] [] (wl mi ml)
  refine EZ_aload_n 2 dL_append_0 rfl rfl ?_
  refine EZ_iconst 0 (by decide) dL_append_1 ?_
  refine EZ_aload_n 0 dL_append_2 rfl rfl ?_
  refine EZ_iload_n 1 dL_append_3 rfl rfl ?_
  refine EZ_callVH (c_X5_append l hfl mi ml N hN hN2 a A hA) cw_L_90 (As := [.int a]) (st := [.int 0, .ref 73]) wi_yX5_append we_yX5_append (ci := 5) (q := (RX5, TX5, 7)) rfl rfl (wl_atO tw_0) rfl ⟨Nat.le_of_ble_eq_true rfl, Nat.le_of_ble_eq_true rfl, Nat.le_of_ble_eq_true rfl, Nat.le_of_ble_eq_true rfl⟩ (Nat.le_of_ble_eq_true rfl) dL_append_4 rfl (Nat.le_of_ble_eq_true rfl) (Nat.le_of_ble_eq_true rfl) (xXQ (fun En mi ml h => ?_)) rfl (zkI (fun r9 mi9 ml9 h9 => ?_))
  · have hEn : En = xIA ∨ En = xIS := by
      have h9 := h.2.2
      first | exact h9.elim (fun q => Or.inl q.1) (fun q => Or.inr q.1) | exact h9.elim (fun q => Or.inr q.1) (fun q => Or.inl q.1)
    rcases hEn with e | e
    · subst e
      exact (show HOK RL _ _ _ _ _ 1 from ⟨[], ⟨0, 9, 12, 13⟩, [⟨0, 9, 15, 15⟩], rfl, (fun z hz => by cases hz), rfl, (by decide : (13 : Nat) ≠ 0), lk_13, ck_xIA, 3, 1, 1, by decide, Or.inr ⟨3, rfl, dL_append_12, rfl⟩, dL_append_13, by decide, dL_append_14⟩)
    · subst e
      exact (show HOK RL _ _ _ _ _ 2 from ⟨[⟨0, 9, 12, 13⟩], ⟨0, 9, 15, 15⟩, [], rfl, (fun z hz => by rw [List.mem_singleton.mp hz]; exact Or.inr ⟨(by decide : (13 : Nat) ≠ 0), _, lk_13, fun s hs => hs.1⟩), rfl, (by decide : (15 : Nat) ≠ 0), lk_15, ck_xIS, 3, 1, 2, by decide, Or.inr ⟨3, rfl, dL_append_15, rfl⟩, dL_append_16, by decide, dL_append_17⟩)
  refine EZ_i2l dL_append_7 ?_
  refine SZ_last 0 tw_73 rfl (by decide) dL_append_8 ?_
  refine EZ_goto 18 dL_append_9 (by decide) ?_
  refine EZ_iconst 0 (by decide) dL_append_18 ?_
  exact EZ_iret rfl (Nat.le_of_ble_eq_true rfl) (Nat.le_of_ble_eq_true rfl) dL_append_19 (okHQ h9)
set_option maxRecDepth 100000 in
theorem h_L_undo (l : Launch) (hfl : l.stackTraces = false) (mi : MI) (ml : MJ) (p sz : Nat) (hp : (mi 17 1).toInt = (p : Int)) (hp4 : p < 4) (hsz : (mi 17 2).toInt = (sz : Int)) (hs4 : sz ≤ 4) : CtH l yL_undo (.codeWith yL_undo cL_undo 3 (some .int) [((0 : Nat), (8 : Nat), (11 : Nat), (15 : Nat))]) 3 1 6 [.ref 0, .ref 73] (wl mi ml) (HQ (fun r mi9 ml9 => ml = ml9 ∧ 0 < sz ∧ r = mi9 17 2 ∧ POS p sz mi mi9) (fun En mi9 ml9 => mi = mi9 ∧ ml = ml9 ∧ En = xIS ∧ ¬ 0 < sz) cd1) noX := by
  refine CtH_of pn_L hfl (Nat.le_of_ble_eq_true rfl) ?_
  show EZ (fun s _ => Nc2 s) l RL cL_undo 3 (some .int) false (tableOf [((0 : Nat), (8 : Nat), (11 : Nat), (15 : Nat))]) (rmE 3 1 6) (wl mi ml) (TgM (wl mi ml) 1 6 (HQ (fun r mi9 ml9 => ml = ml9 ∧ 0 < sz ∧ r = mi9 17 2 ∧ POS p sz mi mi9) (fun En mi9 ml9 => mi = mi9 ∧ ml = ml9 ∧ En = xIS ∧ ¬ 0 < sz) cd1) noX) 0 0 0 [(0, .ref 0), (1, .ref 73)] [] (wl mi ml)
  refine EZ_aload_n 1 dL_undo_0 rfl rfl ?_
  refine EZ_iconst 0 (by decide) dL_undo_1 ?_
  refine EZ_aload_n 0 dL_undo_2 rfl rfl ?_
  refine EZ_callVH (c_X5_undo l hfl mi ml p sz hp hp4 hsz hs4) cw_L_93 (As := []) (st := [.int 0, .ref 73]) wi_yX5_undo we_yX5_undo (ci := 5) (q := (RX5, TX5, 7)) rfl rfl (wl_atO tw_0) rfl ⟨Nat.le_of_ble_eq_true rfl, Nat.le_of_ble_eq_true rfl, Nat.le_of_ble_eq_true rfl, Nat.le_of_ble_eq_true rfl⟩ (Nat.le_of_ble_eq_true rfl) dL_undo_3 rfl (Nat.le_of_ble_eq_true rfl) (Nat.le_of_ble_eq_true rfl) (xXQ (fun En mi ml h => ?_)) rfl (zkI (fun r9 mi9 ml9 h9 => ?_))
  · have hEn : En = xIS := by
      first | exact h.2.2.1 | exact h.2.1
    subst hEn
    exact ⟨[], ⟨0, 8, 11, 15⟩, [], rfl, (fun z hz => by cases hz), rfl, (by decide : (15 : Nat) ≠ 0), lk_15, ck_xIS, 2, 1, 1, by decide, Or.inr ⟨2, rfl, dL_undo_11, rfl⟩, dL_undo_12, by decide, dL_undo_13⟩
  refine EZ_i2l dL_undo_6 ?_
  refine SZ_last 0 tw_73 rfl (by decide) dL_undo_7 ?_
  refine EZ_goto 14 dL_undo_8 (by decide) ?_
  refine EZ_iconst 0 (by decide) dL_undo_14 ?_
  exact EZ_iret rfl (Nat.le_of_ble_eq_true rfl) (Nat.le_of_ble_eq_true rfl) dL_undo_15 (okHQ h9)
end LW1
