section LW1
theorem lk_15 : Wd (.classLink RL 15 xIA) := ⟨List.mem_of_getElem? (i := 339) (by decide +kernel), rfl⟩
theorem lk_17 : Wd (.classLink RL 17 xIS) := ⟨List.mem_of_getElem? (i := 340) (by decide +kernel), rfl⟩
theorem lk_23 : Wd (.classLink RL 23 xIO) := ⟨List.mem_of_getElem? (i := 471) (by decide +kernel), rfl⟩
theorem ck_xIA : Wd (.castable xIA xIA) := ⟨List.mem_of_getElem? (i := 356) (by decide +kernel), rfl⟩
theorem ck_xIS : Wd (.castable xIS xIS) := ⟨List.mem_of_getElem? (i := 428) (by decide +kernel), rfl⟩
theorem ck_xIO : Wd (.castable xIO xIO) := ⟨List.mem_of_getElem? (i := 483) (by decide +kernel), rfl⟩
set_option maxRecDepth 100000 in
theorem h_L_addCarrier (l : Launch) (hfl : l.stackTraces = false) (mi : MI) (ml : MJ) (V : Nat → Int32) (hV : WFV V) (hD : DR 1 mi V) (n : Nat) (hn : (V 5).toInt = (n : Int)) (h10 : n ≤ 10) (p sz : Nat) (hp : (mi 17 1).toInt = (p : Int)) (hp4 : p < 4) (hsz : (mi 17 2).toInt = (sz : Int)) (hs4 : sz ≤ 4) (c v : Int32) (C L : Int) (hC : c.toInt = C) (hL : v.toInt = L) : CtH l yL_addCarrier (.codeWith yL_addCarrier cL_addCarrier 4 (some .int) [((0 : Nat), (6 : Nat), (7 : Nat), (15 : Nat)), ((0 : Nat), (6 : Nat), (12 : Nat), (17 : Nat))]) 4 2 12 [.ref 0, .int c, .int v] (wl mi ml) (HR (fun r mi9 ml9 => ml = ml9 ∧ ((0 ≤ C ∧ C < 64) ∧ (0 ≤ L ∧ L ≤ 60) ∧ ¬ tkV V n (-1) c) ∧ n < 10 ∧ r.toInt = (n : Int) ∧ ∃ mk, PUS p sz mi mk ∧ u2 (u2 (u2 (u2 mk 1 5 (V 5 + 1)) 2 n c) 3 n v) 1 10 0 = mi9) (fun En mi9 ml9 => mi = mi9 ∧ ml = ml9 ∧ ((En = xIA ∧ ¬ ((0 ≤ C ∧ C < 64) ∧ (0 ≤ L ∧ L ≤ 60) ∧ ¬ tkV V n (-1) c)) ∨ (En = xIS ∧ ((0 ≤ C ∧ C < 64) ∧ (0 ≤ L ∧ L ≤ 60) ∧ ¬ tkV V n (-1) c) ∧ ¬ n < 10))) cThr) noX := by
  refine CtH_of pn_L hfl (Nat.le_of_ble_eq_true rfl) ?_
  show EZ (fun s _ => Nc2 s) l RL cL_addCarrier 4 (some .int) false (tableOf [((0 : Nat), (6 : Nat), (7 : Nat), (15 : Nat)), ((0 : Nat), (6 : Nat), (12 : Nat), (17 : Nat))]) (rmE 4 2 12) (wl mi ml) (TgM (wl mi ml) 2 12 (HR (fun r mi9 ml9 => ml = ml9 ∧ ((0 ≤ C ∧ C < 64) ∧ (0 ≤ L ∧ L ≤ 60) ∧ ¬ tkV V n (-1) c) ∧ n < 10 ∧ r.toInt = (n : Int) ∧ ∃ mk, PUS p sz mi mk ∧ u2 (u2 (u2 (u2 mk 1 5 (V 5 + 1)) 2 n c) 3 n v) 1 10 0 = mi9) (fun En mi9 ml9 => mi = mi9 ∧ ml = ml9 ∧ ((En = xIA ∧ ¬ ((0 ≤ C ∧ C < 64) ∧ (0 ≤ L ∧ L ≤ 60) ∧ ¬ tkV V n (-1) c)) ∨ (En = xIS ∧ ((0 ≤ C ∧ C < 64) ∧ (0 ≤ L ∧ L ≤ 60) ∧ ¬ tkV V n (-1) c) ∧ ¬ n < 10))) cThr) noX) 0 0 0 [(0, .ref 0), (1, .int c), (2, .int v)] [] (wl mi ml)
  refine EZ_aload_n 0 dL_addCarrier_0 rfl rfl ?_
  refine EZ_iload_n 1 dL_addCarrier_1 rfl rfl ?_
  refine EZ_iload_n 2 dL_addCarrier_2 rfl rfl ?_
  refine EZ_callVI (c_X5_addCarrier l hfl mi ml V hV hD n hn h10 p sz hp hp4 hsz hs4 c v C L hC hL) cw_L_9 (As := [.int c, .int v]) (st := []) wi_yX5_addCarrier we_yX5_addCarrier (ci := 5) (q := (RX5, TX5, 7)) rfl rfl (wl_atO tw_0) rfl ⟨Nat.le_of_ble_eq_true rfl, Nat.le_of_ble_eq_true rfl, Nat.le_of_ble_eq_true rfl, Nat.le_of_ble_eq_true rfl⟩ (Nat.le_of_ble_eq_true rfl) dL_addCarrier_3 rfl (Nat.le_of_ble_eq_true rfl) (Nat.le_of_ble_eq_true rfl) (xXR (fun En mi ml h => ?_)) rfl (zkI (fun r9 mi9 ml9 h9 => ?_))
  · have hEn : En = xIA ∨ En = xIS := by
      have h9 := h.2.2
      first | exact h9.elim (fun q => Or.inl q.1) (fun q => Or.inr q.1) | exact h9.elim (fun q => Or.inr q.1) (fun q => Or.inl q.1)
    rcases hEn with e | e
    · subst e
      rw [cThr_IA]
      exact ⟨[], ⟨0, 6, 7, 15⟩, [⟨0, 6, 12, 17⟩], rfl, (fun z hz => by cases hz), rfl, (by decide : (15 : Nat) ≠ 0), lk_15, ck_xIA, 3, 1, (-901), by decide, Or.inr ⟨3, rfl, dL_addCarrier_7, rfl⟩, dL_addCarrier_8, by decide, dL_addCarrier_11⟩
    · subst e
      rw [cThr_IS]
      exact ⟨[⟨0, 6, 7, 15⟩], ⟨0, 6, 12, 17⟩, [], rfl, (fun z hz => by rw [List.mem_singleton.mp hz]; exact Or.inr ⟨(by decide : (15 : Nat) ≠ 0), _, lk_15, fun s hs => hs.1⟩), rfl, (by decide : (17 : Nat) ≠ 0), lk_17, ck_xIS, 3, 1, (-902), by decide, Or.inr ⟨3, rfl, dL_addCarrier_12, rfl⟩, dL_addCarrier_13, by decide, dL_addCarrier_16⟩
  exact EZ_iret rfl (Nat.le_of_ble_eq_true rfl) (Nat.le_of_ble_eq_true rfl) dL_addCarrier_6 (okHR h9)
theorem cwH_187 : CwH RL 187 yL_addCarrier cL_addCarrier 4 (some .int) [((0 : Nat), (6 : Nat), (7 : Nat), (15 : Nat)), ((0 : Nat), (6 : Nat), (12 : Nat), (17 : Nat))] 3 := ⟨⟨List.mem_of_getElem? (i := 336) (by decide +kernel), rfl⟩, ⟨List.mem_of_getElem? (i := 338) (by decide +kernel), rfl⟩, wz_L, ⟨by decide, by decide⟩, by decide +kernel, ⟨List.mem_of_getElem? (i := 337) (by decide +kernel), rfl⟩⟩
set_option maxRecDepth 100000 in
theorem h_L_moveCarrier (l : Launch) (hfl : l.stackTraces = false) (mi : MI) (ml : MJ) (V : Nat → Int32) (hV : WFV V) (hD : DR 1 mi V) (n : Nat) (hn : (V 5).toInt = (n : Int)) (h10 : n ≤ 10) (p sz : Nat) (hp : (mi 17 1).toInt = (p : Int)) (hp4 : p < 4) (hsz : (mi 17 2).toInt = (sz : Int)) (hs4 : sz ≤ 4) (q : Int32) (B : Int) (hB : q.toInt = B) (c v : Int32) (C L : Int) (hC : c.toInt = C) (hL : v.toInt = L) : CtH l yL_moveCarrier (.codeWith yL_moveCarrier cL_moveCarrier 5 (some .int) [((0 : Nat), (7 : Nat), (8 : Nat), (23 : Nat)), ((0 : Nat), (7 : Nat), (14 : Nat), (15 : Nat))]) 4 3 18 [.ref 0, .int q, .int c, .int v] (wl mi ml) (HR (fun r mi9 ml9 => ml = ml9 ∧ (0 ≤ B ∧ B < (n : Int)) ∧ ((0 ≤ C ∧ C < 64) ∧ (0 ≤ L ∧ L ≤ 60) ∧ ¬ tkV V n B c) ∧ ∃ (b : Nat) (mk : MI), b < n ∧ B = (b : Int) ∧ r = V (6 + 2 * b) ∧ PUS p sz mi mk ∧ u2 (u2 (u2 mk 2 b c) 3 b v) 1 10 0 = mi9) (fun En mi9 ml9 => mi = mi9 ∧ ml = ml9 ∧ ((En = xIO ∧ ¬ (0 ≤ B ∧ B < (n : Int))) ∨ (En = xIA ∧ (0 ≤ B ∧ B < (n : Int)) ∧ ¬ ((0 ≤ C ∧ C < 64) ∧ (0 ≤ L ∧ L ≤ 60) ∧ ¬ tkV V n B c)))) cThr) noX := by
  refine CtH_of pn_L hfl (Nat.le_of_ble_eq_true rfl) ?_
  show EZ (fun s _ => Nc2 s) l RL cL_moveCarrier 5 (some .int) false (tableOf [((0 : Nat), (7 : Nat), (8 : Nat), (23 : Nat)), ((0 : Nat), (7 : Nat), (14 : Nat), (15 : Nat))]) (rmE 4 3 18) (wl mi ml) (TgM (wl mi ml) 3 18 (HR (fun r mi9 ml9 => ml = ml9 ∧ (0 ≤ B ∧ B < (n : Int)) ∧ ((0 ≤ C ∧ C < 64) ∧ (0 ≤ L ∧ L ≤ 60) ∧ ¬ tkV V n B c) ∧ ∃ (b : Nat) (mk : MI), b < n ∧ B = (b : Int) ∧ r = V (6 + 2 * b) ∧ PUS p sz mi mk ∧ u2 (u2 (u2 mk 2 b c) 3 b v) 1 10 0 = mi9) (fun En mi9 ml9 => mi = mi9 ∧ ml = ml9 ∧ ((En = xIO ∧ ¬ (0 ≤ B ∧ B < (n : Int))) ∨ (En = xIA ∧ (0 ≤ B ∧ B < (n : Int)) ∧ ¬ ((0 ≤ C ∧ C < 64) ∧ (0 ≤ L ∧ L ≤ 60) ∧ ¬ tkV V n B c)))) cThr) noX) 0 0 0 [(0, .ref 0), (1, .int q), (2, .int c), (3, .int v)] [] (wl mi ml)
  refine EZ_aload_n 0 dL_moveCarrier_0 rfl rfl ?_
  refine EZ_iload_n 1 dL_moveCarrier_1 rfl rfl ?_
  refine EZ_iload_n 2 dL_moveCarrier_2 rfl rfl ?_
  refine EZ_iload_n 3 dL_moveCarrier_3 rfl rfl ?_
  refine EZ_callVI (c_X5_moveCarrier l hfl mi ml V hV hD n hn h10 p sz hp hp4 hsz hs4 q B hB c v C L hC hL) cw_L_19 (As := [.int q, .int c, .int v]) (st := []) wi_yX5_moveCarrier we_yX5_moveCarrier (ci := 5) (q := (RX5, TX5, 7)) rfl rfl (wl_atO tw_0) rfl ⟨Nat.le_of_ble_eq_true rfl, Nat.le_of_ble_eq_true rfl, Nat.le_of_ble_eq_true rfl, Nat.le_of_ble_eq_true rfl⟩ (Nat.le_of_ble_eq_true rfl) dL_moveCarrier_4 rfl (Nat.le_of_ble_eq_true rfl) (Nat.le_of_ble_eq_true rfl) (xXR (fun En mi ml h => ?_)) rfl (zkI (fun r9 mi9 ml9 h9 => ?_))
  · have hEn : En = xIO ∨ En = xIA := by
      have h9 := h.2.2
      first | exact h9.elim (fun q => Or.inl q.1) (fun q => Or.inr q.1) | exact h9.elim (fun q => Or.inr q.1) (fun q => Or.inl q.1)
    rcases hEn with e | e
    · subst e
      rw [cThr_IO]
      exact ⟨[], ⟨0, 7, 8, 23⟩, [⟨0, 7, 14, 15⟩], rfl, (fun z hz => by cases hz), rfl, (by decide : (23 : Nat) ≠ 0), lk_23, ck_xIO, 4, 2, (-903), by decide, Or.inl ⟨dL_moveCarrier_8, rfl⟩, dL_moveCarrier_10, by decide, dL_moveCarrier_13⟩
    · subst e
      rw [cThr_IA]
      exact ⟨[⟨0, 7, 8, 23⟩], ⟨0, 7, 14, 15⟩, [], rfl, (fun z hz => by rw [List.mem_singleton.mp hz]; exact Or.inr ⟨(by decide : (23 : Nat) ≠ 0), _, lk_23, fun s hs => hs.2⟩), rfl, (by decide : (15 : Nat) ≠ 0), lk_15, ck_xIA, 4, 2, (-901), by decide, Or.inl ⟨dL_moveCarrier_14, rfl⟩, dL_moveCarrier_16, by decide, dL_moveCarrier_19⟩
  exact EZ_iret rfl (Nat.le_of_ble_eq_true rfl) (Nat.le_of_ble_eq_true rfl) dL_moveCarrier_7 (okHR h9)
theorem cwH_189 : CwH RL 189 yL_moveCarrier cL_moveCarrier 5 (some .int) [((0 : Nat), (7 : Nat), (8 : Nat), (23 : Nat)), ((0 : Nat), (7 : Nat), (14 : Nat), (15 : Nat))] 4 := ⟨⟨List.mem_of_getElem? (i := 468) (by decide +kernel), rfl⟩, ⟨List.mem_of_getElem? (i := 470) (by decide +kernel), rfl⟩, wz_L, ⟨by decide, by decide⟩, by decide +kernel, ⟨List.mem_of_getElem? (i := 469) (by decide +kernel), rfl⟩⟩
set_option maxRecDepth 100000 in
theorem h_L_removeCarrier (l : Launch) (hfl : l.stackTraces = false) (mi : MI) (ml : MJ) (V : Nat → Int32) (hV : WFV V) (hD : DR 1 mi V) (n : Nat) (hn : (V 5).toInt = (n : Int)) (h10 : n ≤ 10) (m : Nat) (hm : (V 26).toInt = (m : Int)) (h5 : m ≤ 5) (p sz : Nat) (hp : (mi 17 1).toInt = (p : Int)) (hp4 : p < 4) (hsz : (mi 17 2).toInt = (sz : Int)) (hs4 : sz ≤ 4) (q : Int32) (B : Int) (hB : q.toInt = B) : CtH l yL_removeCarrier (.codeWith yL_removeCarrier cL_removeCarrier 3 (some .int) [((0 : Nat), (5 : Nat), (6 : Nat), (23 : Nat))]) 5 1 6 [.ref 0, .int q] (wl mi ml) (HR (fun r mi9 ml9 => ml = ml9 ∧ ∃ (b : Nat) (mk : MI), b < n ∧ B = (b : Int) ∧ r.toInt = (n : Int) - 1 ∧ PUS p sz mi mk ∧ TOS 1 mk mi9 b n m (((1 : Int32) <<< (q &&& 31)) - 1)) (fun En mi9 ml9 => mi = mi9 ∧ ml = ml9 ∧ En = xIO ∧ ¬ (0 ≤ B ∧ B < (n : Int))) cThr) noX := by
  refine CtH_of pn_L hfl (Nat.le_of_ble_eq_true rfl) ?_
  show EZ (fun s _ => Nc2 s) l RL cL_removeCarrier 3 (some .int) false (tableOf [((0 : Nat), (5 : Nat), (6 : Nat), (23 : Nat))]) (rmE 5 1 6) (wl mi ml) (TgM (wl mi ml) 1 6 (HR (fun r mi9 ml9 => ml = ml9 ∧ ∃ (b : Nat) (mk : MI), b < n ∧ B = (b : Int) ∧ r.toInt = (n : Int) - 1 ∧ PUS p sz mi mk ∧ TOS 1 mk mi9 b n m (((1 : Int32) <<< (q &&& 31)) - 1)) (fun En mi9 ml9 => mi = mi9 ∧ ml = ml9 ∧ En = xIO ∧ ¬ (0 ≤ B ∧ B < (n : Int))) cThr) noX) 0 0 0 [(0, .ref 0), (1, .int q)] [] (wl mi ml)
  refine EZ_aload_n 0 dL_removeCarrier_0 rfl rfl ?_
  refine EZ_iload_n 1 dL_removeCarrier_1 rfl rfl ?_
  refine EZ_callVI (c_X5_removeCarrier l hfl mi ml V hV hD n hn h10 m hm h5 p sz hp hp4 hsz hs4 q B hB) cw_L_25 (As := [.int q]) (st := []) wi_yX5_removeCarrier we_yX5_removeCarrier (ci := 5) (q := (RX5, TX5, 7)) rfl rfl (wl_atO tw_0) rfl ⟨Nat.le_of_ble_eq_true rfl, Nat.le_of_ble_eq_true rfl, Nat.le_of_ble_eq_true rfl, Nat.le_of_ble_eq_true rfl⟩ (Nat.le_of_ble_eq_true rfl) dL_removeCarrier_2 rfl (Nat.le_of_ble_eq_true rfl) (Nat.le_of_ble_eq_true rfl) (xXR (fun En mi ml h => ?_)) rfl (zkI (fun r9 mi9 ml9 h9 => ?_))
  · have hEn : En = xIO := by
      first | exact h.2.2.1 | exact h.2.1
    subst hEn
    rw [cThr_IO]
    exact ⟨[], ⟨0, 5, 6, 23⟩, [], rfl, (fun z hz => by cases hz), rfl, (by decide : (23 : Nat) ≠ 0), lk_23, ck_xIO, 2, 1, (-903), by decide, Or.inr ⟨2, rfl, dL_removeCarrier_6, rfl⟩, dL_removeCarrier_7, by decide, dL_removeCarrier_10⟩
  exact EZ_iret rfl (Nat.le_of_ble_eq_true rfl) (Nat.le_of_ble_eq_true rfl) dL_removeCarrier_5 (okHR h9)
theorem cwH_191 : CwH RL 191 yL_removeCarrier cL_removeCarrier 3 (some .int) [((0 : Nat), (5 : Nat), (6 : Nat), (23 : Nat))] 2 := ⟨⟨List.mem_of_getElem? (i := 500) (by decide +kernel), rfl⟩, ⟨List.mem_of_getElem? (i := 502) (by decide +kernel), rfl⟩, wz_L, ⟨by decide, by decide⟩, by decide +kernel, ⟨List.mem_of_getElem? (i := 501) (by decide +kernel), rfl⟩⟩
set_option maxRecDepth 100000 in
theorem h_L_shift (l : Launch) (hfl : l.stackTraces = false) (mi : MI) (ml : MJ) (V : Nat → Int32) (hV : WFV V) (hD : DR 1 mi V) (n : Nat) (hn : (V 5).toInt = (n : Int)) (h10 : n ≤ 10) (p sz : Nat) (hp : (mi 17 1).toInt = (p : Int)) (hp4 : p < 4) (hsz : (mi 17 2).toInt = (sz : Int)) (hs4 : sz ≤ 4) (a : Int32) (B : Int) (hB : a.toInt = B) : CtH l yL_shift (.codeWith yL_shift cL_shift 3 (some .int) [((0 : Nat), (5 : Nat), (6 : Nat), (15 : Nat)), ((0 : Nat), (5 : Nat), (11 : Nat), (17 : Nat))]) 4 1 6 [.ref 0, .int a] (wl mi ml) (HR (fun r mi9 ml9 => ml = ml9 ∧ (-64 < B ∧ B < 64) ∧ (∀ j, j < n → (0 ≤ (V (6 + 2 * j)).toInt + B ∧ (V (6 + 2 * j)).toInt + B < 64)) ∧ r.toInt = (n : Int) ∧ ∃ mk m1, PUS p sz mi mk ∧ SHI 1 a mk m1 n ∧ u2 m1 1 10 0 = mi9) (fun En mi9 ml9 => mi = mi9 ∧ ml = ml9 ∧ ((En = xIA ∧ ¬ (-64 < B ∧ B < 64)) ∨ (En = xIS ∧ (-64 < B ∧ B < 64) ∧ ¬ (∀ j, j < n → (0 ≤ (V (6 + 2 * j)).toInt + B ∧ (V (6 + 2 * j)).toInt + B < 64))))) cThr) noX := by
  refine CtH_of pn_L hfl (Nat.le_of_ble_eq_true rfl) ?_
  show EZ (fun s _ => Nc2 s) l RL cL_shift 3 (some .int) false (tableOf [((0 : Nat), (5 : Nat), (6 : Nat), (15 : Nat)), ((0 : Nat), (5 : Nat), (11 : Nat), (17 : Nat))]) (rmE 4 1 6) (wl mi ml) (TgM (wl mi ml) 1 6 (HR (fun r mi9 ml9 => ml = ml9 ∧ (-64 < B ∧ B < 64) ∧ (∀ j, j < n → (0 ≤ (V (6 + 2 * j)).toInt + B ∧ (V (6 + 2 * j)).toInt + B < 64)) ∧ r.toInt = (n : Int) ∧ ∃ mk m1, PUS p sz mi mk ∧ SHI 1 a mk m1 n ∧ u2 m1 1 10 0 = mi9) (fun En mi9 ml9 => mi = mi9 ∧ ml = ml9 ∧ ((En = xIA ∧ ¬ (-64 < B ∧ B < 64)) ∨ (En = xIS ∧ (-64 < B ∧ B < 64) ∧ ¬ (∀ j, j < n → (0 ≤ (V (6 + 2 * j)).toInt + B ∧ (V (6 + 2 * j)).toInt + B < 64))))) cThr) noX) 0 0 0 [(0, .ref 0), (1, .int a)] [] (wl mi ml)
  refine EZ_aload_n 0 dL_shift_0 rfl rfl ?_
  refine EZ_iload_n 1 dL_shift_1 rfl rfl ?_
  refine EZ_callVI (c_X5_shift l hfl mi ml V hV hD n hn h10 p sz hp hp4 hsz hs4 a B hB) cw_L_29 (As := [.int a]) (st := []) wi_yX5_shift we_yX5_shift (ci := 5) (q := (RX5, TX5, 7)) rfl rfl (wl_atO tw_0) rfl ⟨Nat.le_of_ble_eq_true rfl, Nat.le_of_ble_eq_true rfl, Nat.le_of_ble_eq_true rfl, Nat.le_of_ble_eq_true rfl⟩ (Nat.le_of_ble_eq_true rfl) dL_shift_2 rfl (Nat.le_of_ble_eq_true rfl) (Nat.le_of_ble_eq_true rfl) (xXR (fun En mi ml h => ?_)) rfl (zkI (fun r9 mi9 ml9 h9 => ?_))
  · have hEn : En = xIA ∨ En = xIS := by
      have h9 := h.2.2
      first | exact h9.elim (fun q => Or.inl q.1) (fun q => Or.inr q.1) | exact h9.elim (fun q => Or.inr q.1) (fun q => Or.inl q.1)
    rcases hEn with e | e
    · subst e
      rw [cThr_IA]
      exact ⟨[], ⟨0, 5, 6, 15⟩, [⟨0, 5, 11, 17⟩], rfl, (fun z hz => by cases hz), rfl, (by decide : (15 : Nat) ≠ 0), lk_15, ck_xIA, 2, 1, (-901), by decide, Or.inr ⟨2, rfl, dL_shift_6, rfl⟩, dL_shift_7, by decide, dL_shift_10⟩
    · subst e
      rw [cThr_IS]
      exact ⟨[⟨0, 5, 6, 15⟩], ⟨0, 5, 11, 17⟩, [], rfl, (fun z hz => by rw [List.mem_singleton.mp hz]; exact Or.inr ⟨(by decide : (15 : Nat) ≠ 0), _, lk_15, fun s hs => hs.1⟩), rfl, (by decide : (17 : Nat) ≠ 0), lk_17, ck_xIS, 2, 1, (-902), by decide, Or.inr ⟨2, rfl, dL_shift_11, rfl⟩, dL_shift_12, by decide, dL_shift_15⟩
  exact EZ_iret rfl (Nat.le_of_ble_eq_true rfl) (Nat.le_of_ble_eq_true rfl) dL_shift_5 (okHR h9)
theorem cwH_193 : CwH RL 193 yL_shift cL_shift 3 (some .int) [((0 : Nat), (5 : Nat), (6 : Nat), (15 : Nat)), ((0 : Nat), (5 : Nat), (11 : Nat), (17 : Nat))] 2 := ⟨⟨List.mem_of_getElem? (i := 524) (by decide +kernel), rfl⟩, ⟨List.mem_of_getElem? (i := 526) (by decide +kernel), rfl⟩, wz_L, ⟨by decide, by decide⟩, by decide +kernel, ⟨List.mem_of_getElem? (i := 525) (by decide +kernel), rfl⟩⟩
set_option maxRecDepth 100000 in
theorem h_L_setProducts (l : Launch) (hfl : l.stackTraces = false) (mi : MI) (ml : MJ) (V : Nat → Int32) (hV : WFV V) (hD : DR 1 mi V) (p sz : Nat) (hp : (mi 17 1).toInt = (p : Int)) (hp4 : p < 4) (hsz : (mi 17 2).toInt = (sz : Int)) (hs4 : sz ≤ 4) (a : Int32) (A : Int) (hA : a.toInt = A) (b : Int32) (B : Int) (hB : b.toInt = B) (c : Int32) (C : Int) (hC : c.toInt = C) : CtH l yL_setProducts (.codeWith yL_setProducts cL_setProducts 5 (some .int) [((0 : Nat), (7 : Nat), (8 : Nat), (15 : Nat))]) 4 1 6 [.ref 0, .int a, .int b, .int c] (wl mi ml) (HR (fun r mi9 ml9 => ml = ml9 ∧ ((0 ≤ A ∧ A ≤ 7) ∧ (0 ≤ B ∧ B ≤ 300) ∧ (0 ≤ C ∧ C ≤ 300)) ∧ r = V 0 ∧ ∃ mk, PUS p sz mi mk ∧ u2 (u2 (u2 (u2 mk 1 0 a) 1 1 b) 1 2 c) 1 10 0 = mi9) (fun En mi9 ml9 => mi = mi9 ∧ ml = ml9 ∧ En = xIA ∧ ¬ ((0 ≤ A ∧ A ≤ 7) ∧ (0 ≤ B ∧ B ≤ 300) ∧ (0 ≤ C ∧ C ≤ 300))) cThr) noX := by
  refine CtH_of pn_L hfl (Nat.le_of_ble_eq_true rfl) ?_
  show EZ (fun s _ => Nc2 s) l RL cL_setProducts 5 (some .int) false (tableOf [((0 : Nat), (7 : Nat), (8 : Nat), (15 : Nat))]) (rmE 4 1 6) (wl mi ml) (TgM (wl mi ml) 1 6 (HR (fun r mi9 ml9 => ml = ml9 ∧ ((0 ≤ A ∧ A ≤ 7) ∧ (0 ≤ B ∧ B ≤ 300) ∧ (0 ≤ C ∧ C ≤ 300)) ∧ r = V 0 ∧ ∃ mk, PUS p sz mi mk ∧ u2 (u2 (u2 (u2 mk 1 0 a) 1 1 b) 1 2 c) 1 10 0 = mi9) (fun En mi9 ml9 => mi = mi9 ∧ ml = ml9 ∧ En = xIA ∧ ¬ ((0 ≤ A ∧ A ≤ 7) ∧ (0 ≤ B ∧ B ≤ 300) ∧ (0 ≤ C ∧ C ≤ 300))) cThr) noX) 0 0 0 [(0, .ref 0), (1, .int a), (2, .int b), (3, .int c)] [] (wl mi ml)
  refine EZ_aload_n 0 dL_setProducts_0 rfl rfl ?_
  refine EZ_iload_n 1 dL_setProducts_1 rfl rfl ?_
  refine EZ_iload_n 2 dL_setProducts_2 rfl rfl ?_
  refine EZ_iload_n 3 dL_setProducts_3 rfl rfl ?_
  refine EZ_callVI (c_X5_setProducts l hfl mi ml V hV hD p sz hp hp4 hsz hs4 a A hA b B hB c C hC) cw_L_32 (As := [.int a, .int b, .int c]) (st := []) wi_yX5_setProducts we_yX5_setProducts (ci := 5) (q := (RX5, TX5, 7)) rfl rfl (wl_atO tw_0) rfl ⟨Nat.le_of_ble_eq_true rfl, Nat.le_of_ble_eq_true rfl, Nat.le_of_ble_eq_true rfl, Nat.le_of_ble_eq_true rfl⟩ (Nat.le_of_ble_eq_true rfl) dL_setProducts_4 rfl (Nat.le_of_ble_eq_true rfl) (Nat.le_of_ble_eq_true rfl) (xXR (fun En mi ml h => ?_)) rfl (zkI (fun r9 mi9 ml9 h9 => ?_))
  · have hEn : En = xIA := by
      first | exact h.2.2.1 | exact h.2.1
    subst hEn
    rw [cThr_IA]
    exact ⟨[], ⟨0, 7, 8, 15⟩, [], rfl, (fun z hz => by cases hz), rfl, (by decide : (15 : Nat) ≠ 0), lk_15, ck_xIA, 4, 2, (-901), by decide, Or.inl ⟨dL_setProducts_8, rfl⟩, dL_setProducts_10, by decide, dL_setProducts_13⟩
  exact EZ_iret rfl (Nat.le_of_ble_eq_true rfl) (Nat.le_of_ble_eq_true rfl) dL_setProducts_7 (okHR h9)
theorem cwH_159 : CwH RL 159 yL_setProducts cL_setProducts 5 (some .int) [((0 : Nat), (7 : Nat), (8 : Nat), (15 : Nat))] 4 := ⟨⟨List.mem_of_getElem? (i := 537) (by decide +kernel), rfl⟩, ⟨List.mem_of_getElem? (i := 539) (by decide +kernel), rfl⟩, wz_L, ⟨by decide, by decide⟩, by decide +kernel, ⟨List.mem_of_getElem? (i := 538) (by decide +kernel), rfl⟩⟩
set_option maxRecDepth 100000 in
theorem h_L_setSpacing (l : Launch) (hfl : l.stackTraces = false) (mi : MI) (ml : MJ) (V : Nat → Int32) (hV : WFV V) (hD : DR 1 mi V) (p sz : Nat) (hp : (mi 17 1).toInt = (p : Int)) (hp4 : p < 4) (hsz : (mi 17 2).toInt = (sz : Int)) (hs4 : sz ≤ 4) (a : Int32) (A : Int) (hA : a.toInt = A) (b : Int32) (B : Int) (hB : b.toInt = B) : CtH l yL_setSpacing (.codeWith yL_setSpacing cL_setSpacing 4 (some .int) [((0 : Nat), (6 : Nat), (7 : Nat), (15 : Nat))]) 4 1 6 [.ref 0, .int a, .int b] (wl mi ml) (HR (fun r mi9 ml9 => ml = ml9 ∧ ((0 ≤ A ∧ A ≤ 5) ∧ (1 ≤ B ∧ B ≤ 10)) ∧ r = V 3 ∧ ∃ mk, PUS p sz mi mk ∧ u2 (u2 (u2 mk 1 3 a) 1 4 b) 1 10 0 = mi9) (fun En mi9 ml9 => mi = mi9 ∧ ml = ml9 ∧ En = xIA ∧ ¬ ((0 ≤ A ∧ A ≤ 5) ∧ (1 ≤ B ∧ B ≤ 10))) cThr) noX := by
  refine CtH_of pn_L hfl (Nat.le_of_ble_eq_true rfl) ?_
  show EZ (fun s _ => Nc2 s) l RL cL_setSpacing 4 (some .int) false (tableOf [((0 : Nat), (6 : Nat), (7 : Nat), (15 : Nat))]) (rmE 4 1 6) (wl mi ml) (TgM (wl mi ml) 1 6 (HR (fun r mi9 ml9 => ml = ml9 ∧ ((0 ≤ A ∧ A ≤ 5) ∧ (1 ≤ B ∧ B ≤ 10)) ∧ r = V 3 ∧ ∃ mk, PUS p sz mi mk ∧ u2 (u2 (u2 mk 1 3 a) 1 4 b) 1 10 0 = mi9) (fun En mi9 ml9 => mi = mi9 ∧ ml = ml9 ∧ En = xIA ∧ ¬ ((0 ≤ A ∧ A ≤ 5) ∧ (1 ≤ B ∧ B ≤ 10))) cThr) noX) 0 0 0 [(0, .ref 0), (1, .int a), (2, .int b)] [] (wl mi ml)
  refine EZ_aload_n 0 dL_setSpacing_0 rfl rfl ?_
  refine EZ_iload_n 1 dL_setSpacing_1 rfl rfl ?_
  refine EZ_iload_n 2 dL_setSpacing_2 rfl rfl ?_
  refine EZ_callVI (c_X5_setSpacing l hfl mi ml V hV hD p sz hp hp4 hsz hs4 a A hA b B hB) cw_L_35 (As := [.int a, .int b]) (st := []) wi_yX5_setSpacing we_yX5_setSpacing (ci := 5) (q := (RX5, TX5, 7)) rfl rfl (wl_atO tw_0) rfl ⟨Nat.le_of_ble_eq_true rfl, Nat.le_of_ble_eq_true rfl, Nat.le_of_ble_eq_true rfl, Nat.le_of_ble_eq_true rfl⟩ (Nat.le_of_ble_eq_true rfl) dL_setSpacing_3 rfl (Nat.le_of_ble_eq_true rfl) (Nat.le_of_ble_eq_true rfl) (xXR (fun En mi ml h => ?_)) rfl (zkI (fun r9 mi9 ml9 h9 => ?_))
  · have hEn : En = xIA := by
      first | exact h.2.2.1 | exact h.2.1
    subst hEn
    rw [cThr_IA]
    exact ⟨[], ⟨0, 6, 7, 15⟩, [], rfl, (fun z hz => by cases hz), rfl, (by decide : (15 : Nat) ≠ 0), lk_15, ck_xIA, 3, 1, (-901), by decide, Or.inr ⟨3, rfl, dL_setSpacing_7, rfl⟩, dL_setSpacing_8, by decide, dL_setSpacing_11⟩
  exact EZ_iret rfl (Nat.le_of_ble_eq_true rfl) (Nat.le_of_ble_eq_true rfl) dL_setSpacing_6 (okHR h9)
theorem cwH_162 : CwH RL 162 yL_setSpacing cL_setSpacing 4 (some .int) [((0 : Nat), (6 : Nat), (7 : Nat), (15 : Nat))] 3 := ⟨⟨List.mem_of_getElem? (i := 548) (by decide +kernel), rfl⟩, ⟨List.mem_of_getElem? (i := 550) (by decide +kernel), rfl⟩, wz_L, ⟨by decide, by decide⟩, by decide +kernel, ⟨List.mem_of_getElem? (i := 549) (by decide +kernel), rfl⟩⟩
set_option maxRecDepth 100000 in
theorem h_L_size (l : Launch) (hfl : l.stackTraces = false) (mi : MI) (ml : MJ) (V : Nat → Int32) (hD : DR 1 mi V) (a : Int32) (A : Int) (hA : a.toInt = A) : CtH l yL_size (.codeWith yL_size cL_size 3 (some .int) [((0 : Nat), (5 : Nat), (6 : Nat), (15 : Nat))]) 2 1 6 [.ref 0, .int a] (wl mi ml) (HR (fun r mi9 ml9 => mi = mi9 ∧ ml = ml9 ∧ (0 ≤ A ∧ A ≤ 2) ∧ ((A = 0 ∧ r = V 5) ∨ (A = 1 ∧ r = V 26) ∨ (A = 2 ∧ r = V 32))) (fun En mi9 ml9 => mi = mi9 ∧ ml = ml9 ∧ En = xIA ∧ ¬ (0 ≤ A ∧ A ≤ 2)) cThr) noX := by
  refine CtH_of pn_L hfl (Nat.le_of_ble_eq_true rfl) ?_
  show EZ (fun s _ => Nc2 s) l RL cL_size 3 (some .int) false (tableOf [((0 : Nat), (5 : Nat), (6 : Nat), (15 : Nat))]) (rmE 2 1 6) (wl mi ml) (TgM (wl mi ml) 1 6 (HR (fun r mi9 ml9 => mi = mi9 ∧ ml = ml9 ∧ (0 ≤ A ∧ A ≤ 2) ∧ ((A = 0 ∧ r = V 5) ∨ (A = 1 ∧ r = V 26) ∨ (A = 2 ∧ r = V 32))) (fun En mi9 ml9 => mi = mi9 ∧ ml = ml9 ∧ En = xIA ∧ ¬ (0 ≤ A ∧ A ≤ 2)) cThr) noX) 0 0 0 [(0, .ref 0), (1, .int a)] [] (wl mi ml)
  refine EZ_aload_n 0 dL_size_0 rfl rfl ?_
  refine EZ_iload_n 1 dL_size_1 rfl rfl ?_
  refine EZ_callVI (c_X5_size l hfl mi ml V hD a A hA) cw_L_38 (As := [.int a]) (st := []) wi_yX5_size we_yX5_size (ci := 5) (q := (RX5, TX5, 7)) rfl rfl (wl_atO tw_0) rfl ⟨Nat.le_of_ble_eq_true rfl, Nat.le_of_ble_eq_true rfl, Nat.le_of_ble_eq_true rfl, Nat.le_of_ble_eq_true rfl⟩ (Nat.le_of_ble_eq_true rfl) dL_size_2 rfl (Nat.le_of_ble_eq_true rfl) (Nat.le_of_ble_eq_true rfl) (xXR (fun En mi ml h => ?_)) rfl (zkI (fun r9 mi9 ml9 h9 => ?_))
  · have hEn : En = xIA := by
      first | exact h.2.2.1 | exact h.2.1
    subst hEn
    rw [cThr_IA]
    exact ⟨[], ⟨0, 5, 6, 15⟩, [], rfl, (fun z hz => by cases hz), rfl, (by decide : (15 : Nat) ≠ 0), lk_15, ck_xIA, 2, 1, (-901), by decide, Or.inr ⟨2, rfl, dL_size_6, rfl⟩, dL_size_7, by decide, dL_size_10⟩
  exact EZ_iret rfl (Nat.le_of_ble_eq_true rfl) (Nat.le_of_ble_eq_true rfl) dL_size_5 (okHR h9)
theorem cwH_101 : CwH RL 101 yL_size cL_size 3 (some .int) [((0 : Nat), (5 : Nat), (6 : Nat), (15 : Nat))] 2 := ⟨⟨List.mem_of_getElem? (i := 556) (by decide +kernel), rfl⟩, ⟨List.mem_of_getElem? (i := 558) (by decide +kernel), rfl⟩, wz_L, ⟨by decide, by decide⟩, by decide +kernel, ⟨List.mem_of_getElem? (i := 557) (by decide +kernel), rfl⟩⟩
set_option maxRecDepth 100000 in
theorem h_L_addMixer (l : Launch) (hfl : l.stackTraces = false) (mi : MI) (ml : MJ) (V : Nat → Int32) (hV : WFV V) (hD : DR 1 mi V) (n : Nat) (hn : (V 5).toInt = (n : Int)) (h10 : n ≤ 10) (m : Nat) (hm : (V 26).toInt = (m : Int)) (h5 : m ≤ 5) (p sz : Nat) (hp : (mi 17 1).toInt = (p : Int)) (hp4 : p < 4) (hsz : (mi 17 2).toInt = (sz : Int)) (hs4 : sz ≤ 4) (a : Int32) (A : Int) (hA : a.toInt = A) : CtH l yL_addMixer (.codeWith yL_addMixer cL_addMixer 3 (some .int) [((0 : Nat), (5 : Nat), (6 : Nat), (15 : Nat)), ((0 : Nat), (5 : Nat), (11 : Nat), (17 : Nat))]) 4 2 12 [.ref 0, .int a] (wl mi ml) (HR (fun r mi9 ml9 => ml = ml9 ∧ (0 ≤ A ∧ A ≤ ((2 ^ n - 1 : Nat) : Int)) ∧ m < 5 ∧ r.toInt = (m : Int) ∧ ∃ mk, PUS p sz mi mk ∧ u2 (u2 (u2 mk 1 8 (V 26 + 1)) 4 m a) 1 10 0 = mi9) (fun En mi9 ml9 => mi = mi9 ∧ ml = ml9 ∧ ((En = xIA ∧ ¬ (0 ≤ A ∧ A ≤ ((2 ^ n - 1 : Nat) : Int))) ∨ (En = xIS ∧ (0 ≤ A ∧ A ≤ ((2 ^ n - 1 : Nat) : Int)) ∧ ¬ m < 5))) cThr) noX := by
  refine CtH_of pn_L hfl (Nat.le_of_ble_eq_true rfl) ?_
  show EZ (fun s _ => Nc2 s) l RL cL_addMixer 3 (some .int) false (tableOf [((0 : Nat), (5 : Nat), (6 : Nat), (15 : Nat)), ((0 : Nat), (5 : Nat), (11 : Nat), (17 : Nat))]) (rmE 4 2 12) (wl mi ml) (TgM (wl mi ml) 2 12 (HR (fun r mi9 ml9 => ml = ml9 ∧ (0 ≤ A ∧ A ≤ ((2 ^ n - 1 : Nat) : Int)) ∧ m < 5 ∧ r.toInt = (m : Int) ∧ ∃ mk, PUS p sz mi mk ∧ u2 (u2 (u2 mk 1 8 (V 26 + 1)) 4 m a) 1 10 0 = mi9) (fun En mi9 ml9 => mi = mi9 ∧ ml = ml9 ∧ ((En = xIA ∧ ¬ (0 ≤ A ∧ A ≤ ((2 ^ n - 1 : Nat) : Int))) ∨ (En = xIS ∧ (0 ≤ A ∧ A ≤ ((2 ^ n - 1 : Nat) : Int)) ∧ ¬ m < 5))) cThr) noX) 0 0 0 [(0, .ref 0), (1, .int a)] [] (wl mi ml)
  refine EZ_aload_n 0 dL_addMixer_0 rfl rfl ?_
  refine EZ_iload_n 1 dL_addMixer_1 rfl rfl ?_
  refine EZ_callVI (c_X5_addMixer l hfl mi ml V hV hD n hn h10 m hm h5 p sz hp hp4 hsz hs4 a A hA) cw_L_72 (As := [.int a]) (st := []) wi_yX5_addMixer we_yX5_addMixer (ci := 5) (q := (RX5, TX5, 7)) rfl rfl (wl_atO tw_0) rfl ⟨Nat.le_of_ble_eq_true rfl, Nat.le_of_ble_eq_true rfl, Nat.le_of_ble_eq_true rfl, Nat.le_of_ble_eq_true rfl⟩ (Nat.le_of_ble_eq_true rfl) dL_addMixer_2 rfl (Nat.le_of_ble_eq_true rfl) (Nat.le_of_ble_eq_true rfl) (xXR (fun En mi ml h => ?_)) rfl (zkI (fun r9 mi9 ml9 h9 => ?_))
  · have hEn : En = xIA ∨ En = xIS := by
      have h9 := h.2.2
      first | exact h9.elim (fun q => Or.inl q.1) (fun q => Or.inr q.1) | exact h9.elim (fun q => Or.inr q.1) (fun q => Or.inl q.1)
    rcases hEn with e | e
    · subst e
      rw [cThr_IA]
      exact ⟨[], ⟨0, 5, 6, 15⟩, [⟨0, 5, 11, 17⟩], rfl, (fun z hz => by cases hz), rfl, (by decide : (15 : Nat) ≠ 0), lk_15, ck_xIA, 2, 1, (-901), by decide, Or.inr ⟨2, rfl, dL_addMixer_6, rfl⟩, dL_addMixer_7, by decide, dL_addMixer_10⟩
    · subst e
      rw [cThr_IS]
      exact ⟨[⟨0, 5, 6, 15⟩], ⟨0, 5, 11, 17⟩, [], rfl, (fun z hz => by rw [List.mem_singleton.mp hz]; exact Or.inr ⟨(by decide : (15 : Nat) ≠ 0), _, lk_15, fun s hs => hs.1⟩), rfl, (by decide : (17 : Nat) ≠ 0), lk_17, ck_xIS, 2, 1, (-902), by decide, Or.inr ⟨2, rfl, dL_addMixer_11, rfl⟩, dL_addMixer_12, by decide, dL_addMixer_15⟩
  exact EZ_iret rfl (Nat.le_of_ble_eq_true rfl) (Nat.le_of_ble_eq_true rfl) dL_addMixer_5 (okHR h9)
theorem cwH_195 : CwH RL 195 yL_addMixer cL_addMixer 3 (some .int) [((0 : Nat), (5 : Nat), (6 : Nat), (15 : Nat)), ((0 : Nat), (5 : Nat), (11 : Nat), (17 : Nat))] 2 := ⟨⟨List.mem_of_getElem? (i := 564) (by decide +kernel), rfl⟩, ⟨List.mem_of_getElem? (i := 566) (by decide +kernel), rfl⟩, wz_L, ⟨by decide, by decide⟩, by decide +kernel, ⟨List.mem_of_getElem? (i := 565) (by decide +kernel), rfl⟩⟩
set_option maxRecDepth 100000 in
theorem h_L_setMember (l : Launch) (hfl : l.stackTraces = false) (mi : MI) (ml : MJ) (V : Nat → Int32) (hV : WFV V) (hD : DR 1 mi V) (n : Nat) (hn : (V 5).toInt = (n : Int)) (h10 : n ≤ 10) (m : Nat) (hm : (V 26).toInt = (m : Int)) (h5 : m ≤ 5) (p sz : Nat) (hp : (mi 17 1).toInt = (p : Int)) (hp4 : p < 4) (hsz : (mi 17 2).toInt = (sz : Int)) (hs4 : sz ≤ 4) (a : Int32) (A : Int) (hA : a.toInt = A) (c : Int32) (C : Int) (hC : c.toInt = C) (xb : Int32) (P : Prop) (hxb : xb = bI P) : CtH l yL_setMember (.codeWith yL_setMember cL_setMember 5 (some .int) [((0 : Nat), (7 : Nat), (8 : Nat), (23 : Nat))]) 4 2 12 [.ref 0, .int a, .int c, .int xb] (wl mi ml) (HR (fun r mi9 ml9 => ml = ml9 ∧ ∃ (b d : Nat) (mk : MI), b < m ∧ d < n ∧ A = (b : Int) ∧ C = (d : Int) ∧ PUS p sz mi mk ∧ u2 (u2 mk 4 b r) 1 10 0 = mi9 ∧ ((P ∧ r = V (27 + b) ||| ((1 : Int32) <<< (c &&& 31))) ∨ (¬ P ∧ r = V (27 + b) &&& (((1 : Int32) <<< (c &&& 31)) ^^^ (-1))))) (fun En mi9 ml9 => mi = mi9 ∧ ml = ml9 ∧ En = xIO ∧ ¬ ((0 ≤ A ∧ A < (m : Int)) ∧ (0 ≤ C ∧ C < (n : Int)))) cThr) noX := by
  subst hxb
  refine CtH_of pn_L hfl (Nat.le_of_ble_eq_true rfl) ?_
  show EZ (fun s _ => Nc2 s) l RL cL_setMember 5 (some .int) false (tableOf [((0 : Nat), (7 : Nat), (8 : Nat), (23 : Nat))]) (rmE 4 2 12) (wl mi ml) (TgM (wl mi ml) 2 12 (HR (fun r mi9 ml9 => ml = ml9 ∧ ∃ (b d : Nat) (mk : MI), b < m ∧ d < n ∧ A = (b : Int) ∧ C = (d : Int) ∧ PUS p sz mi mk ∧ u2 (u2 mk 4 b r) 1 10 0 = mi9 ∧ ((P ∧ r = V (27 + b) ||| ((1 : Int32) <<< (c &&& 31))) ∨ (¬ P ∧ r = V (27 + b) &&& (((1 : Int32) <<< (c &&& 31)) ^^^ (-1))))) (fun En mi9 ml9 => mi = mi9 ∧ ml = ml9 ∧ En = xIO ∧ ¬ ((0 ≤ A ∧ A < (m : Int)) ∧ (0 ≤ C ∧ C < (n : Int)))) cThr) noX) 0 0 0 [(0, .ref 0), (1, .int a), (2, .int c), (3, .int (bI (P)))] [] (wl mi ml)
  refine EZ_aload_n 0 dL_setMember_0 rfl rfl ?_
  refine EZ_iload_n 1 dL_setMember_1 rfl rfl ?_
  refine EZ_iload_n 2 dL_setMember_2 rfl rfl ?_
  refine EZ_iload_n 3 dL_setMember_3 rfl rfl ?_
  refine EZ_callVI (c_X5_setMember l hfl mi ml V hV hD n hn h10 m hm h5 p sz hp hp4 hsz hs4 a A hA c C hC _ P rfl) cw_L_75 (As := [.int a, .int c, .int (bI (P))]) (st := []) wi_yX5_setMember we_yX5_setMember (ci := 5) (q := (RX5, TX5, 7)) rfl rfl (wl_atO tw_0) rfl ⟨Nat.le_of_ble_eq_true rfl, Nat.le_of_ble_eq_true rfl, Nat.le_of_ble_eq_true rfl, Nat.le_of_ble_eq_true rfl⟩ (Nat.le_of_ble_eq_true rfl) dL_setMember_4 rfl (Nat.le_of_ble_eq_true rfl) (Nat.le_of_ble_eq_true rfl) (xXR (fun En mi ml h => ?_)) rfl (zkI (fun r9 mi9 ml9 h9 => ?_))
  · have hEn : En = xIO := by
      first | exact h.2.2.1 | exact h.2.1
    subst hEn
    rw [cThr_IO]
    exact ⟨[], ⟨0, 7, 8, 23⟩, [], rfl, (fun z hz => by cases hz), rfl, (by decide : (23 : Nat) ≠ 0), lk_23, ck_xIO, 4, 2, (-903), by decide, Or.inl ⟨dL_setMember_8, rfl⟩, dL_setMember_10, by decide, dL_setMember_13⟩
  exact EZ_iret rfl (Nat.le_of_ble_eq_true rfl) (Nat.le_of_ble_eq_true rfl) dL_setMember_7 (okHR h9)
theorem cwH_197 : CwH RL 197 yL_setMember cL_setMember 5 (some .int) [((0 : Nat), (7 : Nat), (8 : Nat), (23 : Nat))] 4 := ⟨⟨List.mem_of_getElem? (i := 581) (by decide +kernel), rfl⟩, ⟨List.mem_of_getElem? (i := 583) (by decide +kernel), rfl⟩, wz_L, ⟨by decide, by decide⟩, by decide +kernel, ⟨List.mem_of_getElem? (i := 582) (by decide +kernel), rfl⟩⟩
set_option maxRecDepth 100000 in
theorem h_L_addTest (l : Launch) (hfl : l.stackTraces = false) (mi : MI) (ml : MJ) (V : Nat → Int32) (hV : WFV V) (hD : DR 1 mi V) (n : Nat) (hn : (V 5).toInt = (n : Int)) (h10 : n ≤ 10) (m : Nat) (hm : (V 26).toInt = (m : Int)) (h5 : m ≤ 5) (t : Nat) (ht : (V 32).toInt = (t : Int)) (h16 : t ≤ 16) (p sz : Nat) (hp : (mi 17 1).toInt = (p : Int)) (hp4 : p < 4) (hsz : (mi 17 2).toInt = (sz : Int)) (hs4 : sz ≤ 4) (a : Int32) (A : Int) (hA : a.toInt = A) (c : Int32) (C : Int) (hC : c.toInt = C) (xb : Int32) (P : Prop) (hxb : xb = bI P) : CtH l yL_addTest (.codeWith yL_addTest cL_addTest 5 (some .int) [((0 : Nat), (7 : Nat), (8 : Nat), (15 : Nat)), ((0 : Nat), (7 : Nat), (14 : Nat), (17 : Nat))]) 7 3 18 [.ref 0, .int a, .int c, .int xb] (wl mi ml) (HR (fun r mi9 ml9 => ((0 ≤ A ∧ A ≤ ((2 ^ n - 1 : Nat) : Int)) ∧ (0 ≤ C ∧ C < 64)) ∧ t < 16 ∧ FL60 ml ml9 ∧ WFV (ATV V t a c (bI P)) ∧ DR 1 mi9 (ATV V t a c (bI P)) ∧ (∃ mk, PUS p sz mi mk ∧ Fr [1, 5, 6, 7, 8, 51, 52] mk mi9) ∧ r.toInt = (((fitL (ATV V t a c (bI P)) n m (t + 1) (2 ^ m)).length : Nat) : Int)) (fun En mi9 ml9 => mi = mi9 ∧ ml = ml9 ∧ ((En = xIA ∧ ¬ ((0 ≤ A ∧ A ≤ ((2 ^ n - 1 : Nat) : Int)) ∧ (0 ≤ C ∧ C < 64))) ∨ (En = xIS ∧ ((0 ≤ A ∧ A ≤ ((2 ^ n - 1 : Nat) : Int)) ∧ (0 ≤ C ∧ C < 64)) ∧ ¬ t < 16))) cThr) noX := by
  subst hxb
  refine CtH_of pn_L hfl (Nat.le_of_ble_eq_true rfl) ?_
  show EZ (fun s _ => Nc2 s) l RL cL_addTest 5 (some .int) false (tableOf [((0 : Nat), (7 : Nat), (8 : Nat), (15 : Nat)), ((0 : Nat), (7 : Nat), (14 : Nat), (17 : Nat))]) (rmE 7 3 18) (wl mi ml) (TgM (wl mi ml) 3 18 (HR (fun r mi9 ml9 => ((0 ≤ A ∧ A ≤ ((2 ^ n - 1 : Nat) : Int)) ∧ (0 ≤ C ∧ C < 64)) ∧ t < 16 ∧ FL60 ml ml9 ∧ WFV (ATV V t a c (bI P)) ∧ DR 1 mi9 (ATV V t a c (bI P)) ∧ (∃ mk, PUS p sz mi mk ∧ Fr [1, 5, 6, 7, 8, 51, 52] mk mi9) ∧ r.toInt = (((fitL (ATV V t a c (bI P)) n m (t + 1) (2 ^ m)).length : Nat) : Int)) (fun En mi9 ml9 => mi = mi9 ∧ ml = ml9 ∧ ((En = xIA ∧ ¬ ((0 ≤ A ∧ A ≤ ((2 ^ n - 1 : Nat) : Int)) ∧ (0 ≤ C ∧ C < 64))) ∨ (En = xIS ∧ ((0 ≤ A ∧ A ≤ ((2 ^ n - 1 : Nat) : Int)) ∧ (0 ≤ C ∧ C < 64)) ∧ ¬ t < 16))) cThr) noX) 0 0 0 [(0, .ref 0), (1, .int a), (2, .int c), (3, .int (bI (P)))] [] (wl mi ml)
  refine EZ_aload_n 0 dL_addTest_0 rfl rfl ?_
  refine EZ_iload_n 1 dL_addTest_1 rfl rfl ?_
  refine EZ_iload_n 2 dL_addTest_2 rfl rfl ?_
  refine EZ_iload_n 3 dL_addTest_3 rfl rfl ?_
  refine EZ_callVI (c_X5_addTest l hfl mi ml V hV hD n hn h10 m hm h5 t ht h16 p sz hp hp4 hsz hs4 a A hA c C hC _ P rfl) cw_L_82 (As := [.int a, .int c, .int (bI (P))]) (st := []) wi_yX5_addTest we_yX5_addTest (ci := 5) (q := (RX5, TX5, 7)) rfl rfl (wl_atO tw_0) rfl ⟨Nat.le_of_ble_eq_true rfl, Nat.le_of_ble_eq_true rfl, Nat.le_of_ble_eq_true rfl, Nat.le_of_ble_eq_true rfl⟩ (Nat.le_of_ble_eq_true rfl) dL_addTest_4 rfl (Nat.le_of_ble_eq_true rfl) (Nat.le_of_ble_eq_true rfl) (xXR (fun En mi ml h => ?_)) rfl (zkI (fun r9 mi9 ml9 h9 => ?_))
  · have hEn : En = xIA ∨ En = xIS := by
      have h9 := h.2.2
      first | exact h9.elim (fun q => Or.inl q.1) (fun q => Or.inr q.1) | exact h9.elim (fun q => Or.inr q.1) (fun q => Or.inl q.1)
    rcases hEn with e | e
    · subst e
      rw [cThr_IA]
      exact ⟨[], ⟨0, 7, 8, 15⟩, [⟨0, 7, 14, 17⟩], rfl, (fun z hz => by cases hz), rfl, (by decide : (15 : Nat) ≠ 0), lk_15, ck_xIA, 4, 2, (-901), by decide, Or.inl ⟨dL_addTest_8, rfl⟩, dL_addTest_10, by decide, dL_addTest_13⟩
    · subst e
      rw [cThr_IS]
      exact ⟨[⟨0, 7, 8, 15⟩], ⟨0, 7, 14, 17⟩, [], rfl, (fun z hz => by rw [List.mem_singleton.mp hz]; exact Or.inr ⟨(by decide : (15 : Nat) ≠ 0), _, lk_15, fun s hs => hs.1⟩), rfl, (by decide : (17 : Nat) ≠ 0), lk_17, ck_xIS, 4, 2, (-902), by decide, Or.inl ⟨dL_addTest_14, rfl⟩, dL_addTest_16, by decide, dL_addTest_19⟩
  exact EZ_iret rfl (Nat.le_of_ble_eq_true rfl) (Nat.le_of_ble_eq_true rfl) dL_addTest_7 (okHR h9)
theorem cwH_179 : CwH RL 179 yL_addTest cL_addTest 5 (some .int) [((0 : Nat), (7 : Nat), (8 : Nat), (15 : Nat)), ((0 : Nat), (7 : Nat), (14 : Nat), (17 : Nat))] 4 := ⟨⟨List.mem_of_getElem? (i := 596) (by decide +kernel), rfl⟩, ⟨List.mem_of_getElem? (i := 598) (by decide +kernel), rfl⟩, wz_L, ⟨by decide, by decide⟩, by decide +kernel, ⟨List.mem_of_getElem? (i := 597) (by decide +kernel), rfl⟩⟩
set_option maxRecDepth 100000 in
theorem h_L_undo (l : Launch) (hfl : l.stackTraces = false) (mi : MI) (ml : MJ) (p sz : Nat) (hp : (mi 17 1).toInt = (p : Int)) (hp4 : p < 4) (hsz : (mi 17 2).toInt = (sz : Int)) (hs4 : sz ≤ 4) : CtH l yL_undo (.codeWith yL_undo cL_undo 2 (some .int) [((0 : Nat), (4 : Nat), (5 : Nat), (17 : Nat))]) 3 1 6 [.ref 0] (wl mi ml) (HR (fun r mi9 ml9 => ml = ml9 ∧ 0 < sz ∧ r = mi9 17 2 ∧ POS p sz mi mi9) (fun En mi9 ml9 => mi = mi9 ∧ ml = ml9 ∧ En = xIS ∧ ¬ 0 < sz) cThr) noX := by
  refine CtH_of pn_L hfl (Nat.le_of_ble_eq_true rfl) ?_
  show EZ (fun s _ => Nc2 s) l RL cL_undo 2 (some .int) false (tableOf [((0 : Nat), (4 : Nat), (5 : Nat), (17 : Nat))]) (rmE 3 1 6) (wl mi ml) (TgM (wl mi ml) 1 6 (HR (fun r mi9 ml9 => ml = ml9 ∧ 0 < sz ∧ r = mi9 17 2 ∧ POS p sz mi mi9) (fun En mi9 ml9 => mi = mi9 ∧ ml = ml9 ∧ En = xIS ∧ ¬ 0 < sz) cThr) noX) 0 0 0 [(0, .ref 0)] [] (wl mi ml)
  refine EZ_aload_n 0 dL_undo_0 rfl rfl ?_
  refine EZ_callVI (c_X5_undo l hfl mi ml p sz hp hp4 hsz hs4) cw_L_97 (As := []) (st := []) wi_yX5_undo we_yX5_undo (ci := 5) (q := (RX5, TX5, 7)) rfl rfl (wl_atO tw_0) rfl ⟨Nat.le_of_ble_eq_true rfl, Nat.le_of_ble_eq_true rfl, Nat.le_of_ble_eq_true rfl, Nat.le_of_ble_eq_true rfl⟩ (Nat.le_of_ble_eq_true rfl) dL_undo_1 rfl (Nat.le_of_ble_eq_true rfl) (Nat.le_of_ble_eq_true rfl) (xXR (fun En mi ml h => ?_)) rfl (zkI (fun r9 mi9 ml9 h9 => ?_))
  · have hEn : En = xIS := by
      first | exact h.2.2.1 | exact h.2.1
    subst hEn
    rw [cThr_IS]
    exact ⟨[], ⟨0, 4, 5, 17⟩, [], rfl, (fun z hz => by cases hz), rfl, (by decide : (17 : Nat) ≠ 0), lk_17, ck_xIS, 1, 1, (-902), by decide, Or.inr ⟨1, rfl, dL_undo_5, rfl⟩, dL_undo_6, by decide, dL_undo_9⟩
  exact EZ_iret rfl (Nat.le_of_ble_eq_true rfl) (Nat.le_of_ble_eq_true rfl) dL_undo_4 (okHR h9)
theorem cwH_147 : CwH RL 147 yL_undo cL_undo 2 (some .int) [((0 : Nat), (4 : Nat), (5 : Nat), (17 : Nat))] 1 := ⟨⟨List.mem_of_getElem? (i := 640) (by decide +kernel), rfl⟩, ⟨List.mem_of_getElem? (i := 642) (by decide +kernel), rfl⟩, wz_L, ⟨by decide, by decide⟩, by decide +kernel, ⟨List.mem_of_getElem? (i := 641) (by decide +kernel), rfl⟩⟩
set_option maxRecDepth 100000 in
theorem h_L_fallout (l : Launch) (hfl : l.stackTraces = false) (mi : MI) (ml : MJ) (V : Nat → Int32) (hV : WFV V) (hD : DR 1 mi V) (n : Nat) (hn : (V 5).toInt = (n : Int)) (h10 : n ≤ 10) (a : Int32) (A : Int) (hA : a.toInt = A) : CtH l yL_fallout (.codeWith yL_fallout cL_fallout 3 (some .long) [((0 : Nat), (5 : Nat), (6 : Nat), (15 : Nat))]) 6 1 6 [.ref 0, .int a] (wl mi ml) (HRJ (fun r mi9 ml9 => ml = ml9 ∧ Fr [51, 52] mi mi9 ∧ (0 ≤ A ∧ A ≤ ((2 ^ n - 1 : Nat) : Int)) ∧ ∃ s : Nat, A = (s : Int) ∧ r = foA (DV V) (prV V s n) (prV V s n).length) (fun En mi9 ml9 => ml = ml9 ∧ mi = mi9 ∧ En = xIA ∧ ¬ (0 ≤ A ∧ A ≤ ((2 ^ n - 1 : Nat) : Int))) cThJ) noX := by
  refine CtH_of pn_L hfl (Nat.le_of_ble_eq_true rfl) ?_
  show EZ (fun s _ => Nc2 s) l RL cL_fallout 3 (some .long) false (tableOf [((0 : Nat), (5 : Nat), (6 : Nat), (15 : Nat))]) (rmE 6 1 6) (wl mi ml) (TgM (wl mi ml) 1 6 (HRJ (fun r mi9 ml9 => ml = ml9 ∧ Fr [51, 52] mi mi9 ∧ (0 ≤ A ∧ A ≤ ((2 ^ n - 1 : Nat) : Int)) ∧ ∃ s : Nat, A = (s : Int) ∧ r = foA (DV V) (prV V s n) (prV V s n).length) (fun En mi9 ml9 => ml = ml9 ∧ mi = mi9 ∧ En = xIA ∧ ¬ (0 ≤ A ∧ A ≤ ((2 ^ n - 1 : Nat) : Int))) cThJ) noX) 0 0 0 [(0, .ref 0), (1, .int a)] [] (wl mi ml)
  refine EZ_aload_n 0 dL_fallout_0 rfl rfl ?_
  refine EZ_iload_n 1 dL_fallout_1 rfl rfl ?_
  refine EZ_callVJ (c_X5_fallout l hfl mi ml V hV hD n hn h10 a A hA) cw_L_48 (As := [.int a]) (st := []) wi_yX5_fallout we_yX5_fallout (ci := 5) (q := (RX5, TX5, 7)) rfl rfl (wl_atO tw_0) rfl ⟨Nat.le_of_ble_eq_true rfl, Nat.le_of_ble_eq_true rfl, Nat.le_of_ble_eq_true rfl, Nat.le_of_ble_eq_true rfl⟩ (Nat.le_of_ble_eq_true rfl) dL_fallout_2 rfl (Nat.le_of_ble_eq_true rfl) (Nat.le_of_ble_eq_true rfl) (xXRJ (fun En mi ml h => ?_)) rfl (zkJ (fun r9 mi9 ml9 h9 => ?_))
  · have hEn : En = xIA := by
      first | exact h.2.2.1 | exact h.2.1
    subst hEn
    show HKVJ RL _ _ _ _ _ (-901)
    exact ⟨[], ⟨0, 5, 6, 15⟩, [], rfl, (fun z hz => by cases hz), rfl, (by decide : (15 : Nat) ≠ 0), lk_15, ck_xIA, 2, 1, 52, by decide, Or.inr ⟨2, rfl, dL_fallout_6, rfl⟩, dL_fallout_7, wk_L_52, dL_fallout_10⟩
  exact EZ_lret rfl (Nat.le_of_ble_eq_true rfl) (Nat.le_of_ble_eq_true rfl) dL_fallout_5 (okHRJ h9)
theorem cwH_106 : CwH RL 106 yL_fallout cL_fallout 3 (some .long) [((0 : Nat), (5 : Nat), (6 : Nat), (15 : Nat))] 2 := ⟨⟨List.mem_of_getElem? (i := 658) (by decide +kernel), rfl⟩, ⟨List.mem_of_getElem? (i := 660) (by decide +kernel), rfl⟩, wz_L, ⟨by decide, by decide⟩, by decide +kernel, ⟨List.mem_of_getElem? (i := 659) (by decide +kernel), rfl⟩⟩
set_option maxRecDepth 100000 in
theorem h_L_hitsOn (l : Launch) (hfl : l.stackTraces = false) (mi : MI) (ml : MJ) (V : Nat → Int32) (hV : WFV V) (hD : DR 1 mi V) (n : Nat) (hn : (V 5).toInt = (n : Int)) (h10 : n ≤ 10) (a : Int32) (A : Int) (hA : a.toInt = A) : CtH l yL_hitsOn (.codeWith yL_hitsOn cL_hitsOn 3 (some .int) [((0 : Nat), (5 : Nat), (6 : Nat), (23 : Nat))]) 5 1 6 [.ref 0, .int a] (wl mi ml) (HR (fun r mi9 ml9 => ml = ml9 ∧ Fr [51, 52] mi mi9 ∧ ∃ b : Nat, b < n ∧ A = (b : Int) ∧ r.toInt = (hcA (DV V) (V 3).toInt (V (6 + 2 * b)).toInt (prV V (2 ^ n - 1) n) (prV V (2 ^ n - 1) n).length : Int)) (fun En mi9 ml9 => ml = ml9 ∧ mi = mi9 ∧ En = xIO ∧ ¬ (0 ≤ A ∧ A < (n : Int))) cThr) noX := by
  refine CtH_of pn_L hfl (Nat.le_of_ble_eq_true rfl) ?_
  show EZ (fun s _ => Nc2 s) l RL cL_hitsOn 3 (some .int) false (tableOf [((0 : Nat), (5 : Nat), (6 : Nat), (23 : Nat))]) (rmE 5 1 6) (wl mi ml) (TgM (wl mi ml) 1 6 (HR (fun r mi9 ml9 => ml = ml9 ∧ Fr [51, 52] mi mi9 ∧ ∃ b : Nat, b < n ∧ A = (b : Int) ∧ r.toInt = (hcA (DV V) (V 3).toInt (V (6 + 2 * b)).toInt (prV V (2 ^ n - 1) n) (prV V (2 ^ n - 1) n).length : Int)) (fun En mi9 ml9 => ml = ml9 ∧ mi = mi9 ∧ En = xIO ∧ ¬ (0 ≤ A ∧ A < (n : Int))) cThr) noX) 0 0 0 [(0, .ref 0), (1, .int a)] [] (wl mi ml)
  refine EZ_aload_n 0 dL_hitsOn_0 rfl rfl ?_
  refine EZ_iload_n 1 dL_hitsOn_1 rfl rfl ?_
  refine EZ_callVI (c_X5_hitsOn l hfl mi ml V hV hD n hn h10 a A hA) cw_L_54 (As := [.int a]) (st := []) wi_yX5_hitsOn we_yX5_hitsOn (ci := 5) (q := (RX5, TX5, 7)) rfl rfl (wl_atO tw_0) rfl ⟨Nat.le_of_ble_eq_true rfl, Nat.le_of_ble_eq_true rfl, Nat.le_of_ble_eq_true rfl, Nat.le_of_ble_eq_true rfl⟩ (Nat.le_of_ble_eq_true rfl) dL_hitsOn_2 rfl (Nat.le_of_ble_eq_true rfl) (Nat.le_of_ble_eq_true rfl) (xXR (fun En mi ml h => ?_)) rfl (zkI (fun r9 mi9 ml9 h9 => ?_))
  · have hEn : En = xIO := by
      first | exact h.2.2.1 | exact h.2.1
    subst hEn
    rw [cThr_IO]
    exact ⟨[], ⟨0, 5, 6, 23⟩, [], rfl, (fun z hz => by cases hz), rfl, (by decide : (23 : Nat) ≠ 0), lk_23, ck_xIO, 2, 1, (-903), by decide, Or.inr ⟨2, rfl, dL_hitsOn_6, rfl⟩, dL_hitsOn_7, by decide, dL_hitsOn_10⟩
  exact EZ_iret rfl (Nat.le_of_ble_eq_true rfl) (Nat.le_of_ble_eq_true rfl) dL_hitsOn_5 (okHR h9)
theorem cwH_109 : CwH RL 109 yL_hitsOn cL_hitsOn 3 (some .int) [((0 : Nat), (5 : Nat), (6 : Nat), (23 : Nat))] 2 := ⟨⟨List.mem_of_getElem? (i := 666) (by decide +kernel), rfl⟩, ⟨List.mem_of_getElem? (i := 668) (by decide +kernel), rfl⟩, wz_L, ⟨by decide, by decide⟩, by decide +kernel, ⟨List.mem_of_getElem? (i := 667) (by decide +kernel), rfl⟩⟩
set_option maxRecDepth 100000 in
theorem h_L_carrier (l : Launch) (hfl : l.stackTraces = false) (mi : MI) (ml : MJ) (V : Nat → Int32) (hV : WFV V) (hD : DR 1 mi V) (n : Nat) (hn : (V 5).toInt = (n : Int)) (h10 : n ≤ 10) (a : Int32) (A : Int) (hA : a.toInt = A) (xb : Int32) (P : Prop) (hxb : xb = bI P) : CtH l yL_carrier (.codeWith yL_carrier cL_carrier 4 (some .int) [((0 : Nat), (6 : Nat), (7 : Nat), (23 : Nat))]) 4 1 6 [.ref 0, .int a, .int xb] (wl mi ml) (HR (fun r mi9 ml9 => mi = mi9 ∧ ml = ml9 ∧ ∃ b : Nat, b < n ∧ A = (b : Int) ∧ ((P ∧ r = V (7 + 2 * b)) ∨ (¬ P ∧ r = V (6 + 2 * b)))) (fun En mi9 ml9 => mi = mi9 ∧ ml = ml9 ∧ En = xIO ∧ ¬ (0 ≤ A ∧ A < (n : Int))) cThr) noX := by
  subst hxb
  refine CtH_of pn_L hfl (Nat.le_of_ble_eq_true rfl) ?_
  show EZ (fun s _ => Nc2 s) l RL cL_carrier 4 (some .int) false (tableOf [((0 : Nat), (6 : Nat), (7 : Nat), (23 : Nat))]) (rmE 4 1 6) (wl mi ml) (TgM (wl mi ml) 1 6 (HR (fun r mi9 ml9 => mi = mi9 ∧ ml = ml9 ∧ ∃ b : Nat, b < n ∧ A = (b : Int) ∧ ((P ∧ r = V (7 + 2 * b)) ∨ (¬ P ∧ r = V (6 + 2 * b)))) (fun En mi9 ml9 => mi = mi9 ∧ ml = ml9 ∧ En = xIO ∧ ¬ (0 ≤ A ∧ A < (n : Int))) cThr) noX) 0 0 0 [(0, .ref 0), (1, .int a), (2, .int (bI (P)))] [] (wl mi ml)
  refine EZ_aload_n 0 dL_carrier_0 rfl rfl ?_
  refine EZ_iload_n 1 dL_carrier_1 rfl rfl ?_
  refine EZ_iload_n 2 dL_carrier_2 rfl rfl ?_
  refine EZ_callVI (c_X5_carrier l hfl mi ml V hV hD n hn h10 a A hA _ P rfl) cw_L_41 (As := [.int a, .int (bI (P))]) (st := []) wi_yX5_carrier we_yX5_carrier (ci := 5) (q := (RX5, TX5, 7)) rfl rfl (wl_atO tw_0) rfl ⟨Nat.le_of_ble_eq_true rfl, Nat.le_of_ble_eq_true rfl, Nat.le_of_ble_eq_true rfl, Nat.le_of_ble_eq_true rfl⟩ (Nat.le_of_ble_eq_true rfl) dL_carrier_3 rfl (Nat.le_of_ble_eq_true rfl) (Nat.le_of_ble_eq_true rfl) (xXR (fun En mi ml h => ?_)) rfl (zkI (fun r9 mi9 ml9 h9 => ?_))
  · have hEn : En = xIO := by
      first | exact h.2.2.1 | exact h.2.1
    subst hEn
    rw [cThr_IO]
    exact ⟨[], ⟨0, 6, 7, 23⟩, [], rfl, (fun z hz => by cases hz), rfl, (by decide : (23 : Nat) ≠ 0), lk_23, ck_xIO, 3, 1, (-903), by decide, Or.inr ⟨3, rfl, dL_carrier_7, rfl⟩, dL_carrier_8, by decide, dL_carrier_11⟩
  exact EZ_iret rfl (Nat.le_of_ble_eq_true rfl) (Nat.le_of_ble_eq_true rfl) dL_carrier_6 (okHR h9)
theorem cwH_117 : CwH RL 117 yL_carrier cL_carrier 4 (some .int) [((0 : Nat), (6 : Nat), (7 : Nat), (23 : Nat))] 3 := ⟨⟨List.mem_of_getElem? (i := 678) (by decide +kernel), rfl⟩, ⟨List.mem_of_getElem? (i := 680) (by decide +kernel), rfl⟩, wz_L, ⟨by decide, by decide⟩, by decide +kernel, ⟨List.mem_of_getElem? (i := 679) (by decide +kernel), rfl⟩⟩
set_option maxRecDepth 100000 in
theorem h_L_product (l : Launch) (hfl : l.stackTraces = false) (mi : MI) (ml : MJ) (V : Nat → Int32) (hV : WFV V) (hD : DR 1 mi V) (n : Nat) (hn : (V 5).toInt = (n : Int)) (h10 : n ≤ 10) (x a : Int32) (X A : Int) (hX : x.toInt = X) (hA : a.toInt = A) : CtH l yL_product (.codeWith yL_product cL_product 4 (some .int) [((0 : Nat), (6 : Nat), (7 : Nat), (23 : Nat)), ((0 : Nat), (6 : Nat), (12 : Nat), (15 : Nat))]) 5 1 6 [.ref 0, .int x, .int a] (wl mi ml) (HR (fun r mi9 ml9 => ml = ml9 ∧ Fr [51, 52] mi mi9 ∧ ∃ (i j : Nat) (row : Nat → Int32), X = (i : Int) ∧ i < (prV V (2 ^ n - 1) n).length ∧ A = (j : Int) ∧ j < 6 ∧ encd (DV V) row (prV V (2 ^ n - 1) n) ∧ r = row (6 * i + j)) (fun En mi9 ml9 => ml = ml9 ∧ Fr [51, 52] mi mi9 ∧ ((En = xIO ∧ ¬ (0 ≤ X ∧ X < ((prV V (2 ^ n - 1) n).length : Int))) ∨ (En = xIA ∧ (0 ≤ X ∧ X < ((prV V (2 ^ n - 1) n).length : Int)) ∧ ¬ (0 ≤ A ∧ A ≤ 5)))) cThr) noX := by
  refine CtH_of pn_L hfl (Nat.le_of_ble_eq_true rfl) ?_
  show EZ (fun s _ => Nc2 s) l RL cL_product 4 (some .int) false (tableOf [((0 : Nat), (6 : Nat), (7 : Nat), (23 : Nat)), ((0 : Nat), (6 : Nat), (12 : Nat), (15 : Nat))]) (rmE 5 1 6) (wl mi ml) (TgM (wl mi ml) 1 6 (HR (fun r mi9 ml9 => ml = ml9 ∧ Fr [51, 52] mi mi9 ∧ ∃ (i j : Nat) (row : Nat → Int32), X = (i : Int) ∧ i < (prV V (2 ^ n - 1) n).length ∧ A = (j : Int) ∧ j < 6 ∧ encd (DV V) row (prV V (2 ^ n - 1) n) ∧ r = row (6 * i + j)) (fun En mi9 ml9 => ml = ml9 ∧ Fr [51, 52] mi mi9 ∧ ((En = xIO ∧ ¬ (0 ≤ X ∧ X < ((prV V (2 ^ n - 1) n).length : Int))) ∨ (En = xIA ∧ (0 ≤ X ∧ X < ((prV V (2 ^ n - 1) n).length : Int)) ∧ ¬ (0 ≤ A ∧ A ≤ 5)))) cThr) noX) 0 0 0 [(0, .ref 0), (1, .int x), (2, .int a)] [] (wl mi ml)
  refine EZ_aload_n 0 dL_product_0 rfl rfl ?_
  refine EZ_iload_n 1 dL_product_1 rfl rfl ?_
  refine EZ_iload_n 2 dL_product_2 rfl rfl ?_
  refine EZ_callVI (c_X5_product l hfl mi ml V hV hD n hn h10 x a X A hX hA) cw_L_45 (As := [.int x, .int a]) (st := []) wi_yX5_product we_yX5_product (ci := 5) (q := (RX5, TX5, 7)) rfl rfl (wl_atO tw_0) rfl ⟨Nat.le_of_ble_eq_true rfl, Nat.le_of_ble_eq_true rfl, Nat.le_of_ble_eq_true rfl, Nat.le_of_ble_eq_true rfl⟩ (Nat.le_of_ble_eq_true rfl) dL_product_3 rfl (Nat.le_of_ble_eq_true rfl) (Nat.le_of_ble_eq_true rfl) (xXR (fun En mi ml h => ?_)) rfl (zkI (fun r9 mi9 ml9 h9 => ?_))
  · have hEn : En = xIO ∨ En = xIA := by
      have h9 := h.2.2
      first | exact h9.elim (fun q => Or.inl q.1) (fun q => Or.inr q.1) | exact h9.elim (fun q => Or.inr q.1) (fun q => Or.inl q.1)
    rcases hEn with e | e
    · subst e
      rw [cThr_IO]
      exact ⟨[], ⟨0, 6, 7, 23⟩, [⟨0, 6, 12, 15⟩], rfl, (fun z hz => by cases hz), rfl, (by decide : (23 : Nat) ≠ 0), lk_23, ck_xIO, 3, 1, (-903), by decide, Or.inr ⟨3, rfl, dL_product_7, rfl⟩, dL_product_8, by decide, dL_product_11⟩
    · subst e
      rw [cThr_IA]
      exact ⟨[⟨0, 6, 7, 23⟩], ⟨0, 6, 12, 15⟩, [], rfl, (fun z hz => by rw [List.mem_singleton.mp hz]; exact Or.inr ⟨(by decide : (23 : Nat) ≠ 0), _, lk_23, fun s hs => hs.2⟩), rfl, (by decide : (15 : Nat) ≠ 0), lk_15, ck_xIA, 3, 1, (-901), by decide, Or.inr ⟨3, rfl, dL_product_12, rfl⟩, dL_product_13, by decide, dL_product_16⟩
  exact EZ_iret rfl (Nat.le_of_ble_eq_true rfl) (Nat.le_of_ble_eq_true rfl) dL_product_6 (okHR h9)
theorem cwH_123 : CwH RL 123 yL_product cL_product 4 (some .int) [((0 : Nat), (6 : Nat), (7 : Nat), (23 : Nat)), ((0 : Nat), (6 : Nat), (12 : Nat), (15 : Nat))] 3 := ⟨⟨List.mem_of_getElem? (i := 685) (by decide +kernel), rfl⟩, ⟨List.mem_of_getElem? (i := 687) (by decide +kernel), rfl⟩, wz_L, ⟨by decide, by decide⟩, by decide +kernel, ⟨List.mem_of_getElem? (i := 686) (by decide +kernel), rfl⟩⟩
set_option maxRecDepth 100000 in
theorem h_L_openings (l : Launch) (hfl : l.stackTraces = false) (mi : MI) (ml : MJ) (V : Nat → Int32) (hV : WFV V) (hD : DR 1 mi V) (n : Nat) (hn : (V 5).toInt = (n : Int)) (h10 : n ≤ 10) (hz : ml 56 0 = 0 ∧ ml 57 0 = 0) (a : Int32) (A : Int) (hA : a.toInt = A) : CtH l yL_openings (.codeWith yL_openings cL_openings 3 (some .long) [((0 : Nat), (5 : Nat), (6 : Nat), (15 : Nat))]) 7 1 6 [.ref 0, .int a] (wl mi ml) (HRJ (fun r mi9 ml9 => Fr [53, 54, 55] mi mi9 ∧ FLc ml ml9 ∧ (ml9 56 0 = 0 ∧ ml9 57 0 = 0) ∧ (0 ≤ A ∧ A ≤ 60) ∧ r = opS V n A 64) (fun En mi9 ml9 => mi = mi9 ∧ ml = ml9 ∧ En = xIA ∧ ¬ (0 ≤ A ∧ A ≤ 60)) cThJ) noX := by
  refine CtH_of pn_L hfl (Nat.le_of_ble_eq_true rfl) ?_
  show EZ (fun s _ => Nc2 s) l RL cL_openings 3 (some .long) false (tableOf [((0 : Nat), (5 : Nat), (6 : Nat), (15 : Nat))]) (rmE 7 1 6) (wl mi ml) (TgM (wl mi ml) 1 6 (HRJ (fun r mi9 ml9 => Fr [53, 54, 55] mi mi9 ∧ FLc ml ml9 ∧ (ml9 56 0 = 0 ∧ ml9 57 0 = 0) ∧ (0 ≤ A ∧ A ≤ 60) ∧ r = opS V n A 64) (fun En mi9 ml9 => mi = mi9 ∧ ml = ml9 ∧ En = xIA ∧ ¬ (0 ≤ A ∧ A ≤ 60)) cThJ) noX) 0 0 0 [(0, .ref 0), (1, .int a)] [] (wl mi ml)
  refine EZ_aload_n 0 dL_openings_0 rfl rfl ?_
  refine EZ_iload_n 1 dL_openings_1 rfl rfl ?_
  refine EZ_callVJ (c_X5_openings l hfl mi ml V hV hD n hn h10 hz a A hA) cw_L_66 (As := [.int a]) (st := []) wi_yX5_openings we_yX5_openings (ci := 5) (q := (RX5, TX5, 7)) rfl rfl (wl_atO tw_0) rfl ⟨Nat.le_of_ble_eq_true rfl, Nat.le_of_ble_eq_true rfl, Nat.le_of_ble_eq_true rfl, Nat.le_of_ble_eq_true rfl⟩ (Nat.le_of_ble_eq_true rfl) dL_openings_2 rfl (Nat.le_of_ble_eq_true rfl) (Nat.le_of_ble_eq_true rfl) (xXRJ (fun En mi ml h => ?_)) rfl (zkJ (fun r9 mi9 ml9 h9 => ?_))
  · have hEn : En = xIA := by
      first | exact h.2.2.1 | exact h.2.1
    subst hEn
    show HKVJ RL _ _ _ _ _ (-901)
    exact ⟨[], ⟨0, 5, 6, 15⟩, [], rfl, (fun z hz => by cases hz), rfl, (by decide : (15 : Nat) ≠ 0), lk_15, ck_xIA, 2, 1, 52, by decide, Or.inr ⟨2, rfl, dL_openings_6, rfl⟩, dL_openings_7, wk_L_52, dL_openings_10⟩
  exact EZ_lret rfl (Nat.le_of_ble_eq_true rfl) (Nat.le_of_ble_eq_true rfl) dL_openings_5 (okHRJ h9)
theorem cwH_143 : CwH RL 143 yL_openings cL_openings 3 (some .long) [((0 : Nat), (5 : Nat), (6 : Nat), (15 : Nat))] 2 := ⟨⟨List.mem_of_getElem? (i := 715) (by decide +kernel), rfl⟩, ⟨List.mem_of_getElem? (i := 717) (by decide +kernel), rfl⟩, wz_L, ⟨by decide, by decide⟩, by decide +kernel, ⟨List.mem_of_getElem? (i := 716) (by decide +kernel), rfl⟩⟩
set_option maxRecDepth 100000 in
theorem h_L_putIn (l : Launch) (hfl : l.stackTraces = false) (mi : MI) (ml : MJ) (V : Nat → Int32) (hV : WFV V) (hD : DR 1 mi V) (n : Nat) (hn : (V 5).toInt = (n : Int)) (h10 : n ≤ 10) (hz : ml 56 0 = 0 ∧ ml 57 0 = 0) (p sz : Nat) (hp : (mi 17 1).toInt = (p : Int)) (hp4 : p < 4) (hsz : (mi 17 2).toInt = (sz : Int)) (hs4 : sz ≤ 4) (a : Int32) (A : Int) (hA : a.toInt = A) : CtH l yL_putIn (.codeWith yL_putIn cL_putIn 3 (some .int) [((0 : Nat), (5 : Nat), (6 : Nat), (15 : Nat)), ((0 : Nat), (5 : Nat), (11 : Nat), (17 : Nat))]) 7 3 18 [.ref 0, .int a] (wl mi ml) (HR (fun r mi9 ml9 => FLc ml ml9 ∧ (ml9 56 0 = 0 ∧ ml9 57 0 = 0) ∧ (0 ≤ A ∧ A ≤ 60) ∧ n < 10 ∧ ((r = -1 ∧ (∀ c, c < 64 → ¬ opP V n A c) ∧ Fr [53, 54, 55] mi mi9) ∨ (∃ (z : Nat) (mj mk : MI), z < 64 ∧ opP V n A z ∧ (∀ c, c < z → ¬ opP V n A c) ∧ r.toInt = (z : Int) ∧ Fr [53, 54, 55] mi mj ∧ PUS p sz mj mk ∧ u2 (u2 (u2 (u2 mk 1 5 (V 5 + 1)) 2 n r) 3 n a) 1 10 0 = mi9))) (fun En mi9 ml9 => mi = mi9 ∧ ml = ml9 ∧ ((En = xIA ∧ ¬ (0 ≤ A ∧ A ≤ 60)) ∨ (En = xIS ∧ (0 ≤ A ∧ A ≤ 60) ∧ ¬ n < 10))) cThr) noX := by
  refine CtH_of pn_L hfl (Nat.le_of_ble_eq_true rfl) ?_
  show EZ (fun s _ => Nc2 s) l RL cL_putIn 3 (some .int) false (tableOf [((0 : Nat), (5 : Nat), (6 : Nat), (15 : Nat)), ((0 : Nat), (5 : Nat), (11 : Nat), (17 : Nat))]) (rmE 7 3 18) (wl mi ml) (TgM (wl mi ml) 3 18 (HR (fun r mi9 ml9 => FLc ml ml9 ∧ (ml9 56 0 = 0 ∧ ml9 57 0 = 0) ∧ (0 ≤ A ∧ A ≤ 60) ∧ n < 10 ∧ ((r = -1 ∧ (∀ c, c < 64 → ¬ opP V n A c) ∧ Fr [53, 54, 55] mi mi9) ∨ (∃ (z : Nat) (mj mk : MI), z < 64 ∧ opP V n A z ∧ (∀ c, c < z → ¬ opP V n A c) ∧ r.toInt = (z : Int) ∧ Fr [53, 54, 55] mi mj ∧ PUS p sz mj mk ∧ u2 (u2 (u2 (u2 mk 1 5 (V 5 + 1)) 2 n r) 3 n a) 1 10 0 = mi9))) (fun En mi9 ml9 => mi = mi9 ∧ ml = ml9 ∧ ((En = xIA ∧ ¬ (0 ≤ A ∧ A ≤ 60)) ∨ (En = xIS ∧ (0 ≤ A ∧ A ≤ 60) ∧ ¬ n < 10))) cThr) noX) 0 0 0 [(0, .ref 0), (1, .int a)] [] (wl mi ml)
  refine EZ_aload_n 0 dL_putIn_0 rfl rfl ?_
  refine EZ_iload_n 1 dL_putIn_1 rfl rfl ?_
  refine EZ_callVI (c_X5_putIn l hfl mi ml V hV hD n hn h10 hz p sz hp hp4 hsz hs4 a A hA) cw_L_69 (As := [.int a]) (st := []) wi_yX5_putIn we_yX5_putIn (ci := 5) (q := (RX5, TX5, 7)) rfl rfl (wl_atO tw_0) rfl ⟨Nat.le_of_ble_eq_true rfl, Nat.le_of_ble_eq_true rfl, Nat.le_of_ble_eq_true rfl, Nat.le_of_ble_eq_true rfl⟩ (Nat.le_of_ble_eq_true rfl) dL_putIn_2 rfl (Nat.le_of_ble_eq_true rfl) (Nat.le_of_ble_eq_true rfl) (xXR (fun En mi ml h => ?_)) rfl (zkI (fun r9 mi9 ml9 h9 => ?_))
  · have hEn : En = xIA ∨ En = xIS := by
      have h9 := h.2.2
      first | exact h9.elim (fun q => Or.inl q.1) (fun q => Or.inr q.1) | exact h9.elim (fun q => Or.inr q.1) (fun q => Or.inl q.1)
    rcases hEn with e | e
    · subst e
      rw [cThr_IA]
      exact ⟨[], ⟨0, 5, 6, 15⟩, [⟨0, 5, 11, 17⟩], rfl, (fun z hz => by cases hz), rfl, (by decide : (15 : Nat) ≠ 0), lk_15, ck_xIA, 2, 1, (-901), by decide, Or.inr ⟨2, rfl, dL_putIn_6, rfl⟩, dL_putIn_7, by decide, dL_putIn_10⟩
    · subst e
      rw [cThr_IS]
      exact ⟨[⟨0, 5, 6, 15⟩], ⟨0, 5, 11, 17⟩, [], rfl, (fun z hz => by rw [List.mem_singleton.mp hz]; exact Or.inr ⟨(by decide : (15 : Nat) ≠ 0), _, lk_15, fun s hs => hs.1⟩), rfl, (by decide : (17 : Nat) ≠ 0), lk_17, ck_xIS, 2, 1, (-902), by decide, Or.inr ⟨2, rfl, dL_putIn_11, rfl⟩, dL_putIn_12, by decide, dL_putIn_15⟩
  exact EZ_iret rfl (Nat.le_of_ble_eq_true rfl) (Nat.le_of_ble_eq_true rfl) dL_putIn_5 (okHR h9)
theorem cwH_145 : CwH RL 145 yL_putIn cL_putIn 3 (some .int) [((0 : Nat), (5 : Nat), (6 : Nat), (15 : Nat)), ((0 : Nat), (5 : Nat), (11 : Nat), (17 : Nat))] 2 := ⟨⟨List.mem_of_getElem? (i := 735) (by decide +kernel), rfl⟩, ⟨List.mem_of_getElem? (i := 737) (by decide +kernel), rfl⟩, wz_L, ⟨by decide, by decide⟩, by decide +kernel, ⟨List.mem_of_getElem? (i := 736) (by decide +kernel), rfl⟩⟩
set_option maxRecDepth 100000 in
theorem h_L_leastSpan (l : Launch) (hfl : l.stackTraces = false) (mi : MI) (ml : MJ) (V : Nat → Int32) (hV : WFV V) (hD : DR 1 mi V) (n : Nat) (hn : (V 5).toInt = (n : Int)) (h10 : n ≤ 10) (hz : ml 56 0 = 0 ∧ ml 57 0 = 0) (sp : Nat) (hsp : (V 4).toInt = (sp : Int)) (hs1 : 1 ≤ sp) (hs10 : sp ≤ 10) (a : Int32) (A : Int) (hA : a.toInt = A) : CtH l yL_leastSpan (.codeWith yL_leastSpan cL_leastSpan 3 (some .int) [((0 : Nat), (5 : Nat), (6 : Nat), (15 : Nat))]) 11 1 6 [.ref 0, .int a] (wl mi ml) (HR (fun r mi9 ml9 => Fr [53, 54, 55] mi mi9 ∧ FLc ml ml9 ∧ (ml9 56 0 = 0 ∧ ml9 57 0 = 0) ∧ (1 ≤ A ∧ A ≤ 6) ∧ ∃ m : Nat, A = (m : Int) ∧ BrE V m r mi9 ml9) (fun En mi9 ml9 => mi = mi9 ∧ ml = ml9 ∧ En = xIA ∧ ¬ (1 ≤ A ∧ A ≤ 6)) cThr) noX := by
  refine CtH_of pn_L hfl (Nat.le_of_ble_eq_true rfl) ?_
  show EZ (fun s _ => Nc2 s) l RL cL_leastSpan 3 (some .int) false (tableOf [((0 : Nat), (5 : Nat), (6 : Nat), (15 : Nat))]) (rmE 11 1 6) (wl mi ml) (TgM (wl mi ml) 1 6 (HR (fun r mi9 ml9 => Fr [53, 54, 55] mi mi9 ∧ FLc ml ml9 ∧ (ml9 56 0 = 0 ∧ ml9 57 0 = 0) ∧ (1 ≤ A ∧ A ≤ 6) ∧ ∃ m : Nat, A = (m : Int) ∧ BrE V m r mi9 ml9) (fun En mi9 ml9 => mi = mi9 ∧ ml = ml9 ∧ En = xIA ∧ ¬ (1 ≤ A ∧ A ≤ 6)) cThr) noX) 0 0 0 [(0, .ref 0), (1, .int a)] [] (wl mi ml)
  refine EZ_aload_n 0 dL_leastSpan_0 rfl rfl ?_
  refine EZ_iload_n 1 dL_leastSpan_1 rfl rfl ?_
  refine EZ_callVI (c_X5_leastSpan l hfl mi ml V hV hD n hn h10 hz sp hsp hs1 hs10 a A hA) cw_L_57 (As := [.int a]) (st := []) wi_yX5_leastSpan we_yX5_leastSpan (ci := 5) (q := (RX5, TX5, 7)) rfl rfl (wl_atO tw_0) rfl ⟨Nat.le_of_ble_eq_true rfl, Nat.le_of_ble_eq_true rfl, Nat.le_of_ble_eq_true rfl, Nat.le_of_ble_eq_true rfl⟩ (Nat.le_of_ble_eq_true rfl) dL_leastSpan_2 rfl (Nat.le_of_ble_eq_true rfl) (Nat.le_of_ble_eq_true rfl) (xXR (fun En mi ml h => ?_)) rfl (zkI (fun r9 mi9 ml9 h9 => ?_))
  · have hEn : En = xIA := by
      first | exact h.2.2.1 | exact h.2.1
    subst hEn
    rw [cThr_IA]
    exact ⟨[], ⟨0, 5, 6, 15⟩, [], rfl, (fun z hz => by cases hz), rfl, (by decide : (15 : Nat) ≠ 0), lk_15, ck_xIA, 2, 1, (-901), by decide, Or.inr ⟨2, rfl, dL_leastSpan_6, rfl⟩, dL_leastSpan_7, by decide, dL_leastSpan_10⟩
  exact EZ_iret rfl (Nat.le_of_ble_eq_true rfl) (Nat.le_of_ble_eq_true rfl) dL_leastSpan_5 (okHR h9)
theorem cwH_150 : CwH RL 150 yL_leastSpan cL_leastSpan 3 (some .int) [((0 : Nat), (5 : Nat), (6 : Nat), (15 : Nat))] 2 := ⟨⟨List.mem_of_getElem? (i := 748) (by decide +kernel), rfl⟩, ⟨List.mem_of_getElem? (i := 750) (by decide +kernel), rfl⟩, wz_L, ⟨by decide, by decide⟩, by decide +kernel, ⟨List.mem_of_getElem? (i := 749) (by decide +kernel), rfl⟩⟩
set_option maxRecDepth 100000 in
theorem h_L_bestRuler (l : Launch) (hfl : l.stackTraces = false) (mi : MI) (ml : MJ) (V : Nat → Int32) (hV : WFV V) (hD : DR 1 mi V) (n : Nat) (hn : (V 5).toInt = (n : Int)) (h10 : n ≤ 10) (hz : ml 56 0 = 0 ∧ ml 57 0 = 0) (sp : Nat) (hsp : (V 4).toInt = (sp : Int)) (hs1 : 1 ≤ sp) (hs10 : sp ≤ 10) (a : Int32) (A : Int) (hA : a.toInt = A) : CtH l yL_bestRuler (.codeWith yL_bestRuler cL_bestRuler 3 (some .long) [((0 : Nat), (5 : Nat), (6 : Nat), (15 : Nat))]) 11 1 6 [.ref 0, .int a] (wl mi ml) (HRJ (fun r mi9 ml9 => Fr [53, 54, 55] mi mi9 ∧ FLc ml ml9 ∧ (ml9 56 0 = 0 ∧ ml9 57 0 = 0) ∧ (1 ≤ A ∧ A ≤ 6) ∧ ∃ m : Nat, A = (m : Int) ∧ ((r = 0 ∧ ∀ t, t ≤ 40 → skFA V m t = none) ∨ (∃ (s : Nat) (R : List Nat), s ≤ 40 ∧ skFA V m s = some R ∧ (∀ t, t < s → skFA V m t = none) ∧ r = rbF R))) (fun En mi9 ml9 => mi = mi9 ∧ ml = ml9 ∧ En = xIA ∧ ¬ (1 ≤ A ∧ A ≤ 6)) cThJ) noX := by
  refine CtH_of pn_L hfl (Nat.le_of_ble_eq_true rfl) ?_
  show EZ (fun s _ => Nc2 s) l RL cL_bestRuler 3 (some .long) false (tableOf [((0 : Nat), (5 : Nat), (6 : Nat), (15 : Nat))]) (rmE 11 1 6) (wl mi ml) (TgM (wl mi ml) 1 6 (HRJ (fun r mi9 ml9 => Fr [53, 54, 55] mi mi9 ∧ FLc ml ml9 ∧ (ml9 56 0 = 0 ∧ ml9 57 0 = 0) ∧ (1 ≤ A ∧ A ≤ 6) ∧ ∃ m : Nat, A = (m : Int) ∧ ((r = 0 ∧ ∀ t, t ≤ 40 → skFA V m t = none) ∨ (∃ (s : Nat) (R : List Nat), s ≤ 40 ∧ skFA V m s = some R ∧ (∀ t, t < s → skFA V m t = none) ∧ r = rbF R))) (fun En mi9 ml9 => mi = mi9 ∧ ml = ml9 ∧ En = xIA ∧ ¬ (1 ≤ A ∧ A ≤ 6)) cThJ) noX) 0 0 0 [(0, .ref 0), (1, .int a)] [] (wl mi ml)
  refine EZ_aload_n 0 dL_bestRuler_0 rfl rfl ?_
  refine EZ_iload_n 1 dL_bestRuler_1 rfl rfl ?_
  refine EZ_callVJ (c_X5_bestRuler l hfl mi ml V hV hD n hn h10 hz sp hsp hs1 hs10 a A hA) cw_L_60 (As := [.int a]) (st := []) wi_yX5_bestRuler we_yX5_bestRuler (ci := 5) (q := (RX5, TX5, 7)) rfl rfl (wl_atO tw_0) rfl ⟨Nat.le_of_ble_eq_true rfl, Nat.le_of_ble_eq_true rfl, Nat.le_of_ble_eq_true rfl, Nat.le_of_ble_eq_true rfl⟩ (Nat.le_of_ble_eq_true rfl) dL_bestRuler_2 rfl (Nat.le_of_ble_eq_true rfl) (Nat.le_of_ble_eq_true rfl) (xXRJ (fun En mi ml h => ?_)) rfl (zkJ (fun r9 mi9 ml9 h9 => ?_))
  · have hEn : En = xIA := by
      first | exact h.2.2.1 | exact h.2.1
    subst hEn
    show HKVJ RL _ _ _ _ _ (-901)
    exact ⟨[], ⟨0, 5, 6, 15⟩, [], rfl, (fun z hz => by cases hz), rfl, (by decide : (15 : Nat) ≠ 0), lk_15, ck_xIA, 2, 1, 52, by decide, Or.inr ⟨2, rfl, dL_bestRuler_6, rfl⟩, dL_bestRuler_7, wk_L_52, dL_bestRuler_10⟩
  exact EZ_lret rfl (Nat.le_of_ble_eq_true rfl) (Nat.le_of_ble_eq_true rfl) dL_bestRuler_5 (okHRJ h9)
theorem cwH_152 : CwH RL 152 yL_bestRuler cL_bestRuler 3 (some .long) [((0 : Nat), (5 : Nat), (6 : Nat), (15 : Nat))] 2 := ⟨⟨List.mem_of_getElem? (i := 770) (by decide +kernel), rfl⟩, ⟨List.mem_of_getElem? (i := 772) (by decide +kernel), rfl⟩, wz_L, ⟨by decide, by decide⟩, by decide +kernel, ⟨List.mem_of_getElem? (i := 771) (by decide +kernel), rfl⟩⟩
set_option maxRecDepth 100000 in
theorem h_L_rulers (l : Launch) (hfl : l.stackTraces = false) (mi : MI) (ml : MJ) (V : Nat → Int32) (hV : WFV V) (hD : DR 1 mi V) (n : Nat) (hn : (V 5).toInt = (n : Int)) (h10 : n ≤ 10) (hz : ml 56 0 = 0 ∧ ml 57 0 = 0) (sp : Nat) (hsp : (V 4).toInt = (sp : Int)) (hs1 : 1 ≤ sp) (hs10 : sp ≤ 10) (a : Int32) (A : Int) (hA : a.toInt = A) (b : Int32) (B : Int) (hB : b.toInt = B) : CtH l yL_rulers (.codeWith yL_rulers cL_rulers 4 (some .int) [((0 : Nat), (6 : Nat), (7 : Nat), (15 : Nat))]) 10 2 12 [.ref 0, .int a, .int b] (wl mi ml) (HR (fun r mi9 ml9 => Fr [53, 54, 55] mi mi9 ∧ FLc ml ml9 ∧ (ml9 56 0 = 0 ∧ ml9 57 0 = 0) ∧ ((1 ≤ A ∧ A ≤ 5) ∧ (0 ≤ B ∧ B ≤ 40)) ∧ ∃ m S : Nat, A = (m : Int) ∧ B = (S : Int) ∧ CrE V m S 10000 r.toInt mi9 ml9) (fun En mi9 ml9 => mi = mi9 ∧ ml = ml9 ∧ En = xIA ∧ ¬ ((1 ≤ A ∧ A ≤ 5) ∧ (0 ≤ B ∧ B ≤ 40))) cThr) noX := by
  refine CtH_of pn_L hfl (Nat.le_of_ble_eq_true rfl) ?_
  show EZ (fun s _ => Nc2 s) l RL cL_rulers 4 (some .int) false (tableOf [((0 : Nat), (6 : Nat), (7 : Nat), (15 : Nat))]) (rmE 10 2 12) (wl mi ml) (TgM (wl mi ml) 2 12 (HR (fun r mi9 ml9 => Fr [53, 54, 55] mi mi9 ∧ FLc ml ml9 ∧ (ml9 56 0 = 0 ∧ ml9 57 0 = 0) ∧ ((1 ≤ A ∧ A ≤ 5) ∧ (0 ≤ B ∧ B ≤ 40)) ∧ ∃ m S : Nat, A = (m : Int) ∧ B = (S : Int) ∧ CrE V m S 10000 r.toInt mi9 ml9) (fun En mi9 ml9 => mi = mi9 ∧ ml = ml9 ∧ En = xIA ∧ ¬ ((1 ≤ A ∧ A ≤ 5) ∧ (0 ≤ B ∧ B ≤ 40))) cThr) noX) 0 0 0 [(0, .ref 0), (1, .int a), (2, .int b)] [] (wl mi ml)
  refine EZ_aload_n 0 dL_rulers_0 rfl rfl ?_
  refine EZ_iload_n 1 dL_rulers_1 rfl rfl ?_
  refine EZ_iload_n 2 dL_rulers_2 rfl rfl ?_
  refine EZ_callVI (c_X5_rulers l hfl mi ml V hV hD n hn h10 hz sp hsp hs1 hs10 a A hA b B hB) cw_L_63 (As := [.int a, .int b]) (st := []) wi_yX5_rulers we_yX5_rulers (ci := 5) (q := (RX5, TX5, 7)) rfl rfl (wl_atO tw_0) rfl ⟨Nat.le_of_ble_eq_true rfl, Nat.le_of_ble_eq_true rfl, Nat.le_of_ble_eq_true rfl, Nat.le_of_ble_eq_true rfl⟩ (Nat.le_of_ble_eq_true rfl) dL_rulers_3 rfl (Nat.le_of_ble_eq_true rfl) (Nat.le_of_ble_eq_true rfl) (xXR (fun En mi ml h => ?_)) rfl (zkI (fun r9 mi9 ml9 h9 => ?_))
  · have hEn : En = xIA := by
      first | exact h.2.2.1 | exact h.2.1
    subst hEn
    rw [cThr_IA]
    exact ⟨[], ⟨0, 6, 7, 15⟩, [], rfl, (fun z hz => by cases hz), rfl, (by decide : (15 : Nat) ≠ 0), lk_15, ck_xIA, 3, 1, (-901), by decide, Or.inr ⟨3, rfl, dL_rulers_7, rfl⟩, dL_rulers_8, by decide, dL_rulers_11⟩
  exact EZ_iret rfl (Nat.le_of_ble_eq_true rfl) (Nat.le_of_ble_eq_true rfl) dL_rulers_6 (okHR h9)
theorem cwH_154 : CwH RL 154 yL_rulers cL_rulers 4 (some .int) [((0 : Nat), (6 : Nat), (7 : Nat), (15 : Nat))] 3 := ⟨⟨List.mem_of_getElem? (i := 781) (by decide +kernel), rfl⟩, ⟨List.mem_of_getElem? (i := 783) (by decide +kernel), rfl⟩, wz_L, ⟨by decide, by decide⟩, by decide +kernel, ⟨List.mem_of_getElem? (i := 782) (by decide +kernel), rfl⟩⟩
set_option maxRecDepth 100000 in
theorem h_L_heard (l : Launch) (hfl : l.stackTraces = false) (mi : MI) (ml : MJ) (V : Nat → Int32) (hV : WFV V) (hD : DR 1 mi V) (n : Nat) (hn : (V 5).toInt = (n : Int)) (h10 : n ≤ 10) (m : Nat) (hm : (V 26).toInt = (m : Int)) (h5 : m ≤ 5) (a c : Int32) (A C : Int) (hA : a.toInt = A) (hC : c.toInt = C) : CtH l yL_heard (.codeWith yL_heard cL_heard 4 (some .int) [((0 : Nat), (6 : Nat), (7 : Nat), (15 : Nat))]) 7 2 12 [.ref 0, .int a, .int c] (wl mi ml) (HR (fun r mi9 ml9 => Fr [51, 52] mi mi9 ∧ FL60 ml ml9 ∧ (0 ≤ A ∧ A ≤ ((2 ^ n - 1 : Nat) : Int)) ∧ (0 ≤ C ∧ C < 64) ∧ ∃ act ch : Nat, A = (act : Int) ∧ C = (ch : Int) ∧ r.toInt = (hbS V n act ch m : Int)) (fun En mi9 ml9 => mi = mi9 ∧ ml = ml9 ∧ En = xIA ∧ ¬ ((0 ≤ A ∧ A ≤ ((2 ^ n - 1 : Nat) : Int)) ∧ (0 ≤ C ∧ C < 64))) cThr) noX := by
  refine CtH_of pn_L hfl (Nat.le_of_ble_eq_true rfl) ?_
  show EZ (fun s _ => Nc2 s) l RL cL_heard 4 (some .int) false (tableOf [((0 : Nat), (6 : Nat), (7 : Nat), (15 : Nat))]) (rmE 7 2 12) (wl mi ml) (TgM (wl mi ml) 2 12 (HR (fun r mi9 ml9 => Fr [51, 52] mi mi9 ∧ FL60 ml ml9 ∧ (0 ≤ A ∧ A ≤ ((2 ^ n - 1 : Nat) : Int)) ∧ (0 ≤ C ∧ C < 64) ∧ ∃ act ch : Nat, A = (act : Int) ∧ C = (ch : Int) ∧ r.toInt = (hbS V n act ch m : Int)) (fun En mi9 ml9 => mi = mi9 ∧ ml = ml9 ∧ En = xIA ∧ ¬ ((0 ≤ A ∧ A ≤ ((2 ^ n - 1 : Nat) : Int)) ∧ (0 ≤ C ∧ C < 64))) cThr) noX) 0 0 0 [(0, .ref 0), (1, .int a), (2, .int c)] [] (wl mi ml)
  refine EZ_aload_n 0 dL_heard_0 rfl rfl ?_
  refine EZ_iload_n 1 dL_heard_1 rfl rfl ?_
  refine EZ_iload_n 2 dL_heard_2 rfl rfl ?_
  refine EZ_callVI (c_X5_heard l hfl mi ml V hV hD n hn h10 m hm h5 a c A C hA hC) cw_L_88 (As := [.int a, .int c]) (st := []) wi_yX5_heard we_yX5_heard (ci := 5) (q := (RX5, TX5, 7)) rfl rfl (wl_atO tw_0) rfl ⟨Nat.le_of_ble_eq_true rfl, Nat.le_of_ble_eq_true rfl, Nat.le_of_ble_eq_true rfl, Nat.le_of_ble_eq_true rfl⟩ (Nat.le_of_ble_eq_true rfl) dL_heard_3 rfl (Nat.le_of_ble_eq_true rfl) (Nat.le_of_ble_eq_true rfl) (xXR (fun En mi ml h => ?_)) rfl (zkI (fun r9 mi9 ml9 h9 => ?_))
  · have hEn : En = xIA := by
      first | exact h.2.2.1 | exact h.2.1
    subst hEn
    rw [cThr_IA]
    exact ⟨[], ⟨0, 6, 7, 15⟩, [], rfl, (fun z hz => by cases hz), rfl, (by decide : (15 : Nat) ≠ 0), lk_15, ck_xIA, 3, 1, (-901), by decide, Or.inr ⟨3, rfl, dL_heard_7, rfl⟩, dL_heard_8, by decide, dL_heard_11⟩
  exact EZ_iret rfl (Nat.le_of_ble_eq_true rfl) (Nat.le_of_ble_eq_true rfl) dL_heard_6 (okHR h9)
theorem cwH_167 : CwH RL 167 yL_heard cL_heard 4 (some .int) [((0 : Nat), (6 : Nat), (7 : Nat), (15 : Nat))] 3 := ⟨⟨List.mem_of_getElem? (i := 798) (by decide +kernel), rfl⟩, ⟨List.mem_of_getElem? (i := 800) (by decide +kernel), rfl⟩, wz_L, ⟨by decide, by decide⟩, by decide +kernel, ⟨List.mem_of_getElem? (i := 799) (by decide +kernel), rfl⟩⟩
set_option maxRecDepth 100000 in
theorem h_L_bestTest (l : Launch) (hfl : l.stackTraces = false) (mi : MI) (ml : MJ) (V : Nat → Int32) (hV : WFV V) (hD : DR 1 mi V) (n : Nat) (hn : (V 5).toInt = (n : Int)) (h10 : n ≤ 10) (m : Nat) (hm : (V 26).toInt = (m : Int)) (h5 : m ≤ 5) (t : Nat) (ht : (V 32).toInt = (t : Int)) (h16 : t ≤ 16) (a : Int32) (A : Int) (hA : a.toInt = A) : CtH l yL_bestTest (.codeWith yL_bestTest cL_bestTest 3 (some .int) [((0 : Nat), (5 : Nat), (6 : Nat), (15 : Nat))]) 7 1 6 [.ref 0, .int a] (wl mi ml) (HR (fun r mi9 ml9 => Fr [51, 52] mi mi9 ∧ FL60 ml ml9 ∧ (0 ≤ A ∧ A ≤ ((2 ^ n - 1 : Nat) : Int)) ∧ ∃ act : Nat, A = (act : Int) ∧ r.toInt = ((btS V n m act (fitL V n m t (2 ^ m)) 64).1 : Int)) (fun En mi9 ml9 => mi = mi9 ∧ ml = ml9 ∧ En = xIA ∧ ¬ (0 ≤ A ∧ A ≤ ((2 ^ n - 1 : Nat) : Int))) cThr) noX := by
  refine CtH_of pn_L hfl (Nat.le_of_ble_eq_true rfl) ?_
  show EZ (fun s _ => Nc2 s) l RL cL_bestTest 3 (some .int) false (tableOf [((0 : Nat), (5 : Nat), (6 : Nat), (15 : Nat))]) (rmE 7 1 6) (wl mi ml) (TgM (wl mi ml) 1 6 (HR (fun r mi9 ml9 => Fr [51, 52] mi mi9 ∧ FL60 ml ml9 ∧ (0 ≤ A ∧ A ≤ ((2 ^ n - 1 : Nat) : Int)) ∧ ∃ act : Nat, A = (act : Int) ∧ r.toInt = ((btS V n m act (fitL V n m t (2 ^ m)) 64).1 : Int)) (fun En mi9 ml9 => mi = mi9 ∧ ml = ml9 ∧ En = xIA ∧ ¬ (0 ≤ A ∧ A ≤ ((2 ^ n - 1 : Nat) : Int))) cThr) noX) 0 0 0 [(0, .ref 0), (1, .int a)] [] (wl mi ml)
  refine EZ_aload_n 0 dL_bestTest_0 rfl rfl ?_
  refine EZ_iload_n 1 dL_bestTest_1 rfl rfl ?_
  refine EZ_callVI (c_X5_bestTest l hfl mi ml V hV hD n hn h10 m hm h5 t ht h16 a A hA) cw_L_91 (As := [.int a]) (st := []) wi_yX5_bestTest we_yX5_bestTest (ci := 5) (q := (RX5, TX5, 7)) rfl rfl (wl_atO tw_0) rfl ⟨Nat.le_of_ble_eq_true rfl, Nat.le_of_ble_eq_true rfl, Nat.le_of_ble_eq_true rfl, Nat.le_of_ble_eq_true rfl⟩ (Nat.le_of_ble_eq_true rfl) dL_bestTest_2 rfl (Nat.le_of_ble_eq_true rfl) (Nat.le_of_ble_eq_true rfl) (xXR (fun En mi ml h => ?_)) rfl (zkI (fun r9 mi9 ml9 h9 => ?_))
  · have hEn : En = xIA := by
      first | exact h.2.2.1 | exact h.2.1
    subst hEn
    rw [cThr_IA]
    exact ⟨[], ⟨0, 5, 6, 15⟩, [], rfl, (fun z hz => by cases hz), rfl, (by decide : (15 : Nat) ≠ 0), lk_15, ck_xIA, 2, 1, (-901), by decide, Or.inr ⟨2, rfl, dL_bestTest_6, rfl⟩, dL_bestTest_7, by decide, dL_bestTest_10⟩
  exact EZ_iret rfl (Nat.le_of_ble_eq_true rfl) (Nat.le_of_ble_eq_true rfl) dL_bestTest_5 (okHR h9)
theorem cwH_182 : CwH RL 182 yL_bestTest cL_bestTest 3 (some .int) [((0 : Nat), (5 : Nat), (6 : Nat), (15 : Nat))] 2 := ⟨⟨List.mem_of_getElem? (i := 817) (by decide +kernel), rfl⟩, ⟨List.mem_of_getElem? (i := 819) (by decide +kernel), rfl⟩, wz_L, ⟨by decide, by decide⟩, by decide +kernel, ⟨List.mem_of_getElem? (i := 818) (by decide +kernel), rfl⟩⟩
set_option maxRecDepth 100000 in
theorem h_L_mixer (l : Launch) (hfl : l.stackTraces = false) (mi : MI) (ml : MJ) (V : Nat → Int32) (hD : DR 1 mi V) (m : Nat) (hm : (V 26).toInt = (m : Int)) (h5 : m ≤ 5) (a : Int32) (A : Int) (hA : a.toInt = A) : CtH l yL_mixer (.codeWith yL_mixer cL_mixer 3 (some .int) [((0 : Nat), (5 : Nat), (6 : Nat), (23 : Nat))]) 3 1 6 [.ref 0, .int a] (wl mi ml) (HR (fun r mi9 ml9 => mi = mi9 ∧ ml = ml9 ∧ ∃ b : Nat, b < m ∧ A = (b : Int) ∧ r = V (27 + b)) (fun En mi9 ml9 => mi = mi9 ∧ ml = ml9 ∧ En = xIO ∧ ¬ (0 ≤ A ∧ A < (m : Int))) cThr) noX := by
  refine CtH_of pn_L hfl (Nat.le_of_ble_eq_true rfl) ?_
  show EZ (fun s _ => Nc2 s) l RL cL_mixer 3 (some .int) false (tableOf [((0 : Nat), (5 : Nat), (6 : Nat), (23 : Nat))]) (rmE 3 1 6) (wl mi ml) (TgM (wl mi ml) 1 6 (HR (fun r mi9 ml9 => mi = mi9 ∧ ml = ml9 ∧ ∃ b : Nat, b < m ∧ A = (b : Int) ∧ r = V (27 + b)) (fun En mi9 ml9 => mi = mi9 ∧ ml = ml9 ∧ En = xIO ∧ ¬ (0 ≤ A ∧ A < (m : Int))) cThr) noX) 0 0 0 [(0, .ref 0), (1, .int a)] [] (wl mi ml)
  refine EZ_aload_n 0 dL_mixer_0 rfl rfl ?_
  refine EZ_iload_n 1 dL_mixer_1 rfl rfl ?_
  refine EZ_callVI (c_X5_mixer l hfl mi ml V hD m hm h5 a A hA) cw_L_79 (As := [.int a]) (st := []) wi_yX5_mixer we_yX5_mixer (ci := 5) (q := (RX5, TX5, 7)) rfl rfl (wl_atO tw_0) rfl ⟨Nat.le_of_ble_eq_true rfl, Nat.le_of_ble_eq_true rfl, Nat.le_of_ble_eq_true rfl, Nat.le_of_ble_eq_true rfl⟩ (Nat.le_of_ble_eq_true rfl) dL_mixer_2 rfl (Nat.le_of_ble_eq_true rfl) (Nat.le_of_ble_eq_true rfl) (xXR (fun En mi ml h => ?_)) rfl (zkI (fun r9 mi9 ml9 h9 => ?_))
  · have hEn : En = xIO := by
      first | exact h.2.2.1 | exact h.2.1
    subst hEn
    rw [cThr_IO]
    exact ⟨[], ⟨0, 5, 6, 23⟩, [], rfl, (fun z hz => by cases hz), rfl, (by decide : (23 : Nat) ≠ 0), lk_23, ck_xIO, 2, 1, (-903), by decide, Or.inr ⟨2, rfl, dL_mixer_6, rfl⟩, dL_mixer_7, by decide, dL_mixer_10⟩
  exact EZ_iret rfl (Nat.le_of_ble_eq_true rfl) (Nat.le_of_ble_eq_true rfl) dL_mixer_5 (okHR h9)
theorem cwH_199 : CwH RL 199 yL_mixer cL_mixer 3 (some .int) [((0 : Nat), (5 : Nat), (6 : Nat), (23 : Nat))] 2 := ⟨⟨List.mem_of_getElem? (i := 850) (by decide +kernel), rfl⟩, ⟨List.mem_of_getElem? (i := 852) (by decide +kernel), rfl⟩, wz_L, ⟨by decide, by decide⟩, by decide +kernel, ⟨List.mem_of_getElem? (i := 851) (by decide +kernel), rfl⟩⟩
set_option maxRecDepth 100000 in
theorem h_L_test (l : Launch) (hfl : l.stackTraces = false) (mi : MI) (ml : MJ) (V : Nat → Int32) (hD : DR 1 mi V) (t : Nat) (ht : (V 32).toInt = (t : Int)) (h16 : t ≤ 16) (a : Int32) (A : Int) (hA : a.toInt = A) (b : Int32) (B : Int) (hB : b.toInt = B) : CtH l yL_test (.codeWith yL_test cL_test 4 (some .int) [((0 : Nat), (6 : Nat), (7 : Nat), (23 : Nat)), ((0 : Nat), (6 : Nat), (12 : Nat), (15 : Nat))]) 3 1 6 [.ref 0, .int a, .int b] (wl mi ml) (HR (fun r mi9 ml9 => mi = mi9 ∧ ml = ml9 ∧ ∃ (j q : Nat), j < t ∧ q < 3 ∧ A = (j : Int) ∧ B = (q : Int) ∧ r = V ((33 : Nat) + 3 * j + q)) (fun En mi9 ml9 => mi = mi9 ∧ ml = ml9 ∧ ((En = xIO ∧ ¬ (0 ≤ A ∧ A < (t : Int))) ∨ (En = xIA ∧ (0 ≤ A ∧ A < (t : Int)) ∧ ¬ (0 ≤ B ∧ B ≤ 2)))) cThr) noX := by
  refine CtH_of pn_L hfl (Nat.le_of_ble_eq_true rfl) ?_
  show EZ (fun s _ => Nc2 s) l RL cL_test 4 (some .int) false (tableOf [((0 : Nat), (6 : Nat), (7 : Nat), (23 : Nat)), ((0 : Nat), (6 : Nat), (12 : Nat), (15 : Nat))]) (rmE 3 1 6) (wl mi ml) (TgM (wl mi ml) 1 6 (HR (fun r mi9 ml9 => mi = mi9 ∧ ml = ml9 ∧ ∃ (j q : Nat), j < t ∧ q < 3 ∧ A = (j : Int) ∧ B = (q : Int) ∧ r = V ((33 : Nat) + 3 * j + q)) (fun En mi9 ml9 => mi = mi9 ∧ ml = ml9 ∧ ((En = xIO ∧ ¬ (0 ≤ A ∧ A < (t : Int))) ∨ (En = xIA ∧ (0 ≤ A ∧ A < (t : Int)) ∧ ¬ (0 ≤ B ∧ B ≤ 2)))) cThr) noX) 0 0 0 [(0, .ref 0), (1, .int a), (2, .int b)] [] (wl mi ml)
  refine EZ_aload_n 0 dL_test_0 rfl rfl ?_
  refine EZ_iload_n 1 dL_test_1 rfl rfl ?_
  refine EZ_iload_n 2 dL_test_2 rfl rfl ?_
  refine EZ_callVI (c_X5_test l hfl mi ml V hD t ht h16 a A hA b B hB) cw_L_85 (As := [.int a, .int b]) (st := []) wi_yX5_test we_yX5_test (ci := 5) (q := (RX5, TX5, 7)) rfl rfl (wl_atO tw_0) rfl ⟨Nat.le_of_ble_eq_true rfl, Nat.le_of_ble_eq_true rfl, Nat.le_of_ble_eq_true rfl, Nat.le_of_ble_eq_true rfl⟩ (Nat.le_of_ble_eq_true rfl) dL_test_3 rfl (Nat.le_of_ble_eq_true rfl) (Nat.le_of_ble_eq_true rfl) (xXR (fun En mi ml h => ?_)) rfl (zkI (fun r9 mi9 ml9 h9 => ?_))
  · have hEn : En = xIO ∨ En = xIA := by
      have h9 := h.2.2
      first | exact h9.elim (fun q => Or.inl q.1) (fun q => Or.inr q.1) | exact h9.elim (fun q => Or.inr q.1) (fun q => Or.inl q.1)
    rcases hEn with e | e
    · subst e
      rw [cThr_IO]
      exact ⟨[], ⟨0, 6, 7, 23⟩, [⟨0, 6, 12, 15⟩], rfl, (fun z hz => by cases hz), rfl, (by decide : (23 : Nat) ≠ 0), lk_23, ck_xIO, 3, 1, (-903), by decide, Or.inr ⟨3, rfl, dL_test_7, rfl⟩, dL_test_8, by decide, dL_test_11⟩
    · subst e
      rw [cThr_IA]
      exact ⟨[⟨0, 6, 7, 23⟩], ⟨0, 6, 12, 15⟩, [], rfl, (fun z hz => by rw [List.mem_singleton.mp hz]; exact Or.inr ⟨(by decide : (23 : Nat) ≠ 0), _, lk_23, fun s hs => hs.2⟩), rfl, (by decide : (15 : Nat) ≠ 0), lk_15, ck_xIA, 3, 1, (-901), by decide, Or.inr ⟨3, rfl, dL_test_12, rfl⟩, dL_test_13, by decide, dL_test_16⟩
  exact EZ_iret rfl (Nat.le_of_ble_eq_true rfl) (Nat.le_of_ble_eq_true rfl) dL_test_6 (okHR h9)
theorem cwH_201 : CwH RL 201 yL_test cL_test 4 (some .int) [((0 : Nat), (6 : Nat), (7 : Nat), (23 : Nat)), ((0 : Nat), (6 : Nat), (12 : Nat), (15 : Nat))] 3 := ⟨⟨List.mem_of_getElem? (i := 857) (by decide +kernel), rfl⟩, ⟨List.mem_of_getElem? (i := 859) (by decide +kernel), rfl⟩, wz_L, ⟨by decide, by decide⟩, by decide +kernel, ⟨List.mem_of_getElem? (i := 858) (by decide +kernel), rfl⟩⟩
set_option maxRecDepth 100000 in
theorem h_L_append (l : Launch) (hfl : l.stackTraces = false) (mi : MI) (ml : MJ) (N : Nat) (hN : (mi 58 1).toInt = (N : Int)) (hN2 : N ≤ 120) (a : Int32) (A : Int) (hA : a.toInt = A) : CtH l yL_append (.codeWith yL_append cL_append 3 (some .int) [((0 : Nat), (5 : Nat), (6 : Nat), (15 : Nat)), ((0 : Nat), (5 : Nat), (11 : Nat), (17 : Nat))]) 3 1 6 [.ref 0, .int a] (wl mi ml) (HR (fun r mi9 ml9 => ml = ml9 ∧ (0 ≤ A ∧ A ≤ 127) ∧ N < 120 ∧ r.toInt = (N : Int) + 1 ∧ u2 (u2 mi 59 N a) 58 1 r = mi9) (fun En mi9 ml9 => mi = mi9 ∧ ml = ml9 ∧ ((En = xIA ∧ ¬ (0 ≤ A ∧ A ≤ 127)) ∨ (En = xIS ∧ (0 ≤ A ∧ A ≤ 127) ∧ ¬ N < 120))) cThr) noX := by
  refine CtH_of pn_L hfl (Nat.le_of_ble_eq_true rfl) ?_
  show EZ (fun s _ => Nc2 s) l RL cL_append 3 (some .int) false (tableOf [((0 : Nat), (5 : Nat), (6 : Nat), (15 : Nat)), ((0 : Nat), (5 : Nat), (11 : Nat), (17 : Nat))]) (rmE 3 1 6) (wl mi ml) (TgM (wl mi ml) 1 6 (HR (fun r mi9 ml9 => ml = ml9 ∧ (0 ≤ A ∧ A ≤ 127) ∧ N < 120 ∧ r.toInt = (N : Int) + 1 ∧ u2 (u2 mi 59 N a) 58 1 r = mi9) (fun En mi9 ml9 => mi = mi9 ∧ ml = ml9 ∧ ((En = xIA ∧ ¬ (0 ≤ A ∧ A ≤ 127)) ∨ (En = xIS ∧ (0 ≤ A ∧ A ≤ 127) ∧ ¬ N < 120))) cThr) noX) 0 0 0 [(0, .ref 0), (1, .int a)] [] (wl mi ml)
  refine EZ_aload_n 0 dL_append_0 rfl rfl ?_
  refine EZ_iload_n 1 dL_append_1 rfl rfl ?_
  refine EZ_callVI (c_X5_append l hfl mi ml N hN hN2 a A hA) cw_L_94 (As := [.int a]) (st := []) wi_yX5_append we_yX5_append (ci := 5) (q := (RX5, TX5, 7)) rfl rfl (wl_atO tw_0) rfl ⟨Nat.le_of_ble_eq_true rfl, Nat.le_of_ble_eq_true rfl, Nat.le_of_ble_eq_true rfl, Nat.le_of_ble_eq_true rfl⟩ (Nat.le_of_ble_eq_true rfl) dL_append_2 rfl (Nat.le_of_ble_eq_true rfl) (Nat.le_of_ble_eq_true rfl) (xXR (fun En mi ml h => ?_)) rfl (zkI (fun r9 mi9 ml9 h9 => ?_))
  · have hEn : En = xIA ∨ En = xIS := by
      have h9 := h.2.2
      first | exact h9.elim (fun q => Or.inl q.1) (fun q => Or.inr q.1) | exact h9.elim (fun q => Or.inr q.1) (fun q => Or.inl q.1)
    rcases hEn with e | e
    · subst e
      rw [cThr_IA]
      exact ⟨[], ⟨0, 5, 6, 15⟩, [⟨0, 5, 11, 17⟩], rfl, (fun z hz => by cases hz), rfl, (by decide : (15 : Nat) ≠ 0), lk_15, ck_xIA, 2, 1, (-901), by decide, Or.inr ⟨2, rfl, dL_append_6, rfl⟩, dL_append_7, by decide, dL_append_10⟩
    · subst e
      rw [cThr_IS]
      exact ⟨[⟨0, 5, 6, 15⟩], ⟨0, 5, 11, 17⟩, [], rfl, (fun z hz => by rw [List.mem_singleton.mp hz]; exact Or.inr ⟨(by decide : (15 : Nat) ≠ 0), _, lk_15, fun s hs => hs.1⟩), rfl, (by decide : (17 : Nat) ≠ 0), lk_17, ck_xIS, 2, 1, (-902), by decide, Or.inr ⟨2, rfl, dL_append_11, rfl⟩, dL_append_12, by decide, dL_append_15⟩
  exact EZ_iret rfl (Nat.le_of_ble_eq_true rfl) (Nat.le_of_ble_eq_true rfl) dL_append_5 (okHR h9)
theorem cwH_203 : CwH RL 203 yL_append cL_append 3 (some .int) [((0 : Nat), (5 : Nat), (6 : Nat), (15 : Nat)), ((0 : Nat), (5 : Nat), (11 : Nat), (17 : Nat))] 2 := ⟨⟨List.mem_of_getElem? (i := 865) (by decide +kernel), rfl⟩, ⟨List.mem_of_getElem? (i := 867) (by decide +kernel), rfl⟩, wz_L, ⟨by decide, by decide⟩, by decide +kernel, ⟨List.mem_of_getElem? (i := 866) (by decide +kernel), rfl⟩⟩
end LW1
