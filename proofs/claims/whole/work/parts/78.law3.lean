section LW3
set_option maxRecDepth 100000 in
theorem lw_c0 (l : Launch) (hfl : l.stackTraces = false) {hh : List ExceptionTableEntry} {b L : Nat} {xs : Nat → Int32} {j : Nat} {i : Int32} (hi : i.toInt = ((4 * j : Nat) : Int)) (hj : 4 * j + 4 ≤ L) (hL : L ≤ 2048) {k n : Nat} (hk : k ≤ 5000 + 1000 * j) (hn : n ≤ 10000 + 10000 * j) {mi : MI} {ml : MJ} (R : Rel mi ml) (K : LK hh l b L xs j i) : LW hh l b L xs k n 200 [(0, .ref 99), (1, .ref 0), (2, .ref 61), (3, .ref 73), (4, .int i)] [] (wl mi ml) := by
  have e1 : (i + 1).toInt = ((4 * j + 1 : Nat) : Int) := (tI_add hi (show (1 : Int32).toInt = 1 from rfl) (by omega)).trans (by omega)
  have e2 : (i + 2).toInt = ((4 * j + 2 : Nat) : Int) := (tI_add hi (show (2 : Int32).toInt = 2 from rfl) (by omega)).trans (by omega)
  have e3 : (i + 3).toInt = ((4 * j + 3 : Nat) : Int) := (tI_add hi (show (3 : Int32).toInt = 3 from rfl) (by omega)).trans (by omega)
  have wn := wf_n R.1
  have wm := wf_m R.1
  have wt := wf_t R.1
  obtain ⟨np, nz, nz2, nN, nN2, nT⟩ := R.nums
  have w4 := R.1.1.2.2.2.2
  have hsp : (mi 62 4).toInt = (((mi 62 4).toInt.toNat : Nat) : Int) := by omega
  have hs1 : 1 ≤ (mi 62 4).toInt.toNat := by omega
  have hs10 : (mi 62 4).toInt.toNat ≤ 10 := by omega
  unfold LK at K
  refine EZ_aload_n 1 dL_law_200 rfl rfl ?_
  refine EZ_aload_n 0 dL_law_201 rfl rfl ?_
  refine EZ_iload 4 dL_law_202 rfl ?_
  refine EZ_iconst 1 (by decide) dL_law_204 ?_
  refine EZ_iadd dL_law_205 ?_
  refine L_ld (4 * j + 1) e1 (by omega) dL_law_206 ?_
  refine EZ_aload_n 0 dL_law_207 rfl rfl ?_
  refine EZ_iload 4 dL_law_208 rfl ?_
  refine EZ_iconst 2 (by decide) dL_law_210 ?_
  refine EZ_iadd dL_law_211 ?_
  refine L_ld (4 * j + 2) e2 (by omega) dL_law_212 ?_
  refine EZ_aload_n 3 dL_law_213 rfl rfl ?_
  refine L_callH (h_L_addCarrier l hfl mi ml (mi 62) R.1 R.2.1 (nV (mi 62)) wn.1 wn.2 (pV mi) (zV mi) np.1 np.2 nz.1 nz.2 _ _ _ _ rfl rfl) cwH_101 (As := [.ref 0, .int (xs (4 * j + 1)), .int (xs (4 * j + 2)), .ref 73]) (st := []) rfl ⟨Nat.le_of_ble_eq_true rfl, Nat.le_of_ble_eq_true rfl, (show k + 2 ≤ 601024 by omega), (show n + 12 ≤ 7293034 by omega)⟩ (Nat.le_of_ble_eq_true rfl) dL_law_214 rfl (L_kQ (fun r mi1 ml1 h => ?_))
  refine EZ_istore [(5, .int r), (0, .ref 99), (1, .ref 0), (2, .ref 61), (3, .ref 73), (4, .int i)] dL_law_217 (by decide) rfl ?_
  refine EZ_aload_n 3 dL_law_219 rfl rfl ?_
  refine EZ_aload_n 1 dL_law_220 rfl rfl ?_
  refine EZ_iload 5 dL_law_221 rfl ?_
  refine EZ_iconst 1 (by decide) dL_law_223 ?_
  refine EZ_iadd dL_law_224 ?_
  refine L_ld (4 * j + 1) e1 (by omega) dL_law_225 ?_
  refine EZ_aload_n 1 dL_law_226 rfl rfl ?_
  refine EZ_iload 5 dL_law_227 rfl ?_
  refine EZ_iconst 2 (by decide) dL_law_229 ?_
  refine EZ_iadd dL_law_230 ?_
  refine L_ld (4 * j + 2) e2 (by omega) dL_law_231 ?_
  refine EZ_callV (b_addCarrier l hfl R _ _ _ _ rfl rfl r h) cw_L_106 (As := [.int (xs (4 * j + 1)), .int (xs (4 * j + 2))]) (st := []) wi_yX6_addCarrier we_yX6_addCarrier (ci := 6) (q := (RX6, TX6, 23)) rfl rfl (wl_atO tw_61) rfl ⟨Nat.le_of_ble_eq_true rfl, Nat.le_of_ble_eq_true rfl, (show (k + 2) + 0 ≤ 601024 by omega), (show (n + 12) + 0 ≤ 7293034 by omega)⟩ (Nat.le_of_ble_eq_true rfl) dL_law_232 (fun _ _ q => q) rfl (zkI (fun b2 mi2 ml2 h2 => ?_))
  refine EZ_istore [(6, .int b2), (5, .int r), (0, .ref 99), (1, .ref 0), (2, .ref 61), (3, .ref 73), (4, .int i)] dL_law_235 (by decide) rfl ?_
  refine EZ_aload_n 4 dL_law_237 rfl rfl ?_
  refine EZ_callV (c_X6_thrown l hfl mi2 ml2) cw_L_107 (As := []) (st := []) wi_yX6_thrown we_yX6_thrown (ci := 6) (q := (RX6, TX6, 23)) rfl rfl (wl_atO tw_61) rfl ⟨Nat.le_of_ble_eq_true rfl, Nat.le_of_ble_eq_true rfl, (show ((k + 2) + 0) + 0 ≤ 601024 by omega), (show ((n + 12) + 0) + 0 ≤ 7293034 by omega)⟩ (Nat.le_of_ble_eq_true rfl) dL_law_238 (fun _ _ q => q) rfl (zkE ?_)
  refine EZ_iload 1 dL_law_241 rfl ?_
  refine EZ_icmp_eq 248 dL_law_243 (by decide) (fun _ => ?_) (fun q => absurd h2.2.1 q)
  refine EZ_iload 1 dL_law_248 rfl ?_
  refine EZ_if_ne 265 dL_law_250 (by decide) (fun _ => ?_) (fun hr => ?_)
  · refine EZ_goto 1999 dL_law_265 (by decide) ?_
    refine EZ_sub [2, 3, 4, 5, 6] rfl ?_
    exact K _ _ mi2 ml2 (by omega) (by omega) h2.1
  · refine EZ_aload_n 5 dL_law_253 rfl rfl ?_
    refine EZ_iconst 0 (by decide) dL_law_254 ?_
    refine SZ_lald 0 _ tw_73 rfl (by decide) (h2.2.2 hr) dL_law_255 ?_
    refine EZ_iload 0 dL_law_256 rfl ?_
    refine EZ_i2l dL_law_258 ?_
    refine EZ_lcmp dL_law_259 ?_
    refine EZ_if_eq 265 dL_law_260 (by decide) (fun _ => ?_) (fun q => absurd ((lg_cmp_eq _ _).mpr rfl) q)
    refine EZ_goto 1999 dL_law_265 (by decide) ?_
    refine EZ_sub [2, 3, 4, 5, 6] rfl ?_
    exact K _ _ mi2 ml2 (by omega) (by omega) h2.1
set_option maxRecDepth 100000 in
theorem lw_c1 (l : Launch) (hfl : l.stackTraces = false) {hh : List ExceptionTableEntry} {b L : Nat} {xs : Nat → Int32} {j : Nat} {i : Int32} (hi : i.toInt = ((4 * j : Nat) : Int)) (hj : 4 * j + 4 ≤ L) (hL : L ≤ 2048) {k n : Nat} (hk : k ≤ 5000 + 1000 * j) (hn : n ≤ 10000 + 10000 * j) {mi : MI} {ml : MJ} (R : Rel mi ml) (K : LK hh l b L xs j i) : LW hh l b L xs k n 268 [(0, .ref 99), (1, .ref 0), (2, .ref 61), (3, .ref 73), (4, .int i)] [] (wl mi ml) := by
  have e1 : (i + 1).toInt = ((4 * j + 1 : Nat) : Int) := (tI_add hi (show (1 : Int32).toInt = 1 from rfl) (by omega)).trans (by omega)
  have e2 : (i + 2).toInt = ((4 * j + 2 : Nat) : Int) := (tI_add hi (show (2 : Int32).toInt = 2 from rfl) (by omega)).trans (by omega)
  have e3 : (i + 3).toInt = ((4 * j + 3 : Nat) : Int) := (tI_add hi (show (3 : Int32).toInt = 3 from rfl) (by omega)).trans (by omega)
  have wn := wf_n R.1
  have wm := wf_m R.1
  have wt := wf_t R.1
  obtain ⟨np, nz, nz2, nN, nN2, nT⟩ := R.nums
  have w4 := R.1.1.2.2.2.2
  have hsp : (mi 62 4).toInt = (((mi 62 4).toInt.toNat : Nat) : Int) := by omega
  have hs1 : 1 ≤ (mi 62 4).toInt.toNat := by omega
  have hs10 : (mi 62 4).toInt.toNat ≤ 10 := by omega
  unfold LK at K
  refine EZ_aload_n 1 dL_law_268 rfl rfl ?_
  refine EZ_aload_n 0 dL_law_269 rfl rfl ?_
  refine EZ_iload 4 dL_law_270 rfl ?_
  refine EZ_iconst 1 (by decide) dL_law_272 ?_
  refine EZ_iadd dL_law_273 ?_
  refine L_ld (4 * j + 1) e1 (by omega) dL_law_274 ?_
  refine EZ_aload_n 0 dL_law_275 rfl rfl ?_
  refine EZ_iload 4 dL_law_276 rfl ?_
  refine EZ_iconst 2 (by decide) dL_law_278 ?_
  refine EZ_iadd dL_law_279 ?_
  refine L_ld (4 * j + 2) e2 (by omega) dL_law_280 ?_
  refine EZ_aload_n 0 dL_law_281 rfl rfl ?_
  refine EZ_iload 4 dL_law_282 rfl ?_
  refine EZ_iconst 3 (by decide) dL_law_284 ?_
  refine EZ_iadd dL_law_285 ?_
  refine L_ld (4 * j + 3) e3 (by omega) dL_law_286 ?_
  refine EZ_aload_n 3 dL_law_287 rfl rfl ?_
  refine L_callH (h_L_moveCarrier l hfl mi ml (mi 62) R.1 R.2.1 (nV (mi 62)) wn.1 wn.2 (pV mi) (zV mi) np.1 np.2 nz.1 nz.2 _ _ rfl _ _ _ _ rfl rfl) cwH_110 (As := [.ref 0, .int (xs (4 * j + 1)), .int (xs (4 * j + 2)), .int (xs (4 * j + 3)), .ref 73]) (st := []) rfl ⟨Nat.le_of_ble_eq_true rfl, Nat.le_of_ble_eq_true rfl, (show k + 3 ≤ 601024 by omega), (show n + 18 ≤ 7293034 by omega)⟩ (Nat.le_of_ble_eq_true rfl) dL_law_288 rfl (L_kQ (fun r mi1 ml1 h => ?_))
  refine EZ_istore [(5, .int r), (0, .ref 99), (1, .ref 0), (2, .ref 61), (3, .ref 73), (4, .int i)] dL_law_291 (by decide) rfl ?_
  refine EZ_aload_n 3 dL_law_293 rfl rfl ?_
  refine EZ_aload_n 1 dL_law_294 rfl rfl ?_
  refine EZ_iload 5 dL_law_295 rfl ?_
  refine EZ_iconst 1 (by decide) dL_law_297 ?_
  refine EZ_iadd dL_law_298 ?_
  refine L_ld (4 * j + 1) e1 (by omega) dL_law_299 ?_
  refine EZ_aload_n 1 dL_law_300 rfl rfl ?_
  refine EZ_iload 5 dL_law_301 rfl ?_
  refine EZ_iconst 2 (by decide) dL_law_303 ?_
  refine EZ_iadd dL_law_304 ?_
  refine L_ld (4 * j + 2) e2 (by omega) dL_law_305 ?_
  refine EZ_aload_n 1 dL_law_306 rfl rfl ?_
  refine EZ_iload 5 dL_law_307 rfl ?_
  refine EZ_iconst 3 (by decide) dL_law_309 ?_
  refine EZ_iadd dL_law_310 ?_
  refine L_ld (4 * j + 3) e3 (by omega) dL_law_311 ?_
  refine EZ_callV (b_moveCarrier l hfl R _ _ rfl _ _ _ _ rfl rfl r h) cw_L_113 (As := [.int (xs (4 * j + 1)), .int (xs (4 * j + 2)), .int (xs (4 * j + 3))]) (st := []) wi_yX6_moveCarrier we_yX6_moveCarrier (ci := 6) (q := (RX6, TX6, 23)) rfl rfl (wl_atO tw_61) rfl ⟨Nat.le_of_ble_eq_true rfl, Nat.le_of_ble_eq_true rfl, (show (k + 3) + 0 ≤ 601024 by omega), (show (n + 18) + 0 ≤ 7293034 by omega)⟩ (Nat.le_of_ble_eq_true rfl) dL_law_312 (fun _ _ q => q) rfl (zkI (fun b2 mi2 ml2 h2 => ?_))
  refine EZ_istore [(6, .int b2), (5, .int r), (0, .ref 99), (1, .ref 0), (2, .ref 61), (3, .ref 73), (4, .int i)] dL_law_315 (by decide) rfl ?_
  refine EZ_aload_n 4 dL_law_317 rfl rfl ?_
  refine EZ_callV (c_X6_thrown l hfl mi2 ml2) cw_L_107 (As := []) (st := []) wi_yX6_thrown we_yX6_thrown (ci := 6) (q := (RX6, TX6, 23)) rfl rfl (wl_atO tw_61) rfl ⟨Nat.le_of_ble_eq_true rfl, Nat.le_of_ble_eq_true rfl, (show ((k + 3) + 0) + 0 ≤ 601024 by omega), (show ((n + 18) + 0) + 0 ≤ 7293034 by omega)⟩ (Nat.le_of_ble_eq_true rfl) dL_law_318 (fun _ _ q => q) rfl (zkE ?_)
  refine EZ_iload 1 dL_law_321 rfl ?_
  refine EZ_icmp_eq 328 dL_law_323 (by decide) (fun _ => ?_) (fun q => absurd h2.2.1 q)
  refine EZ_iload 1 dL_law_328 rfl ?_
  refine EZ_if_ne 345 dL_law_330 (by decide) (fun _ => ?_) (fun hr => ?_)
  · refine EZ_goto 1999 dL_law_345 (by decide) ?_
    refine EZ_sub [2, 3, 4, 5, 6] rfl ?_
    exact K _ _ mi2 ml2 (by omega) (by omega) h2.1
  · refine EZ_aload_n 5 dL_law_333 rfl rfl ?_
    refine EZ_iconst 0 (by decide) dL_law_334 ?_
    refine SZ_lald 0 _ tw_73 rfl (by decide) (h2.2.2 hr) dL_law_335 ?_
    refine EZ_iload 0 dL_law_336 rfl ?_
    refine EZ_i2l dL_law_338 ?_
    refine EZ_lcmp dL_law_339 ?_
    refine EZ_if_eq 345 dL_law_340 (by decide) (fun _ => ?_) (fun q => absurd ((lg_cmp_eq _ _).mpr rfl) q)
    refine EZ_goto 1999 dL_law_345 (by decide) ?_
    refine EZ_sub [2, 3, 4, 5, 6] rfl ?_
    exact K _ _ mi2 ml2 (by omega) (by omega) h2.1
set_option maxRecDepth 100000 in
theorem lw_c2 (l : Launch) (hfl : l.stackTraces = false) {hh : List ExceptionTableEntry} {b L : Nat} {xs : Nat → Int32} {j : Nat} {i : Int32} (hi : i.toInt = ((4 * j : Nat) : Int)) (hj : 4 * j + 4 ≤ L) (hL : L ≤ 2048) {k n : Nat} (hk : k ≤ 5000 + 1000 * j) (hn : n ≤ 10000 + 10000 * j) {mi : MI} {ml : MJ} (R : Rel mi ml) (K : LK hh l b L xs j i) : LW hh l b L xs k n 348 [(0, .ref 99), (1, .ref 0), (2, .ref 61), (3, .ref 73), (4, .int i)] [] (wl mi ml) := by
  have e1 : (i + 1).toInt = ((4 * j + 1 : Nat) : Int) := (tI_add hi (show (1 : Int32).toInt = 1 from rfl) (by omega)).trans (by omega)
  have e2 : (i + 2).toInt = ((4 * j + 2 : Nat) : Int) := (tI_add hi (show (2 : Int32).toInt = 2 from rfl) (by omega)).trans (by omega)
  have e3 : (i + 3).toInt = ((4 * j + 3 : Nat) : Int) := (tI_add hi (show (3 : Int32).toInt = 3 from rfl) (by omega)).trans (by omega)
  have wn := wf_n R.1
  have wm := wf_m R.1
  have wt := wf_t R.1
  obtain ⟨np, nz, nz2, nN, nN2, nT⟩ := R.nums
  have w4 := R.1.1.2.2.2.2
  have hsp : (mi 62 4).toInt = (((mi 62 4).toInt.toNat : Nat) : Int) := by omega
  have hs1 : 1 ≤ (mi 62 4).toInt.toNat := by omega
  have hs10 : (mi 62 4).toInt.toNat ≤ 10 := by omega
  unfold LK at K
  refine EZ_aload_n 1 dL_law_348 rfl rfl ?_
  refine EZ_aload_n 0 dL_law_349 rfl rfl ?_
  refine EZ_iload 4 dL_law_350 rfl ?_
  refine EZ_iconst 1 (by decide) dL_law_352 ?_
  refine EZ_iadd dL_law_353 ?_
  refine L_ld (4 * j + 1) e1 (by omega) dL_law_354 ?_
  refine EZ_aload_n 3 dL_law_355 rfl rfl ?_
  refine L_callH (h_L_removeCarrier l hfl mi ml (mi 62) R.1 R.2.1 (nV (mi 62)) wn.1 wn.2 (mV (mi 62)) wm.1 wm.2 (pV mi) (zV mi) np.1 np.2 nz.1 nz.2 _ _ rfl) cwH_114 (As := [.ref 0, .int (xs (4 * j + 1)), .ref 73]) (st := []) rfl ⟨Nat.le_of_ble_eq_true rfl, Nat.le_of_ble_eq_true rfl, (show k + 1 ≤ 601024 by omega), (show n + 6 ≤ 7293034 by omega)⟩ (Nat.le_of_ble_eq_true rfl) dL_law_356 rfl (L_kQ (fun r mi1 ml1 h => ?_))
  refine EZ_istore [(5, .int r), (0, .ref 99), (1, .ref 0), (2, .ref 61), (3, .ref 73), (4, .int i)] dL_law_359 (by decide) rfl ?_
  refine EZ_aload_n 3 dL_law_361 rfl rfl ?_
  refine EZ_aload_n 1 dL_law_362 rfl rfl ?_
  refine EZ_iload 5 dL_law_363 rfl ?_
  refine EZ_iconst 1 (by decide) dL_law_365 ?_
  refine EZ_iadd dL_law_366 ?_
  refine L_ld (4 * j + 1) e1 (by omega) dL_law_367 ?_
  refine EZ_callV (b_removeCarrier l hfl R _ _ rfl r h) cw_L_117 (As := [.int (xs (4 * j + 1))]) (st := []) wi_yX6_removeCarrier we_yX6_removeCarrier (ci := 6) (q := (RX6, TX6, 23)) rfl rfl (wl_atO tw_61) rfl ⟨Nat.le_of_ble_eq_true rfl, Nat.le_of_ble_eq_true rfl, (show (k + 1) + 0 ≤ 601024 by omega), (show (n + 6) + 0 ≤ 7293034 by omega)⟩ (Nat.le_of_ble_eq_true rfl) dL_law_368 (fun _ _ q => q) rfl (zkI (fun b2 mi2 ml2 h2 => ?_))
  refine EZ_istore [(6, .int b2), (5, .int r), (0, .ref 99), (1, .ref 0), (2, .ref 61), (3, .ref 73), (4, .int i)] dL_law_371 (by decide) rfl ?_
  refine EZ_aload_n 4 dL_law_373 rfl rfl ?_
  refine EZ_callV (c_X6_thrown l hfl mi2 ml2) cw_L_107 (As := []) (st := []) wi_yX6_thrown we_yX6_thrown (ci := 6) (q := (RX6, TX6, 23)) rfl rfl (wl_atO tw_61) rfl ⟨Nat.le_of_ble_eq_true rfl, Nat.le_of_ble_eq_true rfl, (show ((k + 1) + 0) + 0 ≤ 601024 by omega), (show ((n + 6) + 0) + 0 ≤ 7293034 by omega)⟩ (Nat.le_of_ble_eq_true rfl) dL_law_374 (fun _ _ q => q) rfl (zkE ?_)
  refine EZ_iload 1 dL_law_377 rfl ?_
  refine EZ_icmp_eq 384 dL_law_379 (by decide) (fun _ => ?_) (fun q => absurd h2.2.1 q)
  refine EZ_iload 1 dL_law_384 rfl ?_
  refine EZ_if_ne 401 dL_law_386 (by decide) (fun _ => ?_) (fun hr => ?_)
  · refine EZ_goto 1999 dL_law_401 (by decide) ?_
    refine EZ_sub [2, 3, 4, 5, 6] rfl ?_
    exact K _ _ mi2 ml2 (by omega) (by omega) h2.1
  · refine EZ_aload_n 5 dL_law_389 rfl rfl ?_
    refine EZ_iconst 0 (by decide) dL_law_390 ?_
    refine SZ_lald 0 _ tw_73 rfl (by decide) (h2.2.2 hr) dL_law_391 ?_
    refine EZ_iload 0 dL_law_392 rfl ?_
    refine EZ_i2l dL_law_394 ?_
    refine EZ_lcmp dL_law_395 ?_
    refine EZ_if_eq 401 dL_law_396 (by decide) (fun _ => ?_) (fun q => absurd ((lg_cmp_eq _ _).mpr rfl) q)
    refine EZ_goto 1999 dL_law_401 (by decide) ?_
    refine EZ_sub [2, 3, 4, 5, 6] rfl ?_
    exact K _ _ mi2 ml2 (by omega) (by omega) h2.1
set_option maxRecDepth 100000 in
theorem lw_c3 (l : Launch) (hfl : l.stackTraces = false) {hh : List ExceptionTableEntry} {b L : Nat} {xs : Nat → Int32} {j : Nat} {i : Int32} (hi : i.toInt = ((4 * j : Nat) : Int)) (hj : 4 * j + 4 ≤ L) (hL : L ≤ 2048) {k n : Nat} (hk : k ≤ 5000 + 1000 * j) (hn : n ≤ 10000 + 10000 * j) {mi : MI} {ml : MJ} (R : Rel mi ml) (K : LK hh l b L xs j i) : LW hh l b L xs k n 404 [(0, .ref 99), (1, .ref 0), (2, .ref 61), (3, .ref 73), (4, .int i)] [] (wl mi ml) := by
  have e1 : (i + 1).toInt = ((4 * j + 1 : Nat) : Int) := (tI_add hi (show (1 : Int32).toInt = 1 from rfl) (by omega)).trans (by omega)
  have e2 : (i + 2).toInt = ((4 * j + 2 : Nat) : Int) := (tI_add hi (show (2 : Int32).toInt = 2 from rfl) (by omega)).trans (by omega)
  have e3 : (i + 3).toInt = ((4 * j + 3 : Nat) : Int) := (tI_add hi (show (3 : Int32).toInt = 3 from rfl) (by omega)).trans (by omega)
  have wn := wf_n R.1
  have wm := wf_m R.1
  have wt := wf_t R.1
  obtain ⟨np, nz, nz2, nN, nN2, nT⟩ := R.nums
  have w4 := R.1.1.2.2.2.2
  have hsp : (mi 62 4).toInt = (((mi 62 4).toInt.toNat : Nat) : Int) := by omega
  have hs1 : 1 ≤ (mi 62 4).toInt.toNat := by omega
  have hs10 : (mi 62 4).toInt.toNat ≤ 10 := by omega
  unfold LK at K
  refine EZ_aload_n 1 dL_law_404 rfl rfl ?_
  refine EZ_aload_n 0 dL_law_405 rfl rfl ?_
  refine EZ_iload 4 dL_law_406 rfl ?_
  refine EZ_iconst 1 (by decide) dL_law_408 ?_
  refine EZ_iadd dL_law_409 ?_
  refine L_ld (4 * j + 1) e1 (by omega) dL_law_410 ?_
  refine EZ_aload_n 3 dL_law_411 rfl rfl ?_
  refine L_callH (h_L_shift l hfl mi ml (mi 62) R.1 R.2.1 (nV (mi 62)) wn.1 wn.2 (pV mi) (zV mi) np.1 np.2 nz.1 nz.2 _ _ rfl) cwH_118 (As := [.ref 0, .int (xs (4 * j + 1)), .ref 73]) (st := []) rfl ⟨Nat.le_of_ble_eq_true rfl, Nat.le_of_ble_eq_true rfl, (show k + 1 ≤ 601024 by omega), (show n + 6 ≤ 7293034 by omega)⟩ (Nat.le_of_ble_eq_true rfl) dL_law_412 rfl (L_kQ (fun r mi1 ml1 h => ?_))
  refine EZ_istore [(5, .int r), (0, .ref 99), (1, .ref 0), (2, .ref 61), (3, .ref 73), (4, .int i)] dL_law_415 (by decide) rfl ?_
  refine EZ_aload_n 3 dL_law_417 rfl rfl ?_
  refine EZ_aload_n 1 dL_law_418 rfl rfl ?_
  refine EZ_iload 5 dL_law_419 rfl ?_
  refine EZ_iconst 1 (by decide) dL_law_421 ?_
  refine EZ_iadd dL_law_422 ?_
  refine L_ld (4 * j + 1) e1 (by omega) dL_law_423 ?_
  refine EZ_callV (b_shift l hfl R _ _ rfl r h) cw_L_120 (As := [.int (xs (4 * j + 1))]) (st := []) wi_yX6_shift we_yX6_shift (ci := 6) (q := (RX6, TX6, 23)) rfl rfl (wl_atO tw_61) rfl ⟨Nat.le_of_ble_eq_true rfl, Nat.le_of_ble_eq_true rfl, (show (k + 1) + 0 ≤ 601024 by omega), (show (n + 6) + 0 ≤ 7293034 by omega)⟩ (Nat.le_of_ble_eq_true rfl) dL_law_424 (fun _ _ q => q) rfl (zkI (fun b2 mi2 ml2 h2 => ?_))
  refine EZ_istore [(6, .int b2), (5, .int r), (0, .ref 99), (1, .ref 0), (2, .ref 61), (3, .ref 73), (4, .int i)] dL_law_427 (by decide) rfl ?_
  refine EZ_aload_n 4 dL_law_429 rfl rfl ?_
  refine EZ_callV (c_X6_thrown l hfl mi2 ml2) cw_L_107 (As := []) (st := []) wi_yX6_thrown we_yX6_thrown (ci := 6) (q := (RX6, TX6, 23)) rfl rfl (wl_atO tw_61) rfl ⟨Nat.le_of_ble_eq_true rfl, Nat.le_of_ble_eq_true rfl, (show ((k + 1) + 0) + 0 ≤ 601024 by omega), (show ((n + 6) + 0) + 0 ≤ 7293034 by omega)⟩ (Nat.le_of_ble_eq_true rfl) dL_law_430 (fun _ _ q => q) rfl (zkE ?_)
  refine EZ_iload 1 dL_law_433 rfl ?_
  refine EZ_icmp_eq 440 dL_law_435 (by decide) (fun _ => ?_) (fun q => absurd h2.2.1 q)
  refine EZ_iload 1 dL_law_440 rfl ?_
  refine EZ_if_ne 457 dL_law_442 (by decide) (fun _ => ?_) (fun hr => ?_)
  · refine EZ_goto 1999 dL_law_457 (by decide) ?_
    refine EZ_sub [2, 3, 4, 5, 6] rfl ?_
    exact K _ _ mi2 ml2 (by omega) (by omega) h2.1
  · refine EZ_aload_n 5 dL_law_445 rfl rfl ?_
    refine EZ_iconst 0 (by decide) dL_law_446 ?_
    refine SZ_lald 0 _ tw_73 rfl (by decide) (h2.2.2 hr) dL_law_447 ?_
    refine EZ_iload 0 dL_law_448 rfl ?_
    refine EZ_i2l dL_law_450 ?_
    refine EZ_lcmp dL_law_451 ?_
    refine EZ_if_eq 457 dL_law_452 (by decide) (fun _ => ?_) (fun q => absurd ((lg_cmp_eq _ _).mpr rfl) q)
    refine EZ_goto 1999 dL_law_457 (by decide) ?_
    refine EZ_sub [2, 3, 4, 5, 6] rfl ?_
    exact K _ _ mi2 ml2 (by omega) (by omega) h2.1
set_option maxRecDepth 100000 in
theorem lw_c4 (l : Launch) (hfl : l.stackTraces = false) {hh : List ExceptionTableEntry} {b L : Nat} {xs : Nat → Int32} {j : Nat} {i : Int32} (hi : i.toInt = ((4 * j : Nat) : Int)) (hj : 4 * j + 4 ≤ L) (hL : L ≤ 2048) {k n : Nat} (hk : k ≤ 5000 + 1000 * j) (hn : n ≤ 10000 + 10000 * j) {mi : MI} {ml : MJ} (R : Rel mi ml) (K : LK hh l b L xs j i) : LW hh l b L xs k n 460 [(0, .ref 99), (1, .ref 0), (2, .ref 61), (3, .ref 73), (4, .int i)] [] (wl mi ml) := by
  have e1 : (i + 1).toInt = ((4 * j + 1 : Nat) : Int) := (tI_add hi (show (1 : Int32).toInt = 1 from rfl) (by omega)).trans (by omega)
  have e2 : (i + 2).toInt = ((4 * j + 2 : Nat) : Int) := (tI_add hi (show (2 : Int32).toInt = 2 from rfl) (by omega)).trans (by omega)
  have e3 : (i + 3).toInt = ((4 * j + 3 : Nat) : Int) := (tI_add hi (show (3 : Int32).toInt = 3 from rfl) (by omega)).trans (by omega)
  have wn := wf_n R.1
  have wm := wf_m R.1
  have wt := wf_t R.1
  obtain ⟨np, nz, nz2, nN, nN2, nT⟩ := R.nums
  have w4 := R.1.1.2.2.2.2
  have hsp : (mi 62 4).toInt = (((mi 62 4).toInt.toNat : Nat) : Int) := by omega
  have hs1 : 1 ≤ (mi 62 4).toInt.toNat := by omega
  have hs10 : (mi 62 4).toInt.toNat ≤ 10 := by omega
  unfold LK at K
  refine EZ_aload_n 1 dL_law_460 rfl rfl ?_
  refine EZ_aload_n 0 dL_law_461 rfl rfl ?_
  refine EZ_iload 4 dL_law_462 rfl ?_
  refine EZ_iconst 1 (by decide) dL_law_464 ?_
  refine EZ_iadd dL_law_465 ?_
  refine L_ld (4 * j + 1) e1 (by omega) dL_law_466 ?_
  refine EZ_aload_n 0 dL_law_467 rfl rfl ?_
  refine EZ_iload 4 dL_law_468 rfl ?_
  refine EZ_iconst 2 (by decide) dL_law_470 ?_
  refine EZ_iadd dL_law_471 ?_
  refine L_ld (4 * j + 2) e2 (by omega) dL_law_472 ?_
  refine EZ_aload_n 0 dL_law_473 rfl rfl ?_
  refine EZ_iload 4 dL_law_474 rfl ?_
  refine EZ_iconst 3 (by decide) dL_law_476 ?_
  refine EZ_iadd dL_law_477 ?_
  refine L_ld (4 * j + 3) e3 (by omega) dL_law_478 ?_
  refine EZ_aload_n 3 dL_law_479 rfl rfl ?_
  refine L_callH (h_L_setProducts l hfl mi ml (mi 62) R.1 R.2.1 (pV mi) (zV mi) np.1 np.2 nz.1 nz.2 _ _ rfl _ _ rfl _ _ rfl) cwH_121 (As := [.ref 0, .int (xs (4 * j + 1)), .int (xs (4 * j + 2)), .int (xs (4 * j + 3)), .ref 73]) (st := []) rfl ⟨Nat.le_of_ble_eq_true rfl, Nat.le_of_ble_eq_true rfl, (show k + 1 ≤ 601024 by omega), (show n + 6 ≤ 7293034 by omega)⟩ (Nat.le_of_ble_eq_true rfl) dL_law_480 rfl (L_kQ (fun r mi1 ml1 h => ?_))
  refine EZ_istore [(5, .int r), (0, .ref 99), (1, .ref 0), (2, .ref 61), (3, .ref 73), (4, .int i)] dL_law_483 (by decide) rfl ?_
  refine EZ_aload_n 3 dL_law_485 rfl rfl ?_
  refine EZ_aload_n 1 dL_law_486 rfl rfl ?_
  refine EZ_iload 5 dL_law_487 rfl ?_
  refine EZ_iconst 1 (by decide) dL_law_489 ?_
  refine EZ_iadd dL_law_490 ?_
  refine L_ld (4 * j + 1) e1 (by omega) dL_law_491 ?_
  refine EZ_aload_n 1 dL_law_492 rfl rfl ?_
  refine EZ_iload 5 dL_law_493 rfl ?_
  refine EZ_iconst 2 (by decide) dL_law_495 ?_
  refine EZ_iadd dL_law_496 ?_
  refine L_ld (4 * j + 2) e2 (by omega) dL_law_497 ?_
  refine EZ_aload_n 1 dL_law_498 rfl rfl ?_
  refine EZ_iload 5 dL_law_499 rfl ?_
  refine EZ_iconst 3 (by decide) dL_law_501 ?_
  refine EZ_iadd dL_law_502 ?_
  refine L_ld (4 * j + 3) e3 (by omega) dL_law_503 ?_
  refine EZ_callV (b_setProducts l hfl R _ _ rfl _ _ rfl _ _ rfl r h) cw_L_123 (As := [.int (xs (4 * j + 1)), .int (xs (4 * j + 2)), .int (xs (4 * j + 3))]) (st := []) wi_yX6_setProducts we_yX6_setProducts (ci := 6) (q := (RX6, TX6, 23)) rfl rfl (wl_atO tw_61) rfl ⟨Nat.le_of_ble_eq_true rfl, Nat.le_of_ble_eq_true rfl, (show (k + 1) + 0 ≤ 601024 by omega), (show (n + 6) + 0 ≤ 7293034 by omega)⟩ (Nat.le_of_ble_eq_true rfl) dL_law_504 (fun _ _ q => q) rfl (zkI (fun b2 mi2 ml2 h2 => ?_))
  refine EZ_istore [(6, .int b2), (5, .int r), (0, .ref 99), (1, .ref 0), (2, .ref 61), (3, .ref 73), (4, .int i)] dL_law_507 (by decide) rfl ?_
  refine EZ_aload_n 4 dL_law_509 rfl rfl ?_
  refine EZ_callV (c_X6_thrown l hfl mi2 ml2) cw_L_107 (As := []) (st := []) wi_yX6_thrown we_yX6_thrown (ci := 6) (q := (RX6, TX6, 23)) rfl rfl (wl_atO tw_61) rfl ⟨Nat.le_of_ble_eq_true rfl, Nat.le_of_ble_eq_true rfl, (show ((k + 1) + 0) + 0 ≤ 601024 by omega), (show ((n + 6) + 0) + 0 ≤ 7293034 by omega)⟩ (Nat.le_of_ble_eq_true rfl) dL_law_510 (fun _ _ q => q) rfl (zkE ?_)
  refine EZ_iload 1 dL_law_513 rfl ?_
  refine EZ_icmp_eq 520 dL_law_515 (by decide) (fun _ => ?_) (fun q => absurd h2.2.1 q)
  refine EZ_iload 1 dL_law_520 rfl ?_
  refine EZ_if_ne 537 dL_law_522 (by decide) (fun _ => ?_) (fun hr => ?_)
  · refine EZ_goto 1999 dL_law_537 (by decide) ?_
    refine EZ_sub [2, 3, 4, 5, 6] rfl ?_
    exact K _ _ mi2 ml2 (by omega) (by omega) h2.1
  · refine EZ_aload_n 5 dL_law_525 rfl rfl ?_
    refine EZ_iconst 0 (by decide) dL_law_526 ?_
    refine SZ_lald 0 _ tw_73 rfl (by decide) (h2.2.2 hr) dL_law_527 ?_
    refine EZ_iload 0 dL_law_528 rfl ?_
    refine EZ_i2l dL_law_530 ?_
    refine EZ_lcmp dL_law_531 ?_
    refine EZ_if_eq 537 dL_law_532 (by decide) (fun _ => ?_) (fun q => absurd ((lg_cmp_eq _ _).mpr rfl) q)
    refine EZ_goto 1999 dL_law_537 (by decide) ?_
    refine EZ_sub [2, 3, 4, 5, 6] rfl ?_
    exact K _ _ mi2 ml2 (by omega) (by omega) h2.1
set_option maxRecDepth 100000 in
theorem lw_c5 (l : Launch) (hfl : l.stackTraces = false) {hh : List ExceptionTableEntry} {b L : Nat} {xs : Nat → Int32} {j : Nat} {i : Int32} (hi : i.toInt = ((4 * j : Nat) : Int)) (hj : 4 * j + 4 ≤ L) (hL : L ≤ 2048) {k n : Nat} (hk : k ≤ 5000 + 1000 * j) (hn : n ≤ 10000 + 10000 * j) {mi : MI} {ml : MJ} (R : Rel mi ml) (K : LK hh l b L xs j i) : LW hh l b L xs k n 540 [(0, .ref 99), (1, .ref 0), (2, .ref 61), (3, .ref 73), (4, .int i)] [] (wl mi ml) := by
  have e1 : (i + 1).toInt = ((4 * j + 1 : Nat) : Int) := (tI_add hi (show (1 : Int32).toInt = 1 from rfl) (by omega)).trans (by omega)
  have e2 : (i + 2).toInt = ((4 * j + 2 : Nat) : Int) := (tI_add hi (show (2 : Int32).toInt = 2 from rfl) (by omega)).trans (by omega)
  have e3 : (i + 3).toInt = ((4 * j + 3 : Nat) : Int) := (tI_add hi (show (3 : Int32).toInt = 3 from rfl) (by omega)).trans (by omega)
  have wn := wf_n R.1
  have wm := wf_m R.1
  have wt := wf_t R.1
  obtain ⟨np, nz, nz2, nN, nN2, nT⟩ := R.nums
  have w4 := R.1.1.2.2.2.2
  have hsp : (mi 62 4).toInt = (((mi 62 4).toInt.toNat : Nat) : Int) := by omega
  have hs1 : 1 ≤ (mi 62 4).toInt.toNat := by omega
  have hs10 : (mi 62 4).toInt.toNat ≤ 10 := by omega
  unfold LK at K
  refine EZ_aload_n 1 dL_law_540 rfl rfl ?_
  refine EZ_aload_n 0 dL_law_541 rfl rfl ?_
  refine EZ_iload 4 dL_law_542 rfl ?_
  refine EZ_iconst 1 (by decide) dL_law_544 ?_
  refine EZ_iadd dL_law_545 ?_
  refine L_ld (4 * j + 1) e1 (by omega) dL_law_546 ?_
  refine EZ_aload_n 0 dL_law_547 rfl rfl ?_
  refine EZ_iload 4 dL_law_548 rfl ?_
  refine EZ_iconst 2 (by decide) dL_law_550 ?_
  refine EZ_iadd dL_law_551 ?_
  refine L_ld (4 * j + 2) e2 (by omega) dL_law_552 ?_
  refine EZ_aload_n 3 dL_law_553 rfl rfl ?_
  refine L_callH (h_L_setSpacing l hfl mi ml (mi 62) R.1 R.2.1 (pV mi) (zV mi) np.1 np.2 nz.1 nz.2 _ _ rfl _ _ rfl) cwH_124 (As := [.ref 0, .int (xs (4 * j + 1)), .int (xs (4 * j + 2)), .ref 73]) (st := []) rfl ⟨Nat.le_of_ble_eq_true rfl, Nat.le_of_ble_eq_true rfl, (show k + 1 ≤ 601024 by omega), (show n + 6 ≤ 7293034 by omega)⟩ (Nat.le_of_ble_eq_true rfl) dL_law_554 rfl (L_kQ (fun r mi1 ml1 h => ?_))
  refine EZ_istore [(5, .int r), (0, .ref 99), (1, .ref 0), (2, .ref 61), (3, .ref 73), (4, .int i)] dL_law_557 (by decide) rfl ?_
  refine EZ_aload_n 3 dL_law_559 rfl rfl ?_
  refine EZ_aload_n 1 dL_law_560 rfl rfl ?_
  refine EZ_iload 5 dL_law_561 rfl ?_
  refine EZ_iconst 1 (by decide) dL_law_563 ?_
  refine EZ_iadd dL_law_564 ?_
  refine L_ld (4 * j + 1) e1 (by omega) dL_law_565 ?_
  refine EZ_aload_n 1 dL_law_566 rfl rfl ?_
  refine EZ_iload 5 dL_law_567 rfl ?_
  refine EZ_iconst 2 (by decide) dL_law_569 ?_
  refine EZ_iadd dL_law_570 ?_
  refine L_ld (4 * j + 2) e2 (by omega) dL_law_571 ?_
  refine EZ_callV (b_setSpacing l hfl R _ _ rfl _ _ rfl r h) cw_L_126 (As := [.int (xs (4 * j + 1)), .int (xs (4 * j + 2))]) (st := []) wi_yX6_setSpacing we_yX6_setSpacing (ci := 6) (q := (RX6, TX6, 23)) rfl rfl (wl_atO tw_61) rfl ⟨Nat.le_of_ble_eq_true rfl, Nat.le_of_ble_eq_true rfl, (show (k + 1) + 0 ≤ 601024 by omega), (show (n + 6) + 0 ≤ 7293034 by omega)⟩ (Nat.le_of_ble_eq_true rfl) dL_law_572 (fun _ _ q => q) rfl (zkI (fun b2 mi2 ml2 h2 => ?_))
  refine EZ_istore [(6, .int b2), (5, .int r), (0, .ref 99), (1, .ref 0), (2, .ref 61), (3, .ref 73), (4, .int i)] dL_law_575 (by decide) rfl ?_
  refine EZ_aload_n 4 dL_law_577 rfl rfl ?_
  refine EZ_callV (c_X6_thrown l hfl mi2 ml2) cw_L_107 (As := []) (st := []) wi_yX6_thrown we_yX6_thrown (ci := 6) (q := (RX6, TX6, 23)) rfl rfl (wl_atO tw_61) rfl ⟨Nat.le_of_ble_eq_true rfl, Nat.le_of_ble_eq_true rfl, (show ((k + 1) + 0) + 0 ≤ 601024 by omega), (show ((n + 6) + 0) + 0 ≤ 7293034 by omega)⟩ (Nat.le_of_ble_eq_true rfl) dL_law_578 (fun _ _ q => q) rfl (zkE ?_)
  refine EZ_iload 1 dL_law_581 rfl ?_
  refine EZ_icmp_eq 588 dL_law_583 (by decide) (fun _ => ?_) (fun q => absurd h2.2.1 q)
  refine EZ_iload 1 dL_law_588 rfl ?_
  refine EZ_if_ne 605 dL_law_590 (by decide) (fun _ => ?_) (fun hr => ?_)
  · refine EZ_goto 1999 dL_law_605 (by decide) ?_
    refine EZ_sub [2, 3, 4, 5, 6] rfl ?_
    exact K _ _ mi2 ml2 (by omega) (by omega) h2.1
  · refine EZ_aload_n 5 dL_law_593 rfl rfl ?_
    refine EZ_iconst 0 (by decide) dL_law_594 ?_
    refine SZ_lald 0 _ tw_73 rfl (by decide) (h2.2.2 hr) dL_law_595 ?_
    refine EZ_iload 0 dL_law_596 rfl ?_
    refine EZ_i2l dL_law_598 ?_
    refine EZ_lcmp dL_law_599 ?_
    refine EZ_if_eq 605 dL_law_600 (by decide) (fun _ => ?_) (fun q => absurd ((lg_cmp_eq _ _).mpr rfl) q)
    refine EZ_goto 1999 dL_law_605 (by decide) ?_
    refine EZ_sub [2, 3, 4, 5, 6] rfl ?_
    exact K _ _ mi2 ml2 (by omega) (by omega) h2.1
set_option maxRecDepth 100000 in
theorem lw_c6 (l : Launch) (hfl : l.stackTraces = false) {hh : List ExceptionTableEntry} {b L : Nat} {xs : Nat → Int32} {j : Nat} {i : Int32} (hi : i.toInt = ((4 * j : Nat) : Int)) (hj : 4 * j + 4 ≤ L) (hL : L ≤ 2048) {k n : Nat} (hk : k ≤ 5000 + 1000 * j) (hn : n ≤ 10000 + 10000 * j) {mi : MI} {ml : MJ} (R : Rel mi ml) (K : LK hh l b L xs j i) : LW hh l b L xs k n 608 [(0, .ref 99), (1, .ref 0), (2, .ref 61), (3, .ref 73), (4, .int i)] [] (wl mi ml) := by
  have e1 : (i + 1).toInt = ((4 * j + 1 : Nat) : Int) := (tI_add hi (show (1 : Int32).toInt = 1 from rfl) (by omega)).trans (by omega)
  have e2 : (i + 2).toInt = ((4 * j + 2 : Nat) : Int) := (tI_add hi (show (2 : Int32).toInt = 2 from rfl) (by omega)).trans (by omega)
  have e3 : (i + 3).toInt = ((4 * j + 3 : Nat) : Int) := (tI_add hi (show (3 : Int32).toInt = 3 from rfl) (by omega)).trans (by omega)
  have wn := wf_n R.1
  have wm := wf_m R.1
  have wt := wf_t R.1
  obtain ⟨np, nz, nz2, nN, nN2, nT⟩ := R.nums
  have w4 := R.1.1.2.2.2.2
  have hsp : (mi 62 4).toInt = (((mi 62 4).toInt.toNat : Nat) : Int) := by omega
  have hs1 : 1 ≤ (mi 62 4).toInt.toNat := by omega
  have hs10 : (mi 62 4).toInt.toNat ≤ 10 := by omega
  unfold LK at K
  refine EZ_aload_n 1 dL_law_608 rfl rfl ?_
  refine EZ_aload_n 0 dL_law_609 rfl rfl ?_
  refine EZ_iload 4 dL_law_610 rfl ?_
  refine EZ_iconst 1 (by decide) dL_law_612 ?_
  refine EZ_iadd dL_law_613 ?_
  refine L_ld (4 * j + 1) e1 (by omega) dL_law_614 ?_
  refine EZ_aload_n 3 dL_law_615 rfl rfl ?_
  refine L_callH (h_L_size l hfl mi ml (mi 62) R.2.1 _ _ rfl) cwH_127 (As := [.ref 0, .int (xs (4 * j + 1)), .ref 73]) (st := []) rfl ⟨Nat.le_of_ble_eq_true rfl, Nat.le_of_ble_eq_true rfl, (show k + 1 ≤ 601024 by omega), (show n + 6 ≤ 7293034 by omega)⟩ (Nat.le_of_ble_eq_true rfl) dL_law_616 rfl (L_kQ (fun r mi1 ml1 h => ?_))
  refine EZ_istore [(5, .int r), (0, .ref 99), (1, .ref 0), (2, .ref 61), (3, .ref 73), (4, .int i)] dL_law_619 (by decide) rfl ?_
  refine EZ_aload_n 3 dL_law_621 rfl rfl ?_
  refine EZ_aload_n 1 dL_law_622 rfl rfl ?_
  refine EZ_iload 5 dL_law_623 rfl ?_
  refine EZ_iconst 1 (by decide) dL_law_625 ?_
  refine EZ_iadd dL_law_626 ?_
  refine L_ld (4 * j + 1) e1 (by omega) dL_law_627 ?_
  refine EZ_callV (b_size l hfl R _ _ rfl r h) cw_L_129 (As := [.int (xs (4 * j + 1))]) (st := []) wi_yX6_size we_yX6_size (ci := 6) (q := (RX6, TX6, 23)) rfl rfl (wl_atO tw_61) rfl ⟨Nat.le_of_ble_eq_true rfl, Nat.le_of_ble_eq_true rfl, (show (k + 1) + 0 ≤ 601024 by omega), (show (n + 6) + 0 ≤ 7293034 by omega)⟩ (Nat.le_of_ble_eq_true rfl) dL_law_628 (fun _ _ q => q) rfl (zkI (fun b2 mi2 ml2 h2 => ?_))
  refine EZ_istore [(6, .int b2), (5, .int r), (0, .ref 99), (1, .ref 0), (2, .ref 61), (3, .ref 73), (4, .int i)] dL_law_631 (by decide) rfl ?_
  refine EZ_aload_n 4 dL_law_633 rfl rfl ?_
  refine EZ_callV (c_X6_thrown l hfl mi2 ml2) cw_L_107 (As := []) (st := []) wi_yX6_thrown we_yX6_thrown (ci := 6) (q := (RX6, TX6, 23)) rfl rfl (wl_atO tw_61) rfl ⟨Nat.le_of_ble_eq_true rfl, Nat.le_of_ble_eq_true rfl, (show ((k + 1) + 0) + 0 ≤ 601024 by omega), (show ((n + 6) + 0) + 0 ≤ 7293034 by omega)⟩ (Nat.le_of_ble_eq_true rfl) dL_law_634 (fun _ _ q => q) rfl (zkE ?_)
  refine EZ_iload 1 dL_law_637 rfl ?_
  refine EZ_icmp_eq 644 dL_law_639 (by decide) (fun _ => ?_) (fun q => absurd h2.2.1 q)
  refine EZ_iload 1 dL_law_644 rfl ?_
  refine EZ_if_ne 661 dL_law_646 (by decide) (fun _ => ?_) (fun hr => ?_)
  · refine EZ_goto 1999 dL_law_661 (by decide) ?_
    refine EZ_sub [2, 3, 4, 5, 6] rfl ?_
    exact K _ _ mi2 ml2 (by omega) (by omega) h2.1
  · refine EZ_aload_n 5 dL_law_649 rfl rfl ?_
    refine EZ_iconst 0 (by decide) dL_law_650 ?_
    refine SZ_lald 0 _ tw_73 rfl (by decide) (h2.2.2 hr) dL_law_651 ?_
    refine EZ_iload 0 dL_law_652 rfl ?_
    refine EZ_i2l dL_law_654 ?_
    refine EZ_lcmp dL_law_655 ?_
    refine EZ_if_eq 661 dL_law_656 (by decide) (fun _ => ?_) (fun q => absurd ((lg_cmp_eq _ _).mpr rfl) q)
    refine EZ_goto 1999 dL_law_661 (by decide) ?_
    refine EZ_sub [2, 3, 4, 5, 6] rfl ?_
    exact K _ _ mi2 ml2 (by omega) (by omega) h2.1
set_option maxRecDepth 100000 in
theorem lw_c7z (l : Launch) (hfl : l.stackTraces = false) {hh : List ExceptionTableEntry} {b L : Nat} {xs : Nat → Int32} {j : Nat} {i : Int32} (hi : i.toInt = ((4 * j : Nat) : Int)) (hj : 4 * j + 4 ≤ L) (hL : L ≤ 2048) {k n : Nat} (hk : k ≤ 5000 + 1000 * j) (hn : n ≤ 10000 + 10000 * j) {mi : MI} {ml : MJ} (R : Rel mi ml) (hb : xs (4 * j + 2) = 0) (K : LK hh l b L xs j i) : LW hh l b L xs k n 664 [(0, .ref 99), (1, .ref 0), (2, .ref 61), (3, .ref 73), (4, .int i)] [] (wl mi ml) := by
  have e1 : (i + 1).toInt = ((4 * j + 1 : Nat) : Int) := (tI_add hi (show (1 : Int32).toInt = 1 from rfl) (by omega)).trans (by omega)
  have e2 : (i + 2).toInt = ((4 * j + 2 : Nat) : Int) := (tI_add hi (show (2 : Int32).toInt = 2 from rfl) (by omega)).trans (by omega)
  have e3 : (i + 3).toInt = ((4 * j + 3 : Nat) : Int) := (tI_add hi (show (3 : Int32).toInt = 3 from rfl) (by omega)).trans (by omega)
  have wn := wf_n R.1
  have wm := wf_m R.1
  have wt := wf_t R.1
  obtain ⟨np, nz, nz2, nN, nN2, nT⟩ := R.nums
  have w4 := R.1.1.2.2.2.2
  have hsp : (mi 62 4).toInt = (((mi 62 4).toInt.toNat : Nat) : Int) := by omega
  have hs1 : 1 ≤ (mi 62 4).toInt.toNat := by omega
  have hs10 : (mi 62 4).toInt.toNat ≤ 10 := by omega
  unfold LK at K
  refine EZ_aload_n 1 dL_law_664 rfl rfl ?_
  refine EZ_aload_n 0 dL_law_665 rfl rfl ?_
  refine EZ_iload 4 dL_law_666 rfl ?_
  refine EZ_iconst 1 (by decide) dL_law_668 ?_
  refine EZ_iadd dL_law_669 ?_
  refine L_ld (4 * j + 1) e1 (by omega) dL_law_670 ?_
  refine EZ_aload_n 0 dL_law_671 rfl rfl ?_
  refine EZ_iload 4 dL_law_672 rfl ?_
  refine EZ_iconst 2 (by decide) dL_law_674 ?_
  refine EZ_iadd dL_law_675 ?_
  refine L_ld (4 * j + 2) e2 (by omega) dL_law_676 ?_
  refine EZ_if_eq 684 dL_law_677 (by decide) (fun _ => ?_) (fun q => absurd hb q)
  refine EZ_iconst 0 (by decide) dL_law_684 ?_
  refine EZ_aload_n 3 dL_law_685 rfl rfl ?_
  refine L_callH (h_L_carrier l hfl mi ml (mi 62) R.1 R.2.1 (nV (mi 62)) wn.1 wn.2 _ _ rfl _ False (b0 (fun q => q))) cwH_130 (As := [.ref 0, .int (xs (4 * j + 1)), .int 0, .ref 73]) (st := []) rfl ⟨Nat.le_of_ble_eq_true rfl, Nat.le_of_ble_eq_true rfl, (show k + 1 ≤ 601024 by omega), (show n + 6 ≤ 7293034 by omega)⟩ (Nat.le_of_ble_eq_true rfl) dL_law_686 rfl (L_kQ (fun r mi1 ml1 h => ?_))
  refine EZ_istore [(5, .int r), (0, .ref 99), (1, .ref 0), (2, .ref 61), (3, .ref 73), (4, .int i)] dL_law_689 (by decide) rfl ?_
  refine EZ_aload_n 3 dL_law_691 rfl rfl ?_
  refine EZ_aload_n 1 dL_law_692 rfl rfl ?_
  refine EZ_iload 5 dL_law_693 rfl ?_
  refine EZ_iconst 1 (by decide) dL_law_695 ?_
  refine EZ_iadd dL_law_696 ?_
  refine L_ld (4 * j + 1) e1 (by omega) dL_law_697 ?_
  refine EZ_aload_n 1 dL_law_698 rfl rfl ?_
  refine EZ_iload 5 dL_law_699 rfl ?_
  refine EZ_iconst 2 (by decide) dL_law_701 ?_
  refine EZ_iadd dL_law_702 ?_
  refine L_ld (4 * j + 2) e2 (by omega) dL_law_703 ?_
  refine EZ_if_eq 711 dL_law_704 (by decide) (fun _ => ?_) (fun q => absurd hb q)
  refine EZ_iconst 0 (by decide) dL_law_711 ?_
  refine EZ_callV (b_carrier l hfl R _ _ rfl _ False (b0 (fun q => q)) r h) cw_L_133 (As := [.int (xs (4 * j + 1)), .int 0]) (st := []) wi_yX6_carrier we_yX6_carrier (ci := 6) (q := (RX6, TX6, 23)) rfl rfl (wl_atO tw_61) rfl ⟨Nat.le_of_ble_eq_true rfl, Nat.le_of_ble_eq_true rfl, (show (k + 1) + 0 ≤ 601024 by omega), (show (n + 6) + 0 ≤ 7293034 by omega)⟩ (Nat.le_of_ble_eq_true rfl) dL_law_712 (fun _ _ q => q) rfl (zkI (fun b2 mi2 ml2 h2 => ?_))
  refine EZ_istore [(6, .int b2), (5, .int r), (0, .ref 99), (1, .ref 0), (2, .ref 61), (3, .ref 73), (4, .int i)] dL_law_715 (by decide) rfl ?_
  refine EZ_aload_n 4 dL_law_717 rfl rfl ?_
  refine EZ_callV (c_X6_thrown l hfl mi2 ml2) cw_L_107 (As := []) (st := []) wi_yX6_thrown we_yX6_thrown (ci := 6) (q := (RX6, TX6, 23)) rfl rfl (wl_atO tw_61) rfl ⟨Nat.le_of_ble_eq_true rfl, Nat.le_of_ble_eq_true rfl, (show ((k + 1) + 0) + 0 ≤ 601024 by omega), (show ((n + 6) + 0) + 0 ≤ 7293034 by omega)⟩ (Nat.le_of_ble_eq_true rfl) dL_law_718 (fun _ _ q => q) rfl (zkE ?_)
  refine EZ_iload 1 dL_law_721 rfl ?_
  refine EZ_icmp_eq 728 dL_law_723 (by decide) (fun _ => ?_) (fun q => absurd h2.2.1 q)
  refine EZ_iload 1 dL_law_728 rfl ?_
  refine EZ_if_ne 745 dL_law_730 (by decide) (fun _ => ?_) (fun hr => ?_)
  · refine EZ_goto 1999 dL_law_745 (by decide) ?_
    refine EZ_sub [2, 3, 4, 5, 6] rfl ?_
    exact K _ _ mi2 ml2 (by omega) (by omega) h2.1
  · refine EZ_aload_n 5 dL_law_733 rfl rfl ?_
    refine EZ_iconst 0 (by decide) dL_law_734 ?_
    refine SZ_lald 0 _ tw_73 rfl (by decide) (h2.2.2 hr) dL_law_735 ?_
    refine EZ_iload 0 dL_law_736 rfl ?_
    refine EZ_i2l dL_law_738 ?_
    refine EZ_lcmp dL_law_739 ?_
    refine EZ_if_eq 745 dL_law_740 (by decide) (fun _ => ?_) (fun q => absurd ((lg_cmp_eq _ _).mpr rfl) q)
    refine EZ_goto 1999 dL_law_745 (by decide) ?_
    refine EZ_sub [2, 3, 4, 5, 6] rfl ?_
    exact K _ _ mi2 ml2 (by omega) (by omega) h2.1
set_option maxRecDepth 100000 in
theorem lw_c7n (l : Launch) (hfl : l.stackTraces = false) {hh : List ExceptionTableEntry} {b L : Nat} {xs : Nat → Int32} {j : Nat} {i : Int32} (hi : i.toInt = ((4 * j : Nat) : Int)) (hj : 4 * j + 4 ≤ L) (hL : L ≤ 2048) {k n : Nat} (hk : k ≤ 5000 + 1000 * j) (hn : n ≤ 10000 + 10000 * j) {mi : MI} {ml : MJ} (R : Rel mi ml) (hb : ¬ xs (4 * j + 2) = 0) (K : LK hh l b L xs j i) : LW hh l b L xs k n 664 [(0, .ref 99), (1, .ref 0), (2, .ref 61), (3, .ref 73), (4, .int i)] [] (wl mi ml) := by
  have e1 : (i + 1).toInt = ((4 * j + 1 : Nat) : Int) := (tI_add hi (show (1 : Int32).toInt = 1 from rfl) (by omega)).trans (by omega)
  have e2 : (i + 2).toInt = ((4 * j + 2 : Nat) : Int) := (tI_add hi (show (2 : Int32).toInt = 2 from rfl) (by omega)).trans (by omega)
  have e3 : (i + 3).toInt = ((4 * j + 3 : Nat) : Int) := (tI_add hi (show (3 : Int32).toInt = 3 from rfl) (by omega)).trans (by omega)
  have wn := wf_n R.1
  have wm := wf_m R.1
  have wt := wf_t R.1
  obtain ⟨np, nz, nz2, nN, nN2, nT⟩ := R.nums
  have w4 := R.1.1.2.2.2.2
  have hsp : (mi 62 4).toInt = (((mi 62 4).toInt.toNat : Nat) : Int) := by omega
  have hs1 : 1 ≤ (mi 62 4).toInt.toNat := by omega
  have hs10 : (mi 62 4).toInt.toNat ≤ 10 := by omega
  unfold LK at K
  refine EZ_aload_n 1 dL_law_664 rfl rfl ?_
  refine EZ_aload_n 0 dL_law_665 rfl rfl ?_
  refine EZ_iload 4 dL_law_666 rfl ?_
  refine EZ_iconst 1 (by decide) dL_law_668 ?_
  refine EZ_iadd dL_law_669 ?_
  refine L_ld (4 * j + 1) e1 (by omega) dL_law_670 ?_
  refine EZ_aload_n 0 dL_law_671 rfl rfl ?_
  refine EZ_iload 4 dL_law_672 rfl ?_
  refine EZ_iconst 2 (by decide) dL_law_674 ?_
  refine EZ_iadd dL_law_675 ?_
  refine L_ld (4 * j + 2) e2 (by omega) dL_law_676 ?_
  refine EZ_if_eq 684 dL_law_677 (by decide) (fun q => absurd q hb) (fun _ => ?_)
  refine EZ_iconst 1 (by decide) dL_law_680 ?_
  refine EZ_goto 685 dL_law_681 (by decide) ?_
  refine EZ_aload_n 3 dL_law_685 rfl rfl ?_
  refine L_callH (h_L_carrier l hfl mi ml (mi 62) R.1 R.2.1 (nV (mi 62)) wn.1 wn.2 _ _ rfl _ True (b1 trivial)) cwH_130 (As := [.ref 0, .int (xs (4 * j + 1)), .int 1, .ref 73]) (st := []) rfl ⟨Nat.le_of_ble_eq_true rfl, Nat.le_of_ble_eq_true rfl, (show k + 1 ≤ 601024 by omega), (show n + 6 ≤ 7293034 by omega)⟩ (Nat.le_of_ble_eq_true rfl) dL_law_686 rfl (L_kQ (fun r mi1 ml1 h => ?_))
  refine EZ_istore [(5, .int r), (0, .ref 99), (1, .ref 0), (2, .ref 61), (3, .ref 73), (4, .int i)] dL_law_689 (by decide) rfl ?_
  refine EZ_aload_n 3 dL_law_691 rfl rfl ?_
  refine EZ_aload_n 1 dL_law_692 rfl rfl ?_
  refine EZ_iload 5 dL_law_693 rfl ?_
  refine EZ_iconst 1 (by decide) dL_law_695 ?_
  refine EZ_iadd dL_law_696 ?_
  refine L_ld (4 * j + 1) e1 (by omega) dL_law_697 ?_
  refine EZ_aload_n 1 dL_law_698 rfl rfl ?_
  refine EZ_iload 5 dL_law_699 rfl ?_
  refine EZ_iconst 2 (by decide) dL_law_701 ?_
  refine EZ_iadd dL_law_702 ?_
  refine L_ld (4 * j + 2) e2 (by omega) dL_law_703 ?_
  refine EZ_if_eq 711 dL_law_704 (by decide) (fun q => absurd q hb) (fun _ => ?_)
  refine EZ_iconst 1 (by decide) dL_law_707 ?_
  refine EZ_goto 712 dL_law_708 (by decide) ?_
  refine EZ_callV (b_carrier l hfl R _ _ rfl _ True (b1 trivial) r h) cw_L_133 (As := [.int (xs (4 * j + 1)), .int 1]) (st := []) wi_yX6_carrier we_yX6_carrier (ci := 6) (q := (RX6, TX6, 23)) rfl rfl (wl_atO tw_61) rfl ⟨Nat.le_of_ble_eq_true rfl, Nat.le_of_ble_eq_true rfl, (show (k + 1) + 0 ≤ 601024 by omega), (show (n + 6) + 0 ≤ 7293034 by omega)⟩ (Nat.le_of_ble_eq_true rfl) dL_law_712 (fun _ _ q => q) rfl (zkI (fun b2 mi2 ml2 h2 => ?_))
  refine EZ_istore [(6, .int b2), (5, .int r), (0, .ref 99), (1, .ref 0), (2, .ref 61), (3, .ref 73), (4, .int i)] dL_law_715 (by decide) rfl ?_
  refine EZ_aload_n 4 dL_law_717 rfl rfl ?_
  refine EZ_callV (c_X6_thrown l hfl mi2 ml2) cw_L_107 (As := []) (st := []) wi_yX6_thrown we_yX6_thrown (ci := 6) (q := (RX6, TX6, 23)) rfl rfl (wl_atO tw_61) rfl ⟨Nat.le_of_ble_eq_true rfl, Nat.le_of_ble_eq_true rfl, (show ((k + 1) + 0) + 0 ≤ 601024 by omega), (show ((n + 6) + 0) + 0 ≤ 7293034 by omega)⟩ (Nat.le_of_ble_eq_true rfl) dL_law_718 (fun _ _ q => q) rfl (zkE ?_)
  refine EZ_iload 1 dL_law_721 rfl ?_
  refine EZ_icmp_eq 728 dL_law_723 (by decide) (fun _ => ?_) (fun q => absurd h2.2.1 q)
  refine EZ_iload 1 dL_law_728 rfl ?_
  refine EZ_if_ne 745 dL_law_730 (by decide) (fun _ => ?_) (fun hr => ?_)
  · refine EZ_goto 1999 dL_law_745 (by decide) ?_
    refine EZ_sub [2, 3, 4, 5, 6] rfl ?_
    exact K _ _ mi2 ml2 (by omega) (by omega) h2.1
  · refine EZ_aload_n 5 dL_law_733 rfl rfl ?_
    refine EZ_iconst 0 (by decide) dL_law_734 ?_
    refine SZ_lald 0 _ tw_73 rfl (by decide) (h2.2.2 hr) dL_law_735 ?_
    refine EZ_iload 0 dL_law_736 rfl ?_
    refine EZ_i2l dL_law_738 ?_
    refine EZ_lcmp dL_law_739 ?_
    refine EZ_if_eq 745 dL_law_740 (by decide) (fun _ => ?_) (fun q => absurd ((lg_cmp_eq _ _).mpr rfl) q)
    refine EZ_goto 1999 dL_law_745 (by decide) ?_
    refine EZ_sub [2, 3, 4, 5, 6] rfl ?_
    exact K _ _ mi2 ml2 (by omega) (by omega) h2.1
set_option maxRecDepth 100000 in
theorem lw_c8 (l : Launch) (hfl : l.stackTraces = false) {hh : List ExceptionTableEntry} {b L : Nat} {xs : Nat → Int32} {j : Nat} {i : Int32} (hi : i.toInt = ((4 * j : Nat) : Int)) (hj : 4 * j + 4 ≤ L) (hL : L ≤ 2048) {k n : Nat} (hk : k ≤ 5000 + 1000 * j) (hn : n ≤ 10000 + 10000 * j) {mi : MI} {ml : MJ} (R : Rel mi ml) (K : LK hh l b L xs j i) : LW hh l b L xs k n 748 [(0, .ref 99), (1, .ref 0), (2, .ref 61), (3, .ref 73), (4, .int i)] [] (wl mi ml) := by
  have e1 : (i + 1).toInt = ((4 * j + 1 : Nat) : Int) := (tI_add hi (show (1 : Int32).toInt = 1 from rfl) (by omega)).trans (by omega)
  have e2 : (i + 2).toInt = ((4 * j + 2 : Nat) : Int) := (tI_add hi (show (2 : Int32).toInt = 2 from rfl) (by omega)).trans (by omega)
  have e3 : (i + 3).toInt = ((4 * j + 3 : Nat) : Int) := (tI_add hi (show (3 : Int32).toInt = 3 from rfl) (by omega)).trans (by omega)
  have wn := wf_n R.1
  have wm := wf_m R.1
  have wt := wf_t R.1
  obtain ⟨np, nz, nz2, nN, nN2, nT⟩ := R.nums
  have w4 := R.1.1.2.2.2.2
  have hsp : (mi 62 4).toInt = (((mi 62 4).toInt.toNat : Nat) : Int) := by omega
  have hs1 : 1 ≤ (mi 62 4).toInt.toNat := by omega
  have hs10 : (mi 62 4).toInt.toNat ≤ 10 := by omega
  unfold LK at K
  refine EZ_aload_n 1 dL_law_748 rfl rfl ?_
  refine EZ_callV (c_X5_channels l hfl mi ml (mi 62) R.1 R.2.1 (nV (mi 62)) wn.1 wn.2) cw_L_134 (As := []) (st := []) wi_yX5_channels we_yX5_channels (ci := 5) (q := (RX5, TX5, 7)) rfl rfl (wl_atO tw_0) rfl ⟨Nat.le_of_ble_eq_true rfl, Nat.le_of_ble_eq_true rfl, (show k + 0 ≤ 601024 by omega), (show n + 0 ≤ 7293034 by omega)⟩ (Nat.le_of_ble_eq_true rfl) dL_law_749 (fun _ _ q => q) rfl (zkE ?_)
  refine EZ_aload_n 2 dL_law_752 rfl rfl ?_
  refine EZ_callV (d_channels l hfl R ) cw_L_138 (As := []) (st := [.long (chS (fun j => mi 62 (6 + 2 * j)) (nV (mi 62)))]) wi_yX6_channels we_yX6_channels (ci := 6) (q := (RX6, TX6, 23)) rfl rfl (wl_atO tw_61) rfl ⟨Nat.le_of_ble_eq_true rfl, Nat.le_of_ble_eq_true rfl, (show (k + 0) + 0 ≤ 601024 by omega), (show (n + 0) + 0 ≤ 7293034 by omega)⟩ (Nat.le_of_ble_eq_true rfl) dL_law_753 (fun _ _ q => q) rfl (zkJ (fun b2 mi2 ml2 h2 => ?_))
  refine EZ_lcmp dL_law_756 ?_
  refine EZ_if_eq 1999 dL_law_757 (by decide) (fun _ => ?_) (fun q => absurd ((lg_cmp_eq _ _).mpr h2.2) q)
  exact K _ _ mi2 ml2 (by omega) (by omega) h2.1
set_option maxRecDepth 100000 in
theorem lw_c9 (l : Launch) (hfl : l.stackTraces = false) {hh : List ExceptionTableEntry} {b L : Nat} {xs : Nat → Int32} {j : Nat} {i : Int32} (hi : i.toInt = ((4 * j : Nat) : Int)) (hj : 4 * j + 4 ≤ L) (hL : L ≤ 2048) {k n : Nat} (hk : k ≤ 5000 + 1000 * j) (hn : n ≤ 10000 + 10000 * j) {mi : MI} {ml : MJ} (R : Rel mi ml) (K : LK hh l b L xs j i) : LW hh l b L xs k n 762 [(0, .ref 99), (1, .ref 0), (2, .ref 61), (3, .ref 73), (4, .int i)] [] (wl mi ml) := by
  have e1 : (i + 1).toInt = ((4 * j + 1 : Nat) : Int) := (tI_add hi (show (1 : Int32).toInt = 1 from rfl) (by omega)).trans (by omega)
  have e2 : (i + 2).toInt = ((4 * j + 2 : Nat) : Int) := (tI_add hi (show (2 : Int32).toInt = 2 from rfl) (by omega)).trans (by omega)
  have e3 : (i + 3).toInt = ((4 * j + 3 : Nat) : Int) := (tI_add hi (show (3 : Int32).toInt = 3 from rfl) (by omega)).trans (by omega)
  have wn := wf_n R.1
  have wm := wf_m R.1
  have wt := wf_t R.1
  obtain ⟨np, nz, nz2, nN, nN2, nT⟩ := R.nums
  have w4 := R.1.1.2.2.2.2
  have hsp : (mi 62 4).toInt = (((mi 62 4).toInt.toNat : Nat) : Int) := by omega
  have hs1 : 1 ≤ (mi 62 4).toInt.toNat := by omega
  have hs10 : (mi 62 4).toInt.toNat ≤ 10 := by omega
  unfold LK at K
  refine EZ_aload_n 1 dL_law_762 rfl rfl ?_
  refine EZ_callV (c_X5_products l hfl mi ml (mi 62) R.1 R.2.1 (nV (mi 62)) wn.1 wn.2) cw_L_139 (As := []) (st := []) wi_yX5_products we_yX5_products (ci := 5) (q := (RX5, TX5, 7)) rfl rfl (wl_atO tw_0) rfl ⟨Nat.le_of_ble_eq_true rfl, Nat.le_of_ble_eq_true rfl, (show k + 0 ≤ 601024 by omega), (show n + 0 ≤ 7293034 by omega)⟩ (Nat.le_of_ble_eq_true rfl) dL_law_763 (fun _ _ q => q) rfl (zkI (fun a9 mi1 ml1 h => ?_))
  refine EZ_aload_n 2 dL_law_766 rfl rfl ?_
  refine EZ_callV (d_products l hfl R  a9 h) cw_L_142 (As := []) (st := [.int a9]) wi_yX6_products we_yX6_products (ci := 6) (q := (RX6, TX6, 23)) rfl rfl (wl_atO tw_61) rfl ⟨Nat.le_of_ble_eq_true rfl, Nat.le_of_ble_eq_true rfl, (show (k + 0) + 0 ≤ 601024 by omega), (show (n + 0) + 0 ≤ 7293034 by omega)⟩ (Nat.le_of_ble_eq_true rfl) dL_law_767 (fun _ _ q => q) rfl (zkI (fun b2 mi2 ml2 h2 => ?_))
  refine EZ_icmp_eq 1999 dL_law_770 (by decide) (fun _ => ?_) (fun q => absurd h2.2 q)
  exact K _ _ mi2 ml2 (by omega) (by omega) h2.1
set_option maxRecDepth 100000 in
theorem lw_c10 (l : Launch) (hfl : l.stackTraces = false) {hh : List ExceptionTableEntry} {b L : Nat} {xs : Nat → Int32} {j : Nat} {i : Int32} (hi : i.toInt = ((4 * j : Nat) : Int)) (hj : 4 * j + 4 ≤ L) (hL : L ≤ 2048) {k n : Nat} (hk : k ≤ 5000 + 1000 * j) (hn : n ≤ 10000 + 10000 * j) {mi : MI} {ml : MJ} (R : Rel mi ml) (K : LK hh l b L xs j i) : LW hh l b L xs k n 775 [(0, .ref 99), (1, .ref 0), (2, .ref 61), (3, .ref 73), (4, .int i)] [] (wl mi ml) := by
  have e1 : (i + 1).toInt = ((4 * j + 1 : Nat) : Int) := (tI_add hi (show (1 : Int32).toInt = 1 from rfl) (by omega)).trans (by omega)
  have e2 : (i + 2).toInt = ((4 * j + 2 : Nat) : Int) := (tI_add hi (show (2 : Int32).toInt = 2 from rfl) (by omega)).trans (by omega)
  have e3 : (i + 3).toInt = ((4 * j + 3 : Nat) : Int) := (tI_add hi (show (3 : Int32).toInt = 3 from rfl) (by omega)).trans (by omega)
  have wn := wf_n R.1
  have wm := wf_m R.1
  have wt := wf_t R.1
  obtain ⟨np, nz, nz2, nN, nN2, nT⟩ := R.nums
  have w4 := R.1.1.2.2.2.2
  have hsp : (mi 62 4).toInt = (((mi 62 4).toInt.toNat : Nat) : Int) := by omega
  have hs1 : 1 ≤ (mi 62 4).toInt.toNat := by omega
  have hs10 : (mi 62 4).toInt.toNat ≤ 10 := by omega
  unfold LK at K
  refine EZ_aload_n 1 dL_law_775 rfl rfl ?_
  refine EZ_aload_n 0 dL_law_776 rfl rfl ?_
  refine EZ_iload 4 dL_law_777 rfl ?_
  refine EZ_iconst 1 (by decide) dL_law_779 ?_
  refine EZ_iadd dL_law_780 ?_
  refine L_ld (4 * j + 1) e1 (by omega) dL_law_781 ?_
  refine EZ_aload_n 0 dL_law_782 rfl rfl ?_
  refine EZ_iload 4 dL_law_783 rfl ?_
  refine EZ_iconst 2 (by decide) dL_law_785 ?_
  refine EZ_iadd dL_law_786 ?_
  refine L_ld (4 * j + 2) e2 (by omega) dL_law_787 ?_
  refine EZ_aload_n 3 dL_law_788 rfl rfl ?_
  refine L_callH (h_L_product l hfl mi ml (mi 62) R.1 R.2.1 (nV (mi 62)) wn.1 wn.2 _ _ _ _ rfl rfl) cwH_143 (As := [.ref 0, .int (xs (4 * j + 1)), .int (xs (4 * j + 2)), .ref 73]) (st := []) rfl ⟨Nat.le_of_ble_eq_true rfl, Nat.le_of_ble_eq_true rfl, (show k + 1 ≤ 601024 by omega), (show n + 6 ≤ 7293034 by omega)⟩ (Nat.le_of_ble_eq_true rfl) dL_law_789 rfl (L_kQ (fun r mi1 ml1 h => ?_))
  refine EZ_istore [(5, .int r), (0, .ref 99), (1, .ref 0), (2, .ref 61), (3, .ref 73), (4, .int i)] dL_law_792 (by decide) rfl ?_
  refine EZ_aload_n 3 dL_law_794 rfl rfl ?_
  refine EZ_aload_n 1 dL_law_795 rfl rfl ?_
  refine EZ_iload 5 dL_law_796 rfl ?_
  refine EZ_iconst 1 (by decide) dL_law_798 ?_
  refine EZ_iadd dL_law_799 ?_
  refine L_ld (4 * j + 1) e1 (by omega) dL_law_800 ?_
  refine EZ_aload_n 1 dL_law_801 rfl rfl ?_
  refine EZ_iload 5 dL_law_802 rfl ?_
  refine EZ_iconst 2 (by decide) dL_law_804 ?_
  refine EZ_iadd dL_law_805 ?_
  refine L_ld (4 * j + 2) e2 (by omega) dL_law_806 ?_
  refine EZ_callV (b_product l hfl R _ _ _ _ rfl rfl r h) cw_L_145 (As := [.int (xs (4 * j + 1)), .int (xs (4 * j + 2))]) (st := []) wi_yX6_product we_yX6_product (ci := 6) (q := (RX6, TX6, 23)) rfl rfl (wl_atO tw_61) rfl ⟨Nat.le_of_ble_eq_true rfl, Nat.le_of_ble_eq_true rfl, (show (k + 1) + 0 ≤ 601024 by omega), (show (n + 6) + 0 ≤ 7293034 by omega)⟩ (Nat.le_of_ble_eq_true rfl) dL_law_807 (fun _ _ q => q) rfl (zkI (fun b2 mi2 ml2 h2 => ?_))
  refine EZ_istore [(6, .int b2), (5, .int r), (0, .ref 99), (1, .ref 0), (2, .ref 61), (3, .ref 73), (4, .int i)] dL_law_810 (by decide) rfl ?_
  refine EZ_aload_n 4 dL_law_812 rfl rfl ?_
  refine EZ_callV (c_X6_thrown l hfl mi2 ml2) cw_L_107 (As := []) (st := []) wi_yX6_thrown we_yX6_thrown (ci := 6) (q := (RX6, TX6, 23)) rfl rfl (wl_atO tw_61) rfl ⟨Nat.le_of_ble_eq_true rfl, Nat.le_of_ble_eq_true rfl, (show ((k + 1) + 0) + 0 ≤ 601024 by omega), (show ((n + 6) + 0) + 0 ≤ 7293034 by omega)⟩ (Nat.le_of_ble_eq_true rfl) dL_law_813 (fun _ _ q => q) rfl (zkE ?_)
  refine EZ_iload 1 dL_law_816 rfl ?_
  refine EZ_icmp_eq 823 dL_law_818 (by decide) (fun _ => ?_) (fun q => absurd h2.2.1 q)
  refine EZ_iload 1 dL_law_823 rfl ?_
  refine EZ_if_ne 840 dL_law_825 (by decide) (fun _ => ?_) (fun hr => ?_)
  · refine EZ_goto 1999 dL_law_840 (by decide) ?_
    refine EZ_sub [2, 3, 4, 5, 6] rfl ?_
    exact K _ _ mi2 ml2 (by omega) (by omega) h2.1
  · refine EZ_aload_n 5 dL_law_828 rfl rfl ?_
    refine EZ_iconst 0 (by decide) dL_law_829 ?_
    refine SZ_lald 0 _ tw_73 rfl (by decide) (h2.2.2 hr) dL_law_830 ?_
    refine EZ_iload 0 dL_law_831 rfl ?_
    refine EZ_i2l dL_law_833 ?_
    refine EZ_lcmp dL_law_834 ?_
    refine EZ_if_eq 840 dL_law_835 (by decide) (fun _ => ?_) (fun q => absurd ((lg_cmp_eq _ _).mpr rfl) q)
    refine EZ_goto 1999 dL_law_840 (by decide) ?_
    refine EZ_sub [2, 3, 4, 5, 6] rfl ?_
    exact K _ _ mi2 ml2 (by omega) (by omega) h2.1
set_option maxRecDepth 100000 in
theorem lw_c11 (l : Launch) (hfl : l.stackTraces = false) {hh : List ExceptionTableEntry} {b L : Nat} {xs : Nat → Int32} {j : Nat} {i : Int32} (hi : i.toInt = ((4 * j : Nat) : Int)) (hj : 4 * j + 4 ≤ L) (hL : L ≤ 2048) {k n : Nat} (hk : k ≤ 5000 + 1000 * j) (hn : n ≤ 10000 + 10000 * j) {mi : MI} {ml : MJ} (R : Rel mi ml) (K : LK hh l b L xs j i) : LW hh l b L xs k n 843 [(0, .ref 99), (1, .ref 0), (2, .ref 61), (3, .ref 73), (4, .int i)] [] (wl mi ml) := by
  have e1 : (i + 1).toInt = ((4 * j + 1 : Nat) : Int) := (tI_add hi (show (1 : Int32).toInt = 1 from rfl) (by omega)).trans (by omega)
  have e2 : (i + 2).toInt = ((4 * j + 2 : Nat) : Int) := (tI_add hi (show (2 : Int32).toInt = 2 from rfl) (by omega)).trans (by omega)
  have e3 : (i + 3).toInt = ((4 * j + 3 : Nat) : Int) := (tI_add hi (show (3 : Int32).toInt = 3 from rfl) (by omega)).trans (by omega)
  have wn := wf_n R.1
  have wm := wf_m R.1
  have wt := wf_t R.1
  obtain ⟨np, nz, nz2, nN, nN2, nT⟩ := R.nums
  have w4 := R.1.1.2.2.2.2
  have hsp : (mi 62 4).toInt = (((mi 62 4).toInt.toNat : Nat) : Int) := by omega
  have hs1 : 1 ≤ (mi 62 4).toInt.toNat := by omega
  have hs10 : (mi 62 4).toInt.toNat ≤ 10 := by omega
  unfold LK at K
  refine EZ_aload_n 1 dL_law_843 rfl rfl ?_
  refine EZ_aload_n 0 dL_law_844 rfl rfl ?_
  refine EZ_iload 4 dL_law_845 rfl ?_
  refine EZ_iconst 1 (by decide) dL_law_847 ?_
  refine EZ_iadd dL_law_848 ?_
  refine L_ld (4 * j + 1) e1 (by omega) dL_law_849 ?_
  refine EZ_aload_n 3 dL_law_850 rfl rfl ?_
  refine L_callH (h_L_fallout l hfl mi ml (mi 62) R.1 R.2.1 (nV (mi 62)) wn.1 wn.2 _ _ rfl) cwH_146 (As := [.ref 0, .int (xs (4 * j + 1)), .ref 73]) (st := []) rfl ⟨Nat.le_of_ble_eq_true rfl, Nat.le_of_ble_eq_true rfl, (show k + 1 ≤ 601024 by omega), (show n + 6 ≤ 7293034 by omega)⟩ (Nat.le_of_ble_eq_true rfl) dL_law_851 rfl (L_kJ (fun r mi1 ml1 h => ?_))
  refine EZ_istore [(5, .int r), (0, .ref 99), (1, .ref 0), (2, .ref 61), (3, .ref 73), (4, .int i)] dL_law_854 (by decide) rfl ?_
  refine EZ_aload_n 3 dL_law_856 rfl rfl ?_
  refine EZ_aload_n 1 dL_law_857 rfl rfl ?_
  refine EZ_iload 5 dL_law_858 rfl ?_
  refine EZ_iconst 1 (by decide) dL_law_860 ?_
  refine EZ_iadd dL_law_861 ?_
  refine L_ld (4 * j + 1) e1 (by omega) dL_law_862 ?_
  refine EZ_callV (b_fallout l hfl R _ _ rfl r h) cw_L_148 (As := [.int (xs (4 * j + 1))]) (st := []) wi_yX6_fallout we_yX6_fallout (ci := 6) (q := (RX6, TX6, 23)) rfl rfl (wl_atO tw_61) rfl ⟨Nat.le_of_ble_eq_true rfl, Nat.le_of_ble_eq_true rfl, (show (k + 1) + 0 ≤ 601024 by omega), (show (n + 6) + 0 ≤ 7293034 by omega)⟩ (Nat.le_of_ble_eq_true rfl) dL_law_863 (fun _ _ q => q) rfl (zkJ (fun b2 mi2 ml2 h2 => ?_))
  refine EZ_lstore [(6, .long b2), (5, .int r), (0, .ref 99), (1, .ref 0), (2, .ref 61), (3, .ref 73), (4, .int i)] dL_law_866 (by decide) rfl ?_
  refine EZ_aload_n 4 dL_law_868 rfl rfl ?_
  refine EZ_callV (c_X6_thrown l hfl mi2 ml2) cw_L_107 (As := []) (st := []) wi_yX6_thrown we_yX6_thrown (ci := 6) (q := (RX6, TX6, 23)) rfl rfl (wl_atO tw_61) rfl ⟨Nat.le_of_ble_eq_true rfl, Nat.le_of_ble_eq_true rfl, (show ((k + 1) + 0) + 0 ≤ 601024 by omega), (show ((n + 6) + 0) + 0 ≤ 7293034 by omega)⟩ (Nat.le_of_ble_eq_true rfl) dL_law_869 (fun _ _ q => q) rfl (zkE ?_)
  refine EZ_iload 1 dL_law_872 rfl ?_
  refine EZ_icmp_eq 879 dL_law_874 (by decide) (fun _ => ?_) (fun q => absurd h2.2.1 q)
  refine EZ_iload 1 dL_law_879 rfl ?_
  refine EZ_if_ne 895 dL_law_881 (by decide) (fun _ => ?_) (fun hr => ?_)
  · refine EZ_goto 1999 dL_law_895 (by decide) ?_
    refine EZ_sub [2, 3, 4, 5, 6] rfl ?_
    exact K _ _ mi2 ml2 (by omega) (by omega) h2.1
  · refine EZ_aload_n 5 dL_law_884 rfl rfl ?_
    refine EZ_iconst 0 (by decide) dL_law_885 ?_
    refine SZ_lald 0 _ tw_73 rfl (by decide) (h2.2.2 hr) dL_law_886 ?_
    refine EZ_lload 0 dL_law_887 rfl ?_
    refine EZ_lcmp dL_law_889 ?_
    refine EZ_if_eq 895 dL_law_890 (by decide) (fun _ => ?_) (fun q => absurd ((lg_cmp_eq _ _).mpr rfl) q)
    refine EZ_goto 1999 dL_law_895 (by decide) ?_
    refine EZ_sub [2, 3, 4, 5, 6] rfl ?_
    exact K _ _ mi2 ml2 (by omega) (by omega) h2.1
set_option maxRecDepth 100000 in
theorem lw_c12 (l : Launch) (hfl : l.stackTraces = false) {hh : List ExceptionTableEntry} {b L : Nat} {xs : Nat → Int32} {j : Nat} {i : Int32} (hi : i.toInt = ((4 * j : Nat) : Int)) (hj : 4 * j + 4 ≤ L) (hL : L ≤ 2048) {k n : Nat} (hk : k ≤ 5000 + 1000 * j) (hn : n ≤ 10000 + 10000 * j) {mi : MI} {ml : MJ} (R : Rel mi ml) (K : LK hh l b L xs j i) : LW hh l b L xs k n 898 [(0, .ref 99), (1, .ref 0), (2, .ref 61), (3, .ref 73), (4, .int i)] [] (wl mi ml) := by
  have e1 : (i + 1).toInt = ((4 * j + 1 : Nat) : Int) := (tI_add hi (show (1 : Int32).toInt = 1 from rfl) (by omega)).trans (by omega)
  have e2 : (i + 2).toInt = ((4 * j + 2 : Nat) : Int) := (tI_add hi (show (2 : Int32).toInt = 2 from rfl) (by omega)).trans (by omega)
  have e3 : (i + 3).toInt = ((4 * j + 3 : Nat) : Int) := (tI_add hi (show (3 : Int32).toInt = 3 from rfl) (by omega)).trans (by omega)
  have wn := wf_n R.1
  have wm := wf_m R.1
  have wt := wf_t R.1
  obtain ⟨np, nz, nz2, nN, nN2, nT⟩ := R.nums
  have w4 := R.1.1.2.2.2.2
  have hsp : (mi 62 4).toInt = (((mi 62 4).toInt.toNat : Nat) : Int) := by omega
  have hs1 : 1 ≤ (mi 62 4).toInt.toNat := by omega
  have hs10 : (mi 62 4).toInt.toNat ≤ 10 := by omega
  unfold LK at K
  refine EZ_aload_n 1 dL_law_898 rfl rfl ?_
  refine EZ_callV (c_X5_hits l hfl mi ml (mi 62) R.1 R.2.1 (nV (mi 62)) wn.1 wn.2) cw_L_149 (As := []) (st := []) wi_yX5_hits we_yX5_hits (ci := 5) (q := (RX5, TX5, 7)) rfl rfl (wl_atO tw_0) rfl ⟨Nat.le_of_ble_eq_true rfl, Nat.le_of_ble_eq_true rfl, (show k + 0 ≤ 601024 by omega), (show n + 0 ≤ 7293034 by omega)⟩ (Nat.le_of_ble_eq_true rfl) dL_law_899 (fun _ _ q => q) rfl (zkI (fun a9 mi1 ml1 h => ?_))
  refine EZ_aload_n 2 dL_law_902 rfl rfl ?_
  refine EZ_callV (d_hits l hfl R  a9 h) cw_L_152 (As := []) (st := [.int a9]) wi_yX6_hits we_yX6_hits (ci := 6) (q := (RX6, TX6, 23)) rfl rfl (wl_atO tw_61) rfl ⟨Nat.le_of_ble_eq_true rfl, Nat.le_of_ble_eq_true rfl, (show (k + 0) + 0 ≤ 601024 by omega), (show (n + 0) + 0 ≤ 7293034 by omega)⟩ (Nat.le_of_ble_eq_true rfl) dL_law_903 (fun _ _ q => q) rfl (zkI (fun b2 mi2 ml2 h2 => ?_))
  refine EZ_icmp_eq 1999 dL_law_906 (by decide) (fun _ => ?_) (fun q => absurd h2.2 q)
  exact K _ _ mi2 ml2 (by omega) (by omega) h2.1
set_option maxRecDepth 100000 in
theorem lw_c13 (l : Launch) (hfl : l.stackTraces = false) {hh : List ExceptionTableEntry} {b L : Nat} {xs : Nat → Int32} {j : Nat} {i : Int32} (hi : i.toInt = ((4 * j : Nat) : Int)) (hj : 4 * j + 4 ≤ L) (hL : L ≤ 2048) {k n : Nat} (hk : k ≤ 5000 + 1000 * j) (hn : n ≤ 10000 + 10000 * j) {mi : MI} {ml : MJ} (R : Rel mi ml) (K : LK hh l b L xs j i) : LW hh l b L xs k n 911 [(0, .ref 99), (1, .ref 0), (2, .ref 61), (3, .ref 73), (4, .int i)] [] (wl mi ml) := by
  have e1 : (i + 1).toInt = ((4 * j + 1 : Nat) : Int) := (tI_add hi (show (1 : Int32).toInt = 1 from rfl) (by omega)).trans (by omega)
  have e2 : (i + 2).toInt = ((4 * j + 2 : Nat) : Int) := (tI_add hi (show (2 : Int32).toInt = 2 from rfl) (by omega)).trans (by omega)
  have e3 : (i + 3).toInt = ((4 * j + 3 : Nat) : Int) := (tI_add hi (show (3 : Int32).toInt = 3 from rfl) (by omega)).trans (by omega)
  have wn := wf_n R.1
  have wm := wf_m R.1
  have wt := wf_t R.1
  obtain ⟨np, nz, nz2, nN, nN2, nT⟩ := R.nums
  have w4 := R.1.1.2.2.2.2
  have hsp : (mi 62 4).toInt = (((mi 62 4).toInt.toNat : Nat) : Int) := by omega
  have hs1 : 1 ≤ (mi 62 4).toInt.toNat := by omega
  have hs10 : (mi 62 4).toInt.toNat ≤ 10 := by omega
  unfold LK at K
  refine EZ_aload_n 1 dL_law_911 rfl rfl ?_
  refine EZ_aload_n 0 dL_law_912 rfl rfl ?_
  refine EZ_iload 4 dL_law_913 rfl ?_
  refine EZ_iconst 1 (by decide) dL_law_915 ?_
  refine EZ_iadd dL_law_916 ?_
  refine L_ld (4 * j + 1) e1 (by omega) dL_law_917 ?_
  refine EZ_aload_n 3 dL_law_918 rfl rfl ?_
  refine L_callH (h_L_hitsOn l hfl mi ml (mi 62) R.1 R.2.1 (nV (mi 62)) wn.1 wn.2 _ _ rfl) cwH_153 (As := [.ref 0, .int (xs (4 * j + 1)), .ref 73]) (st := []) rfl ⟨Nat.le_of_ble_eq_true rfl, Nat.le_of_ble_eq_true rfl, (show k + 1 ≤ 601024 by omega), (show n + 6 ≤ 7293034 by omega)⟩ (Nat.le_of_ble_eq_true rfl) dL_law_919 rfl (L_kQ (fun r mi1 ml1 h => ?_))
  refine EZ_istore [(5, .int r), (0, .ref 99), (1, .ref 0), (2, .ref 61), (3, .ref 73), (4, .int i)] dL_law_922 (by decide) rfl ?_
  refine EZ_aload_n 3 dL_law_924 rfl rfl ?_
  refine EZ_aload_n 1 dL_law_925 rfl rfl ?_
  refine EZ_iload 5 dL_law_926 rfl ?_
  refine EZ_iconst 1 (by decide) dL_law_928 ?_
  refine EZ_iadd dL_law_929 ?_
  refine L_ld (4 * j + 1) e1 (by omega) dL_law_930 ?_
  refine EZ_callV (b_hitsOn l hfl R _ _ rfl r h) cw_L_155 (As := [.int (xs (4 * j + 1))]) (st := []) wi_yX6_hitsOn we_yX6_hitsOn (ci := 6) (q := (RX6, TX6, 23)) rfl rfl (wl_atO tw_61) rfl ⟨Nat.le_of_ble_eq_true rfl, Nat.le_of_ble_eq_true rfl, (show (k + 1) + 0 ≤ 601024 by omega), (show (n + 6) + 0 ≤ 7293034 by omega)⟩ (Nat.le_of_ble_eq_true rfl) dL_law_931 (fun _ _ q => q) rfl (zkI (fun b2 mi2 ml2 h2 => ?_))
  refine EZ_istore [(6, .int b2), (5, .int r), (0, .ref 99), (1, .ref 0), (2, .ref 61), (3, .ref 73), (4, .int i)] dL_law_934 (by decide) rfl ?_
  refine EZ_aload_n 4 dL_law_936 rfl rfl ?_
  refine EZ_callV (c_X6_thrown l hfl mi2 ml2) cw_L_107 (As := []) (st := []) wi_yX6_thrown we_yX6_thrown (ci := 6) (q := (RX6, TX6, 23)) rfl rfl (wl_atO tw_61) rfl ⟨Nat.le_of_ble_eq_true rfl, Nat.le_of_ble_eq_true rfl, (show ((k + 1) + 0) + 0 ≤ 601024 by omega), (show ((n + 6) + 0) + 0 ≤ 7293034 by omega)⟩ (Nat.le_of_ble_eq_true rfl) dL_law_937 (fun _ _ q => q) rfl (zkE ?_)
  refine EZ_iload 1 dL_law_940 rfl ?_
  refine EZ_icmp_eq 947 dL_law_942 (by decide) (fun _ => ?_) (fun q => absurd h2.2.1 q)
  refine EZ_iload 1 dL_law_947 rfl ?_
  refine EZ_if_ne 964 dL_law_949 (by decide) (fun _ => ?_) (fun hr => ?_)
  · refine EZ_goto 1999 dL_law_964 (by decide) ?_
    refine EZ_sub [2, 3, 4, 5, 6] rfl ?_
    exact K _ _ mi2 ml2 (by omega) (by omega) h2.1
  · refine EZ_aload_n 5 dL_law_952 rfl rfl ?_
    refine EZ_iconst 0 (by decide) dL_law_953 ?_
    refine SZ_lald 0 _ tw_73 rfl (by decide) (h2.2.2 hr) dL_law_954 ?_
    refine EZ_iload 0 dL_law_955 rfl ?_
    refine EZ_i2l dL_law_957 ?_
    refine EZ_lcmp dL_law_958 ?_
    refine EZ_if_eq 964 dL_law_959 (by decide) (fun _ => ?_) (fun q => absurd ((lg_cmp_eq _ _).mpr rfl) q)
    refine EZ_goto 1999 dL_law_964 (by decide) ?_
    refine EZ_sub [2, 3, 4, 5, 6] rfl ?_
    exact K _ _ mi2 ml2 (by omega) (by omega) h2.1
set_option maxRecDepth 100000 in
theorem lw_c14 (l : Launch) (hfl : l.stackTraces = false) {hh : List ExceptionTableEntry} {b L : Nat} {xs : Nat → Int32} {j : Nat} {i : Int32} (hi : i.toInt = ((4 * j : Nat) : Int)) (hj : 4 * j + 4 ≤ L) (hL : L ≤ 2048) {k n : Nat} (hk : k ≤ 5000 + 1000 * j) (hn : n ≤ 10000 + 10000 * j) {mi : MI} {ml : MJ} (R : Rel mi ml) (K : LK hh l b L xs j i) : LW hh l b L xs k n 967 [(0, .ref 99), (1, .ref 0), (2, .ref 61), (3, .ref 73), (4, .int i)] [] (wl mi ml) := by
  have e1 : (i + 1).toInt = ((4 * j + 1 : Nat) : Int) := (tI_add hi (show (1 : Int32).toInt = 1 from rfl) (by omega)).trans (by omega)
  have e2 : (i + 2).toInt = ((4 * j + 2 : Nat) : Int) := (tI_add hi (show (2 : Int32).toInt = 2 from rfl) (by omega)).trans (by omega)
  have e3 : (i + 3).toInt = ((4 * j + 3 : Nat) : Int) := (tI_add hi (show (3 : Int32).toInt = 3 from rfl) (by omega)).trans (by omega)
  have wn := wf_n R.1
  have wm := wf_m R.1
  have wt := wf_t R.1
  obtain ⟨np, nz, nz2, nN, nN2, nT⟩ := R.nums
  have w4 := R.1.1.2.2.2.2
  have hsp : (mi 62 4).toInt = (((mi 62 4).toInt.toNat : Nat) : Int) := by omega
  have hs1 : 1 ≤ (mi 62 4).toInt.toNat := by omega
  have hs10 : (mi 62 4).toInt.toNat ≤ 10 := by omega
  unfold LK at K
  refine EZ_aload_n 1 dL_law_967 rfl rfl ?_
  refine EZ_callV (c_X5_isClean l hfl mi ml (mi 62) R.1 R.2.1 (nV (mi 62)) wn.1 wn.2 R.2.2.2.2) cw_L_156 (As := []) (st := []) wi_yX5_isClean we_yX5_isClean (ci := 5) (q := (RX5, TX5, 7)) rfl rfl (wl_atO tw_0) rfl ⟨Nat.le_of_ble_eq_true rfl, Nat.le_of_ble_eq_true rfl, (show k + 0 ≤ 601024 by omega), (show n + 0 ≤ 7293034 by omega)⟩ (Nat.le_of_ble_eq_true rfl) dL_law_968 (fun _ _ q => q) rfl (zkI (fun a9 mi1 ml1 h => ?_))
  refine EZ_aload_n 2 dL_law_971 rfl rfl ?_
  refine EZ_callV (d_isClean l hfl R  a9 h) cw_L_160 (As := []) (st := [.int a9]) wi_yX6_isClean we_yX6_isClean (ci := 6) (q := (RX6, TX6, 23)) rfl rfl (wl_atO tw_61) rfl ⟨Nat.le_of_ble_eq_true rfl, Nat.le_of_ble_eq_true rfl, (show (k + 0) + 0 ≤ 601024 by omega), (show (n + 0) + 0 ≤ 7293034 by omega)⟩ (Nat.le_of_ble_eq_true rfl) dL_law_972 (fun _ _ q => q) rfl (zkI (fun b2 mi2 ml2 h2 => ?_))
  refine EZ_icmp_eq 1999 dL_law_975 (by decide) (fun _ => ?_) (fun q => absurd h2.2 q)
  exact K _ _ mi2 ml2 (by omega) (by omega) h2.1
set_option maxRecDepth 100000 in
theorem lw_c15 (l : Launch) (hfl : l.stackTraces = false) {hh : List ExceptionTableEntry} {b L : Nat} {xs : Nat → Int32} {j : Nat} {i : Int32} (hi : i.toInt = ((4 * j : Nat) : Int)) (hj : 4 * j + 4 ≤ L) (hL : L ≤ 2048) {k n : Nat} (hk : k ≤ 5000 + 1000 * j) (hn : n ≤ 10000 + 10000 * j) {mi : MI} {ml : MJ} (R : Rel mi ml) (K : LK hh l b L xs j i) : LW hh l b L xs k n 980 [(0, .ref 99), (1, .ref 0), (2, .ref 61), (3, .ref 73), (4, .int i)] [] (wl mi ml) := by
  have e1 : (i + 1).toInt = ((4 * j + 1 : Nat) : Int) := (tI_add hi (show (1 : Int32).toInt = 1 from rfl) (by omega)).trans (by omega)
  have e2 : (i + 2).toInt = ((4 * j + 2 : Nat) : Int) := (tI_add hi (show (2 : Int32).toInt = 2 from rfl) (by omega)).trans (by omega)
  have e3 : (i + 3).toInt = ((4 * j + 3 : Nat) : Int) := (tI_add hi (show (3 : Int32).toInt = 3 from rfl) (by omega)).trans (by omega)
  have wn := wf_n R.1
  have wm := wf_m R.1
  have wt := wf_t R.1
  obtain ⟨np, nz, nz2, nN, nN2, nT⟩ := R.nums
  have w4 := R.1.1.2.2.2.2
  have hsp : (mi 62 4).toInt = (((mi 62 4).toInt.toNat : Nat) : Int) := by omega
  have hs1 : 1 ≤ (mi 62 4).toInt.toNat := by omega
  have hs10 : (mi 62 4).toInt.toNat ≤ 10 := by omega
  unfold LK at K
  refine EZ_aload_n 1 dL_law_980 rfl rfl ?_
  refine EZ_callV (c_X5_closest l hfl mi ml (mi 62) R.1 R.2.1 (nV (mi 62)) wn.1 wn.2) cw_L_161 (As := []) (st := []) wi_yX5_closest we_yX5_closest (ci := 5) (q := (RX5, TX5, 7)) rfl rfl (wl_atO tw_0) rfl ⟨Nat.le_of_ble_eq_true rfl, Nat.le_of_ble_eq_true rfl, (show k + 0 ≤ 601024 by omega), (show n + 0 ≤ 7293034 by omega)⟩ (Nat.le_of_ble_eq_true rfl) dL_law_981 (fun _ _ q => q) rfl (zkI (fun a9 mi1 ml1 h => ?_))
  refine EZ_aload_n 2 dL_law_984 rfl rfl ?_
  refine EZ_callV (d_closest l hfl R  a9 h) cw_L_164 (As := []) (st := [.int a9]) wi_yX6_closest we_yX6_closest (ci := 6) (q := (RX6, TX6, 23)) rfl rfl (wl_atO tw_61) rfl ⟨Nat.le_of_ble_eq_true rfl, Nat.le_of_ble_eq_true rfl, (show (k + 0) + 0 ≤ 601024 by omega), (show (n + 0) + 0 ≤ 7293034 by omega)⟩ (Nat.le_of_ble_eq_true rfl) dL_law_985 (fun _ _ q => q) rfl (zkI (fun b2 mi2 ml2 h2 => ?_))
  refine EZ_icmp_eq 1999 dL_law_988 (by decide) (fun _ => ?_) (fun q => absurd h2.2 q)
  exact K _ _ mi2 ml2 (by omega) (by omega) h2.1
set_option maxRecDepth 100000 in
theorem lw_c16 (l : Launch) (hfl : l.stackTraces = false) {hh : List ExceptionTableEntry} {b L : Nat} {xs : Nat → Int32} {j : Nat} {i : Int32} (hi : i.toInt = ((4 * j : Nat) : Int)) (hj : 4 * j + 4 ≤ L) (hL : L ≤ 2048) {k n : Nat} (hk : k ≤ 5000 + 1000 * j) (hn : n ≤ 10000 + 10000 * j) {mi : MI} {ml : MJ} (R : Rel mi ml) (K : LK hh l b L xs j i) : LW hh l b L xs k n 993 [(0, .ref 99), (1, .ref 0), (2, .ref 61), (3, .ref 73), (4, .int i)] [] (wl mi ml) := by
  have e1 : (i + 1).toInt = ((4 * j + 1 : Nat) : Int) := (tI_add hi (show (1 : Int32).toInt = 1 from rfl) (by omega)).trans (by omega)
  have e2 : (i + 2).toInt = ((4 * j + 2 : Nat) : Int) := (tI_add hi (show (2 : Int32).toInt = 2 from rfl) (by omega)).trans (by omega)
  have e3 : (i + 3).toInt = ((4 * j + 3 : Nat) : Int) := (tI_add hi (show (3 : Int32).toInt = 3 from rfl) (by omega)).trans (by omega)
  have wn := wf_n R.1
  have wm := wf_m R.1
  have wt := wf_t R.1
  obtain ⟨np, nz, nz2, nN, nN2, nT⟩ := R.nums
  have w4 := R.1.1.2.2.2.2
  have hsp : (mi 62 4).toInt = (((mi 62 4).toInt.toNat : Nat) : Int) := by omega
  have hs1 : 1 ≤ (mi 62 4).toInt.toNat := by omega
  have hs10 : (mi 62 4).toInt.toNat ≤ 10 := by omega
  unfold LK at K
  refine EZ_aload_n 1 dL_law_993 rfl rfl ?_
  refine EZ_callV (c_X5_removal l hfl mi ml (mi 62) R.1 R.2.1 (nV (mi 62)) wn.1 wn.2 R.2.2.2.2) cw_L_165 (As := []) (st := []) wi_yX5_removal we_yX5_removal (ci := 5) (q := (RX5, TX5, 7)) rfl rfl (wl_atO tw_0) rfl ⟨Nat.le_of_ble_eq_true rfl, Nat.le_of_ble_eq_true rfl, (show k + 0 ≤ 601024 by omega), (show n + 0 ≤ 7293034 by omega)⟩ (Nat.le_of_ble_eq_true rfl) dL_law_994 (fun _ _ q => q) rfl (zkI (fun a9 mi1 ml1 h => ?_))
  refine EZ_aload_n 2 dL_law_997 rfl rfl ?_
  refine EZ_callV (d_removal l hfl R  a9 h) cw_L_168 (As := []) (st := [.int a9]) wi_yX6_removal we_yX6_removal (ci := 6) (q := (RX6, TX6, 23)) rfl rfl (wl_atO tw_61) rfl ⟨Nat.le_of_ble_eq_true rfl, Nat.le_of_ble_eq_true rfl, (show (k + 0) + 0 ≤ 601024 by omega), (show (n + 0) + 0 ≤ 7293034 by omega)⟩ (Nat.le_of_ble_eq_true rfl) dL_law_998 (fun _ _ q => q) rfl (zkI (fun b2 mi2 ml2 h2 => ?_))
  refine EZ_icmp_eq 1999 dL_law_1001 (by decide) (fun _ => ?_) (fun q => absurd h2.2 q)
  exact K _ _ mi2 ml2 (by omega) (by omega) h2.1
set_option maxRecDepth 100000 in
theorem lw_c17 (l : Launch) (hfl : l.stackTraces = false) {hh : List ExceptionTableEntry} {b L : Nat} {xs : Nat → Int32} {j : Nat} {i : Int32} (hi : i.toInt = ((4 * j : Nat) : Int)) (hj : 4 * j + 4 ≤ L) (hL : L ≤ 2048) {k n : Nat} (hk : k ≤ 5000 + 1000 * j) (hn : n ≤ 10000 + 10000 * j) {mi : MI} {ml : MJ} (R : Rel mi ml) (K : LK hh l b L xs j i) : LW hh l b L xs k n 1006 [(0, .ref 99), (1, .ref 0), (2, .ref 61), (3, .ref 73), (4, .int i)] [] (wl mi ml) := by
  have e1 : (i + 1).toInt = ((4 * j + 1 : Nat) : Int) := (tI_add hi (show (1 : Int32).toInt = 1 from rfl) (by omega)).trans (by omega)
  have e2 : (i + 2).toInt = ((4 * j + 2 : Nat) : Int) := (tI_add hi (show (2 : Int32).toInt = 2 from rfl) (by omega)).trans (by omega)
  have e3 : (i + 3).toInt = ((4 * j + 3 : Nat) : Int) := (tI_add hi (show (3 : Int32).toInt = 3 from rfl) (by omega)).trans (by omega)
  have wn := wf_n R.1
  have wm := wf_m R.1
  have wt := wf_t R.1
  obtain ⟨np, nz, nz2, nN, nN2, nT⟩ := R.nums
  have w4 := R.1.1.2.2.2.2
  have hsp : (mi 62 4).toInt = (((mi 62 4).toInt.toNat : Nat) : Int) := by omega
  have hs1 : 1 ≤ (mi 62 4).toInt.toNat := by omega
  have hs10 : (mi 62 4).toInt.toNat ≤ 10 := by omega
  unfold LK at K
  refine EZ_aload_n 1 dL_law_1006 rfl rfl ?_
  refine EZ_aload_n 0 dL_law_1007 rfl rfl ?_
  refine EZ_iload 4 dL_law_1008 rfl ?_
  refine EZ_iconst 1 (by decide) dL_law_1010 ?_
  refine EZ_iadd dL_law_1011 ?_
  refine L_ld (4 * j + 1) e1 (by omega) dL_law_1012 ?_
  refine EZ_aload_n 3 dL_law_1013 rfl rfl ?_
  refine L_callH (h_L_leastSpan l hfl mi ml (mi 62) R.1 R.2.1 (nV (mi 62)) wn.1 wn.2 R.2.2.2.2 _ hsp hs1 hs10 _ _ rfl) cwH_169 (As := [.ref 0, .int (xs (4 * j + 1)), .ref 73]) (st := []) rfl ⟨Nat.le_of_ble_eq_true rfl, Nat.le_of_ble_eq_true rfl, (show k + 1 ≤ 601024 by omega), (show n + 6 ≤ 7293034 by omega)⟩ (Nat.le_of_ble_eq_true rfl) dL_law_1014 rfl (L_kQ (fun r mi1 ml1 h => ?_))
  refine EZ_istore [(5, .int r), (0, .ref 99), (1, .ref 0), (2, .ref 61), (3, .ref 73), (4, .int i)] dL_law_1017 (by decide) rfl ?_
  refine EZ_aload_n 3 dL_law_1019 rfl rfl ?_
  refine EZ_aload_n 1 dL_law_1020 rfl rfl ?_
  refine EZ_iload 5 dL_law_1021 rfl ?_
  refine EZ_iconst 1 (by decide) dL_law_1023 ?_
  refine EZ_iadd dL_law_1024 ?_
  refine L_ld (4 * j + 1) e1 (by omega) dL_law_1025 ?_
  refine EZ_callV (b_leastSpan l hfl R _ _ rfl r h) cw_L_171 (As := [.int (xs (4 * j + 1))]) (st := []) wi_yX6_leastSpan we_yX6_leastSpan (ci := 6) (q := (RX6, TX6, 23)) rfl rfl (wl_atO tw_61) rfl ⟨Nat.le_of_ble_eq_true rfl, Nat.le_of_ble_eq_true rfl, (show (k + 1) + 0 ≤ 601024 by omega), (show (n + 6) + 0 ≤ 7293034 by omega)⟩ (Nat.le_of_ble_eq_true rfl) dL_law_1026 (fun _ _ q => q) rfl (zkI (fun b2 mi2 ml2 h2 => ?_))
  refine EZ_istore [(6, .int b2), (5, .int r), (0, .ref 99), (1, .ref 0), (2, .ref 61), (3, .ref 73), (4, .int i)] dL_law_1029 (by decide) rfl ?_
  refine EZ_aload_n 4 dL_law_1031 rfl rfl ?_
  refine EZ_callV (c_X6_thrown l hfl mi2 ml2) cw_L_107 (As := []) (st := []) wi_yX6_thrown we_yX6_thrown (ci := 6) (q := (RX6, TX6, 23)) rfl rfl (wl_atO tw_61) rfl ⟨Nat.le_of_ble_eq_true rfl, Nat.le_of_ble_eq_true rfl, (show ((k + 1) + 0) + 0 ≤ 601024 by omega), (show ((n + 6) + 0) + 0 ≤ 7293034 by omega)⟩ (Nat.le_of_ble_eq_true rfl) dL_law_1032 (fun _ _ q => q) rfl (zkE ?_)
  refine EZ_iload 1 dL_law_1035 rfl ?_
  refine EZ_icmp_eq 1042 dL_law_1037 (by decide) (fun _ => ?_) (fun q => absurd h2.2.1 q)
  refine EZ_iload 1 dL_law_1042 rfl ?_
  refine EZ_if_ne 1059 dL_law_1044 (by decide) (fun _ => ?_) (fun hr => ?_)
  · refine EZ_goto 1999 dL_law_1059 (by decide) ?_
    refine EZ_sub [2, 3, 4, 5, 6] rfl ?_
    exact K _ _ mi2 ml2 (by omega) (by omega) h2.1
  · refine EZ_aload_n 5 dL_law_1047 rfl rfl ?_
    refine EZ_iconst 0 (by decide) dL_law_1048 ?_
    refine SZ_lald 0 _ tw_73 rfl (by decide) (h2.2.2 hr) dL_law_1049 ?_
    refine EZ_iload 0 dL_law_1050 rfl ?_
    refine EZ_i2l dL_law_1052 ?_
    refine EZ_lcmp dL_law_1053 ?_
    refine EZ_if_eq 1059 dL_law_1054 (by decide) (fun _ => ?_) (fun q => absurd ((lg_cmp_eq _ _).mpr rfl) q)
    refine EZ_goto 1999 dL_law_1059 (by decide) ?_
    refine EZ_sub [2, 3, 4, 5, 6] rfl ?_
    exact K _ _ mi2 ml2 (by omega) (by omega) h2.1
set_option maxRecDepth 100000 in
theorem lw_c18 (l : Launch) (hfl : l.stackTraces = false) {hh : List ExceptionTableEntry} {b L : Nat} {xs : Nat → Int32} {j : Nat} {i : Int32} (hi : i.toInt = ((4 * j : Nat) : Int)) (hj : 4 * j + 4 ≤ L) (hL : L ≤ 2048) {k n : Nat} (hk : k ≤ 5000 + 1000 * j) (hn : n ≤ 10000 + 10000 * j) {mi : MI} {ml : MJ} (R : Rel mi ml) (K : LK hh l b L xs j i) : LW hh l b L xs k n 1062 [(0, .ref 99), (1, .ref 0), (2, .ref 61), (3, .ref 73), (4, .int i)] [] (wl mi ml) := by
  have e1 : (i + 1).toInt = ((4 * j + 1 : Nat) : Int) := (tI_add hi (show (1 : Int32).toInt = 1 from rfl) (by omega)).trans (by omega)
  have e2 : (i + 2).toInt = ((4 * j + 2 : Nat) : Int) := (tI_add hi (show (2 : Int32).toInt = 2 from rfl) (by omega)).trans (by omega)
  have e3 : (i + 3).toInt = ((4 * j + 3 : Nat) : Int) := (tI_add hi (show (3 : Int32).toInt = 3 from rfl) (by omega)).trans (by omega)
  have wn := wf_n R.1
  have wm := wf_m R.1
  have wt := wf_t R.1
  obtain ⟨np, nz, nz2, nN, nN2, nT⟩ := R.nums
  have w4 := R.1.1.2.2.2.2
  have hsp : (mi 62 4).toInt = (((mi 62 4).toInt.toNat : Nat) : Int) := by omega
  have hs1 : 1 ≤ (mi 62 4).toInt.toNat := by omega
  have hs10 : (mi 62 4).toInt.toNat ≤ 10 := by omega
  unfold LK at K
  refine EZ_aload_n 1 dL_law_1062 rfl rfl ?_
  refine EZ_aload_n 0 dL_law_1063 rfl rfl ?_
  refine EZ_iload 4 dL_law_1064 rfl ?_
  refine EZ_iconst 1 (by decide) dL_law_1066 ?_
  refine EZ_iadd dL_law_1067 ?_
  refine L_ld (4 * j + 1) e1 (by omega) dL_law_1068 ?_
  refine EZ_aload_n 3 dL_law_1069 rfl rfl ?_
  refine L_callH (h_L_bestRuler l hfl mi ml (mi 62) R.1 R.2.1 (nV (mi 62)) wn.1 wn.2 R.2.2.2.2 _ hsp hs1 hs10 _ _ rfl) cwH_172 (As := [.ref 0, .int (xs (4 * j + 1)), .ref 73]) (st := []) rfl ⟨Nat.le_of_ble_eq_true rfl, Nat.le_of_ble_eq_true rfl, (show k + 1 ≤ 601024 by omega), (show n + 6 ≤ 7293034 by omega)⟩ (Nat.le_of_ble_eq_true rfl) dL_law_1070 rfl (L_kJ (fun r mi1 ml1 h => ?_))
  refine EZ_istore [(5, .int r), (0, .ref 99), (1, .ref 0), (2, .ref 61), (3, .ref 73), (4, .int i)] dL_law_1073 (by decide) rfl ?_
  refine EZ_aload_n 3 dL_law_1075 rfl rfl ?_
  refine EZ_aload_n 1 dL_law_1076 rfl rfl ?_
  refine EZ_iload 5 dL_law_1077 rfl ?_
  refine EZ_iconst 1 (by decide) dL_law_1079 ?_
  refine EZ_iadd dL_law_1080 ?_
  refine L_ld (4 * j + 1) e1 (by omega) dL_law_1081 ?_
  refine EZ_callV (b_bestRuler l hfl R _ _ rfl r h) cw_L_174 (As := [.int (xs (4 * j + 1))]) (st := []) wi_yX6_bestRuler we_yX6_bestRuler (ci := 6) (q := (RX6, TX6, 23)) rfl rfl (wl_atO tw_61) rfl ⟨Nat.le_of_ble_eq_true rfl, Nat.le_of_ble_eq_true rfl, (show (k + 1) + 0 ≤ 601024 by omega), (show (n + 6) + 0 ≤ 7293034 by omega)⟩ (Nat.le_of_ble_eq_true rfl) dL_law_1082 (fun _ _ q => q) rfl (zkJ (fun b2 mi2 ml2 h2 => ?_))
  refine EZ_lstore [(6, .long b2), (5, .int r), (0, .ref 99), (1, .ref 0), (2, .ref 61), (3, .ref 73), (4, .int i)] dL_law_1085 (by decide) rfl ?_
  refine EZ_aload_n 4 dL_law_1087 rfl rfl ?_
  refine EZ_callV (c_X6_thrown l hfl mi2 ml2) cw_L_107 (As := []) (st := []) wi_yX6_thrown we_yX6_thrown (ci := 6) (q := (RX6, TX6, 23)) rfl rfl (wl_atO tw_61) rfl ⟨Nat.le_of_ble_eq_true rfl, Nat.le_of_ble_eq_true rfl, (show ((k + 1) + 0) + 0 ≤ 601024 by omega), (show ((n + 6) + 0) + 0 ≤ 7293034 by omega)⟩ (Nat.le_of_ble_eq_true rfl) dL_law_1088 (fun _ _ q => q) rfl (zkE ?_)
  refine EZ_iload 1 dL_law_1091 rfl ?_
  refine EZ_icmp_eq 1098 dL_law_1093 (by decide) (fun _ => ?_) (fun q => absurd h2.2.1 q)
  refine EZ_iload 1 dL_law_1098 rfl ?_
  refine EZ_if_ne 1114 dL_law_1100 (by decide) (fun _ => ?_) (fun hr => ?_)
  · refine EZ_goto 1999 dL_law_1114 (by decide) ?_
    refine EZ_sub [2, 3, 4, 5, 6] rfl ?_
    exact K _ _ mi2 ml2 (by omega) (by omega) h2.1
  · refine EZ_aload_n 5 dL_law_1103 rfl rfl ?_
    refine EZ_iconst 0 (by decide) dL_law_1104 ?_
    refine SZ_lald 0 _ tw_73 rfl (by decide) (h2.2.2 hr) dL_law_1105 ?_
    refine EZ_lload 0 dL_law_1106 rfl ?_
    refine EZ_lcmp dL_law_1108 ?_
    refine EZ_if_eq 1114 dL_law_1109 (by decide) (fun _ => ?_) (fun q => absurd ((lg_cmp_eq _ _).mpr rfl) q)
    refine EZ_goto 1999 dL_law_1114 (by decide) ?_
    refine EZ_sub [2, 3, 4, 5, 6] rfl ?_
    exact K _ _ mi2 ml2 (by omega) (by omega) h2.1
set_option maxRecDepth 100000 in
theorem lw_c19 (l : Launch) (hfl : l.stackTraces = false) {hh : List ExceptionTableEntry} {b L : Nat} {xs : Nat → Int32} {j : Nat} {i : Int32} (hi : i.toInt = ((4 * j : Nat) : Int)) (hj : 4 * j + 4 ≤ L) (hL : L ≤ 2048) {k n : Nat} (hk : k ≤ 5000 + 1000 * j) (hn : n ≤ 10000 + 10000 * j) {mi : MI} {ml : MJ} (R : Rel mi ml) (K : LK hh l b L xs j i) : LW hh l b L xs k n 1117 [(0, .ref 99), (1, .ref 0), (2, .ref 61), (3, .ref 73), (4, .int i)] [] (wl mi ml) := by
  have e1 : (i + 1).toInt = ((4 * j + 1 : Nat) : Int) := (tI_add hi (show (1 : Int32).toInt = 1 from rfl) (by omega)).trans (by omega)
  have e2 : (i + 2).toInt = ((4 * j + 2 : Nat) : Int) := (tI_add hi (show (2 : Int32).toInt = 2 from rfl) (by omega)).trans (by omega)
  have e3 : (i + 3).toInt = ((4 * j + 3 : Nat) : Int) := (tI_add hi (show (3 : Int32).toInt = 3 from rfl) (by omega)).trans (by omega)
  have wn := wf_n R.1
  have wm := wf_m R.1
  have wt := wf_t R.1
  obtain ⟨np, nz, nz2, nN, nN2, nT⟩ := R.nums
  have w4 := R.1.1.2.2.2.2
  have hsp : (mi 62 4).toInt = (((mi 62 4).toInt.toNat : Nat) : Int) := by omega
  have hs1 : 1 ≤ (mi 62 4).toInt.toNat := by omega
  have hs10 : (mi 62 4).toInt.toNat ≤ 10 := by omega
  unfold LK at K
  refine EZ_aload_n 1 dL_law_1117 rfl rfl ?_
  refine EZ_aload_n 0 dL_law_1118 rfl rfl ?_
  refine EZ_iload 4 dL_law_1119 rfl ?_
  refine EZ_iconst 1 (by decide) dL_law_1121 ?_
  refine EZ_iadd dL_law_1122 ?_
  refine L_ld (4 * j + 1) e1 (by omega) dL_law_1123 ?_
  refine EZ_aload_n 0 dL_law_1124 rfl rfl ?_
  refine EZ_iload 4 dL_law_1125 rfl ?_
  refine EZ_iconst 2 (by decide) dL_law_1127 ?_
  refine EZ_iadd dL_law_1128 ?_
  refine L_ld (4 * j + 2) e2 (by omega) dL_law_1129 ?_
  refine EZ_aload_n 3 dL_law_1130 rfl rfl ?_
  refine L_callH (h_L_rulers l hfl mi ml (mi 62) R.1 R.2.1 (nV (mi 62)) wn.1 wn.2 R.2.2.2.2 _ hsp hs1 hs10 _ _ rfl _ _ rfl) cwH_175 (As := [.ref 0, .int (xs (4 * j + 1)), .int (xs (4 * j + 2)), .ref 73]) (st := []) rfl ⟨Nat.le_of_ble_eq_true rfl, Nat.le_of_ble_eq_true rfl, (show k + 2 ≤ 601024 by omega), (show n + 12 ≤ 7293034 by omega)⟩ (Nat.le_of_ble_eq_true rfl) dL_law_1131 rfl (L_kQ (fun r mi1 ml1 h => ?_))
  refine EZ_istore [(5, .int r), (0, .ref 99), (1, .ref 0), (2, .ref 61), (3, .ref 73), (4, .int i)] dL_law_1134 (by decide) rfl ?_
  refine EZ_aload_n 3 dL_law_1136 rfl rfl ?_
  refine EZ_aload_n 1 dL_law_1137 rfl rfl ?_
  refine EZ_iload 5 dL_law_1138 rfl ?_
  refine EZ_iconst 1 (by decide) dL_law_1140 ?_
  refine EZ_iadd dL_law_1141 ?_
  refine L_ld (4 * j + 1) e1 (by omega) dL_law_1142 ?_
  refine EZ_aload_n 1 dL_law_1143 rfl rfl ?_
  refine EZ_iload 5 dL_law_1144 rfl ?_
  refine EZ_iconst 2 (by decide) dL_law_1146 ?_
  refine EZ_iadd dL_law_1147 ?_
  refine L_ld (4 * j + 2) e2 (by omega) dL_law_1148 ?_
  refine EZ_callV (b_rulers l hfl R _ _ rfl _ _ rfl r h) cw_L_177 (As := [.int (xs (4 * j + 1)), .int (xs (4 * j + 2))]) (st := []) wi_yX6_rulers we_yX6_rulers (ci := 6) (q := (RX6, TX6, 23)) rfl rfl (wl_atO tw_61) rfl ⟨Nat.le_of_ble_eq_true rfl, Nat.le_of_ble_eq_true rfl, (show (k + 2) + 0 ≤ 601024 by omega), (show (n + 12) + 0 ≤ 7293034 by omega)⟩ (Nat.le_of_ble_eq_true rfl) dL_law_1149 (fun _ _ q => q) rfl (zkI (fun b2 mi2 ml2 h2 => ?_))
  refine EZ_istore [(6, .int b2), (5, .int r), (0, .ref 99), (1, .ref 0), (2, .ref 61), (3, .ref 73), (4, .int i)] dL_law_1152 (by decide) rfl ?_
  refine EZ_aload_n 4 dL_law_1154 rfl rfl ?_
  refine EZ_callV (c_X6_thrown l hfl mi2 ml2) cw_L_107 (As := []) (st := []) wi_yX6_thrown we_yX6_thrown (ci := 6) (q := (RX6, TX6, 23)) rfl rfl (wl_atO tw_61) rfl ⟨Nat.le_of_ble_eq_true rfl, Nat.le_of_ble_eq_true rfl, (show ((k + 2) + 0) + 0 ≤ 601024 by omega), (show ((n + 12) + 0) + 0 ≤ 7293034 by omega)⟩ (Nat.le_of_ble_eq_true rfl) dL_law_1155 (fun _ _ q => q) rfl (zkE ?_)
  refine EZ_iload 1 dL_law_1158 rfl ?_
  refine EZ_icmp_eq 1165 dL_law_1160 (by decide) (fun _ => ?_) (fun q => absurd h2.2.1 q)
  refine EZ_iload 1 dL_law_1165 rfl ?_
  refine EZ_if_ne 1182 dL_law_1167 (by decide) (fun _ => ?_) (fun hr => ?_)
  · refine EZ_goto 1999 dL_law_1182 (by decide) ?_
    refine EZ_sub [2, 3, 4, 5, 6] rfl ?_
    exact K _ _ mi2 ml2 (by omega) (by omega) h2.1
  · refine EZ_aload_n 5 dL_law_1170 rfl rfl ?_
    refine EZ_iconst 0 (by decide) dL_law_1171 ?_
    refine SZ_lald 0 _ tw_73 rfl (by decide) (h2.2.2 hr) dL_law_1172 ?_
    refine EZ_iload 0 dL_law_1173 rfl ?_
    refine EZ_i2l dL_law_1175 ?_
    refine EZ_lcmp dL_law_1176 ?_
    refine EZ_if_eq 1182 dL_law_1177 (by decide) (fun _ => ?_) (fun q => absurd ((lg_cmp_eq _ _).mpr rfl) q)
    refine EZ_goto 1999 dL_law_1182 (by decide) ?_
    refine EZ_sub [2, 3, 4, 5, 6] rfl ?_
    exact K _ _ mi2 ml2 (by omega) (by omega) h2.1
set_option maxRecDepth 100000 in
theorem lw_c20 (l : Launch) (hfl : l.stackTraces = false) {hh : List ExceptionTableEntry} {b L : Nat} {xs : Nat → Int32} {j : Nat} {i : Int32} (hi : i.toInt = ((4 * j : Nat) : Int)) (hj : 4 * j + 4 ≤ L) (hL : L ≤ 2048) {k n : Nat} (hk : k ≤ 5000 + 1000 * j) (hn : n ≤ 10000 + 10000 * j) {mi : MI} {ml : MJ} (R : Rel mi ml) (K : LK hh l b L xs j i) : LW hh l b L xs k n 1185 [(0, .ref 99), (1, .ref 0), (2, .ref 61), (3, .ref 73), (4, .int i)] [] (wl mi ml) := by
  have e1 : (i + 1).toInt = ((4 * j + 1 : Nat) : Int) := (tI_add hi (show (1 : Int32).toInt = 1 from rfl) (by omega)).trans (by omega)
  have e2 : (i + 2).toInt = ((4 * j + 2 : Nat) : Int) := (tI_add hi (show (2 : Int32).toInt = 2 from rfl) (by omega)).trans (by omega)
  have e3 : (i + 3).toInt = ((4 * j + 3 : Nat) : Int) := (tI_add hi (show (3 : Int32).toInt = 3 from rfl) (by omega)).trans (by omega)
  have wn := wf_n R.1
  have wm := wf_m R.1
  have wt := wf_t R.1
  obtain ⟨np, nz, nz2, nN, nN2, nT⟩ := R.nums
  have w4 := R.1.1.2.2.2.2
  have hsp : (mi 62 4).toInt = (((mi 62 4).toInt.toNat : Nat) : Int) := by omega
  have hs1 : 1 ≤ (mi 62 4).toInt.toNat := by omega
  have hs10 : (mi 62 4).toInt.toNat ≤ 10 := by omega
  unfold LK at K
  refine EZ_aload_n 1 dL_law_1185 rfl rfl ?_
  refine EZ_aload_n 0 dL_law_1186 rfl rfl ?_
  refine EZ_iload 4 dL_law_1187 rfl ?_
  refine EZ_iconst 1 (by decide) dL_law_1189 ?_
  refine EZ_iadd dL_law_1190 ?_
  refine L_ld (4 * j + 1) e1 (by omega) dL_law_1191 ?_
  refine EZ_aload_n 3 dL_law_1192 rfl rfl ?_
  refine L_callH (h_L_openings l hfl mi ml (mi 62) R.1 R.2.1 (nV (mi 62)) wn.1 wn.2 R.2.2.2.2 _ _ rfl) cwH_178 (As := [.ref 0, .int (xs (4 * j + 1)), .ref 73]) (st := []) rfl ⟨Nat.le_of_ble_eq_true rfl, Nat.le_of_ble_eq_true rfl, (show k + 1 ≤ 601024 by omega), (show n + 6 ≤ 7293034 by omega)⟩ (Nat.le_of_ble_eq_true rfl) dL_law_1193 rfl (L_kJ (fun r mi1 ml1 h => ?_))
  refine EZ_istore [(5, .int r), (0, .ref 99), (1, .ref 0), (2, .ref 61), (3, .ref 73), (4, .int i)] dL_law_1196 (by decide) rfl ?_
  refine EZ_aload_n 3 dL_law_1198 rfl rfl ?_
  refine EZ_aload_n 1 dL_law_1199 rfl rfl ?_
  refine EZ_iload 5 dL_law_1200 rfl ?_
  refine EZ_iconst 1 (by decide) dL_law_1202 ?_
  refine EZ_iadd dL_law_1203 ?_
  refine L_ld (4 * j + 1) e1 (by omega) dL_law_1204 ?_
  refine EZ_callV (b_openings l hfl R _ _ rfl r h) cw_L_180 (As := [.int (xs (4 * j + 1))]) (st := []) wi_yX6_openings we_yX6_openings (ci := 6) (q := (RX6, TX6, 23)) rfl rfl (wl_atO tw_61) rfl ⟨Nat.le_of_ble_eq_true rfl, Nat.le_of_ble_eq_true rfl, (show (k + 1) + 0 ≤ 601024 by omega), (show (n + 6) + 0 ≤ 7293034 by omega)⟩ (Nat.le_of_ble_eq_true rfl) dL_law_1205 (fun _ _ q => q) rfl (zkJ (fun b2 mi2 ml2 h2 => ?_))
  refine EZ_lstore [(6, .long b2), (5, .int r), (0, .ref 99), (1, .ref 0), (2, .ref 61), (3, .ref 73), (4, .int i)] dL_law_1208 (by decide) rfl ?_
  refine EZ_aload_n 4 dL_law_1210 rfl rfl ?_
  refine EZ_callV (c_X6_thrown l hfl mi2 ml2) cw_L_107 (As := []) (st := []) wi_yX6_thrown we_yX6_thrown (ci := 6) (q := (RX6, TX6, 23)) rfl rfl (wl_atO tw_61) rfl ⟨Nat.le_of_ble_eq_true rfl, Nat.le_of_ble_eq_true rfl, (show ((k + 1) + 0) + 0 ≤ 601024 by omega), (show ((n + 6) + 0) + 0 ≤ 7293034 by omega)⟩ (Nat.le_of_ble_eq_true rfl) dL_law_1211 (fun _ _ q => q) rfl (zkE ?_)
  refine EZ_iload 1 dL_law_1214 rfl ?_
  refine EZ_icmp_eq 1221 dL_law_1216 (by decide) (fun _ => ?_) (fun q => absurd h2.2.1 q)
  refine EZ_iload 1 dL_law_1221 rfl ?_
  refine EZ_if_ne 1237 dL_law_1223 (by decide) (fun _ => ?_) (fun hr => ?_)
  · refine EZ_goto 1999 dL_law_1237 (by decide) ?_
    refine EZ_sub [2, 3, 4, 5, 6] rfl ?_
    exact K _ _ mi2 ml2 (by omega) (by omega) h2.1
  · refine EZ_aload_n 5 dL_law_1226 rfl rfl ?_
    refine EZ_iconst 0 (by decide) dL_law_1227 ?_
    refine SZ_lald 0 _ tw_73 rfl (by decide) (h2.2.2 hr) dL_law_1228 ?_
    refine EZ_lload 0 dL_law_1229 rfl ?_
    refine EZ_lcmp dL_law_1231 ?_
    refine EZ_if_eq 1237 dL_law_1232 (by decide) (fun _ => ?_) (fun q => absurd ((lg_cmp_eq _ _).mpr rfl) q)
    refine EZ_goto 1999 dL_law_1237 (by decide) ?_
    refine EZ_sub [2, 3, 4, 5, 6] rfl ?_
    exact K _ _ mi2 ml2 (by omega) (by omega) h2.1
set_option maxRecDepth 100000 in
theorem lw_c21 (l : Launch) (hfl : l.stackTraces = false) {hh : List ExceptionTableEntry} {b L : Nat} {xs : Nat → Int32} {j : Nat} {i : Int32} (hi : i.toInt = ((4 * j : Nat) : Int)) (hj : 4 * j + 4 ≤ L) (hL : L ≤ 2048) {k n : Nat} (hk : k ≤ 5000 + 1000 * j) (hn : n ≤ 10000 + 10000 * j) {mi : MI} {ml : MJ} (R : Rel mi ml) (K : LK hh l b L xs j i) : LW hh l b L xs k n 1240 [(0, .ref 99), (1, .ref 0), (2, .ref 61), (3, .ref 73), (4, .int i)] [] (wl mi ml) := by
  have e1 : (i + 1).toInt = ((4 * j + 1 : Nat) : Int) := (tI_add hi (show (1 : Int32).toInt = 1 from rfl) (by omega)).trans (by omega)
  have e2 : (i + 2).toInt = ((4 * j + 2 : Nat) : Int) := (tI_add hi (show (2 : Int32).toInt = 2 from rfl) (by omega)).trans (by omega)
  have e3 : (i + 3).toInt = ((4 * j + 3 : Nat) : Int) := (tI_add hi (show (3 : Int32).toInt = 3 from rfl) (by omega)).trans (by omega)
  have wn := wf_n R.1
  have wm := wf_m R.1
  have wt := wf_t R.1
  obtain ⟨np, nz, nz2, nN, nN2, nT⟩ := R.nums
  have w4 := R.1.1.2.2.2.2
  have hsp : (mi 62 4).toInt = (((mi 62 4).toInt.toNat : Nat) : Int) := by omega
  have hs1 : 1 ≤ (mi 62 4).toInt.toNat := by omega
  have hs10 : (mi 62 4).toInt.toNat ≤ 10 := by omega
  unfold LK at K
  refine EZ_aload_n 1 dL_law_1240 rfl rfl ?_
  refine EZ_aload_n 0 dL_law_1241 rfl rfl ?_
  refine EZ_iload 4 dL_law_1242 rfl ?_
  refine EZ_iconst 1 (by decide) dL_law_1244 ?_
  refine EZ_iadd dL_law_1245 ?_
  refine L_ld (4 * j + 1) e1 (by omega) dL_law_1246 ?_
  refine EZ_aload_n 3 dL_law_1247 rfl rfl ?_
  refine L_callH (h_L_putIn l hfl mi ml (mi 62) R.1 R.2.1 (nV (mi 62)) wn.1 wn.2 R.2.2.2.2 (pV mi) (zV mi) np.1 np.2 nz.1 nz.2 _ _ rfl) cwH_181 (As := [.ref 0, .int (xs (4 * j + 1)), .ref 73]) (st := []) rfl ⟨Nat.le_of_ble_eq_true rfl, Nat.le_of_ble_eq_true rfl, (show k + 3 ≤ 601024 by omega), (show n + 18 ≤ 7293034 by omega)⟩ (Nat.le_of_ble_eq_true rfl) dL_law_1248 rfl (L_kQ (fun r mi1 ml1 h => ?_))
  refine EZ_istore [(5, .int r), (0, .ref 99), (1, .ref 0), (2, .ref 61), (3, .ref 73), (4, .int i)] dL_law_1251 (by decide) rfl ?_
  refine EZ_aload_n 3 dL_law_1253 rfl rfl ?_
  refine EZ_aload_n 1 dL_law_1254 rfl rfl ?_
  refine EZ_iload 5 dL_law_1255 rfl ?_
  refine EZ_iconst 1 (by decide) dL_law_1257 ?_
  refine EZ_iadd dL_law_1258 ?_
  refine L_ld (4 * j + 1) e1 (by omega) dL_law_1259 ?_
  refine EZ_callV (b_putIn l hfl R _ _ rfl r h) cw_L_183 (As := [.int (xs (4 * j + 1))]) (st := []) wi_yX6_putIn we_yX6_putIn (ci := 6) (q := (RX6, TX6, 23)) rfl rfl (wl_atO tw_61) rfl ⟨Nat.le_of_ble_eq_true rfl, Nat.le_of_ble_eq_true rfl, (show (k + 3) + 0 ≤ 601024 by omega), (show (n + 18) + 0 ≤ 7293034 by omega)⟩ (Nat.le_of_ble_eq_true rfl) dL_law_1260 (fun _ _ q => q) rfl (zkI (fun b2 mi2 ml2 h2 => ?_))
  refine EZ_istore [(6, .int b2), (5, .int r), (0, .ref 99), (1, .ref 0), (2, .ref 61), (3, .ref 73), (4, .int i)] dL_law_1263 (by decide) rfl ?_
  refine EZ_aload_n 4 dL_law_1265 rfl rfl ?_
  refine EZ_callV (c_X6_thrown l hfl mi2 ml2) cw_L_107 (As := []) (st := []) wi_yX6_thrown we_yX6_thrown (ci := 6) (q := (RX6, TX6, 23)) rfl rfl (wl_atO tw_61) rfl ⟨Nat.le_of_ble_eq_true rfl, Nat.le_of_ble_eq_true rfl, (show ((k + 3) + 0) + 0 ≤ 601024 by omega), (show ((n + 18) + 0) + 0 ≤ 7293034 by omega)⟩ (Nat.le_of_ble_eq_true rfl) dL_law_1266 (fun _ _ q => q) rfl (zkE ?_)
  refine EZ_iload 1 dL_law_1269 rfl ?_
  refine EZ_icmp_eq 1276 dL_law_1271 (by decide) (fun _ => ?_) (fun q => absurd h2.2.1 q)
  refine EZ_iload 1 dL_law_1276 rfl ?_
  refine EZ_if_ne 1293 dL_law_1278 (by decide) (fun _ => ?_) (fun hr => ?_)
  · refine EZ_goto 1999 dL_law_1293 (by decide) ?_
    refine EZ_sub [2, 3, 4, 5, 6] rfl ?_
    exact K _ _ mi2 ml2 (by omega) (by omega) h2.1
  · refine EZ_aload_n 5 dL_law_1281 rfl rfl ?_
    refine EZ_iconst 0 (by decide) dL_law_1282 ?_
    refine SZ_lald 0 _ tw_73 rfl (by decide) (h2.2.2 hr) dL_law_1283 ?_
    refine EZ_iload 0 dL_law_1284 rfl ?_
    refine EZ_i2l dL_law_1286 ?_
    refine EZ_lcmp dL_law_1287 ?_
    refine EZ_if_eq 1293 dL_law_1288 (by decide) (fun _ => ?_) (fun q => absurd ((lg_cmp_eq _ _).mpr rfl) q)
    refine EZ_goto 1999 dL_law_1293 (by decide) ?_
    refine EZ_sub [2, 3, 4, 5, 6] rfl ?_
    exact K _ _ mi2 ml2 (by omega) (by omega) h2.1
set_option maxRecDepth 100000 in
theorem lw_c22 (l : Launch) (hfl : l.stackTraces = false) {hh : List ExceptionTableEntry} {b L : Nat} {xs : Nat → Int32} {j : Nat} {i : Int32} (hi : i.toInt = ((4 * j : Nat) : Int)) (hj : 4 * j + 4 ≤ L) (hL : L ≤ 2048) {k n : Nat} (hk : k ≤ 5000 + 1000 * j) (hn : n ≤ 10000 + 10000 * j) {mi : MI} {ml : MJ} (R : Rel mi ml) (K : LK hh l b L xs j i) : LW hh l b L xs k n 1296 [(0, .ref 99), (1, .ref 0), (2, .ref 61), (3, .ref 73), (4, .int i)] [] (wl mi ml) := by
  have e1 : (i + 1).toInt = ((4 * j + 1 : Nat) : Int) := (tI_add hi (show (1 : Int32).toInt = 1 from rfl) (by omega)).trans (by omega)
  have e2 : (i + 2).toInt = ((4 * j + 2 : Nat) : Int) := (tI_add hi (show (2 : Int32).toInt = 2 from rfl) (by omega)).trans (by omega)
  have e3 : (i + 3).toInt = ((4 * j + 3 : Nat) : Int) := (tI_add hi (show (3 : Int32).toInt = 3 from rfl) (by omega)).trans (by omega)
  have wn := wf_n R.1
  have wm := wf_m R.1
  have wt := wf_t R.1
  obtain ⟨np, nz, nz2, nN, nN2, nT⟩ := R.nums
  have w4 := R.1.1.2.2.2.2
  have hsp : (mi 62 4).toInt = (((mi 62 4).toInt.toNat : Nat) : Int) := by omega
  have hs1 : 1 ≤ (mi 62 4).toInt.toNat := by omega
  have hs10 : (mi 62 4).toInt.toNat ≤ 10 := by omega
  unfold LK at K
  refine EZ_aload_n 1 dL_law_1296 rfl rfl ?_
  refine EZ_aload_n 0 dL_law_1297 rfl rfl ?_
  refine EZ_iload 4 dL_law_1298 rfl ?_
  refine EZ_iconst 1 (by decide) dL_law_1300 ?_
  refine EZ_iadd dL_law_1301 ?_
  refine L_ld (4 * j + 1) e1 (by omega) dL_law_1302 ?_
  refine EZ_aload_n 3 dL_law_1303 rfl rfl ?_
  refine L_callH (h_L_addMixer l hfl mi ml (mi 62) R.1 R.2.1 (nV (mi 62)) wn.1 wn.2 (mV (mi 62)) wm.1 wm.2 (pV mi) (zV mi) np.1 np.2 nz.1 nz.2 _ _ rfl) cwH_184 (As := [.ref 0, .int (xs (4 * j + 1)), .ref 73]) (st := []) rfl ⟨Nat.le_of_ble_eq_true rfl, Nat.le_of_ble_eq_true rfl, (show k + 2 ≤ 601024 by omega), (show n + 12 ≤ 7293034 by omega)⟩ (Nat.le_of_ble_eq_true rfl) dL_law_1304 rfl (L_kQ (fun r mi1 ml1 h => ?_))
  refine EZ_istore [(5, .int r), (0, .ref 99), (1, .ref 0), (2, .ref 61), (3, .ref 73), (4, .int i)] dL_law_1307 (by decide) rfl ?_
  refine EZ_aload_n 3 dL_law_1309 rfl rfl ?_
  refine EZ_aload_n 1 dL_law_1310 rfl rfl ?_
  refine EZ_iload 5 dL_law_1311 rfl ?_
  refine EZ_iconst 1 (by decide) dL_law_1313 ?_
  refine EZ_iadd dL_law_1314 ?_
  refine L_ld (4 * j + 1) e1 (by omega) dL_law_1315 ?_
  refine EZ_callV (b_addMixer l hfl R _ _ rfl r h) cw_L_186 (As := [.int (xs (4 * j + 1))]) (st := []) wi_yX6_addMixer we_yX6_addMixer (ci := 6) (q := (RX6, TX6, 23)) rfl rfl (wl_atO tw_61) rfl ⟨Nat.le_of_ble_eq_true rfl, Nat.le_of_ble_eq_true rfl, (show (k + 2) + 0 ≤ 601024 by omega), (show (n + 12) + 0 ≤ 7293034 by omega)⟩ (Nat.le_of_ble_eq_true rfl) dL_law_1316 (fun _ _ q => q) rfl (zkI (fun b2 mi2 ml2 h2 => ?_))
  refine EZ_istore [(6, .int b2), (5, .int r), (0, .ref 99), (1, .ref 0), (2, .ref 61), (3, .ref 73), (4, .int i)] dL_law_1319 (by decide) rfl ?_
  refine EZ_aload_n 4 dL_law_1321 rfl rfl ?_
  refine EZ_callV (c_X6_thrown l hfl mi2 ml2) cw_L_107 (As := []) (st := []) wi_yX6_thrown we_yX6_thrown (ci := 6) (q := (RX6, TX6, 23)) rfl rfl (wl_atO tw_61) rfl ⟨Nat.le_of_ble_eq_true rfl, Nat.le_of_ble_eq_true rfl, (show ((k + 2) + 0) + 0 ≤ 601024 by omega), (show ((n + 12) + 0) + 0 ≤ 7293034 by omega)⟩ (Nat.le_of_ble_eq_true rfl) dL_law_1322 (fun _ _ q => q) rfl (zkE ?_)
  refine EZ_iload 1 dL_law_1325 rfl ?_
  refine EZ_icmp_eq 1332 dL_law_1327 (by decide) (fun _ => ?_) (fun q => absurd h2.2.1 q)
  refine EZ_iload 1 dL_law_1332 rfl ?_
  refine EZ_if_ne 1349 dL_law_1334 (by decide) (fun _ => ?_) (fun hr => ?_)
  · refine EZ_goto 1999 dL_law_1349 (by decide) ?_
    refine EZ_sub [2, 3, 4, 5, 6] rfl ?_
    exact K _ _ mi2 ml2 (by omega) (by omega) h2.1
  · refine EZ_aload_n 5 dL_law_1337 rfl rfl ?_
    refine EZ_iconst 0 (by decide) dL_law_1338 ?_
    refine SZ_lald 0 _ tw_73 rfl (by decide) (h2.2.2 hr) dL_law_1339 ?_
    refine EZ_iload 0 dL_law_1340 rfl ?_
    refine EZ_i2l dL_law_1342 ?_
    refine EZ_lcmp dL_law_1343 ?_
    refine EZ_if_eq 1349 dL_law_1344 (by decide) (fun _ => ?_) (fun q => absurd ((lg_cmp_eq _ _).mpr rfl) q)
    refine EZ_goto 1999 dL_law_1349 (by decide) ?_
    refine EZ_sub [2, 3, 4, 5, 6] rfl ?_
    exact K _ _ mi2 ml2 (by omega) (by omega) h2.1
set_option maxRecDepth 100000 in
theorem lw_c23z (l : Launch) (hfl : l.stackTraces = false) {hh : List ExceptionTableEntry} {b L : Nat} {xs : Nat → Int32} {j : Nat} {i : Int32} (hi : i.toInt = ((4 * j : Nat) : Int)) (hj : 4 * j + 4 ≤ L) (hL : L ≤ 2048) {k n : Nat} (hk : k ≤ 5000 + 1000 * j) (hn : n ≤ 10000 + 10000 * j) {mi : MI} {ml : MJ} (R : Rel mi ml) (hb : xs (4 * j + 3) = 0) (K : LK hh l b L xs j i) : LW hh l b L xs k n 1352 [(0, .ref 99), (1, .ref 0), (2, .ref 61), (3, .ref 73), (4, .int i)] [] (wl mi ml) := by
  have e1 : (i + 1).toInt = ((4 * j + 1 : Nat) : Int) := (tI_add hi (show (1 : Int32).toInt = 1 from rfl) (by omega)).trans (by omega)
  have e2 : (i + 2).toInt = ((4 * j + 2 : Nat) : Int) := (tI_add hi (show (2 : Int32).toInt = 2 from rfl) (by omega)).trans (by omega)
  have e3 : (i + 3).toInt = ((4 * j + 3 : Nat) : Int) := (tI_add hi (show (3 : Int32).toInt = 3 from rfl) (by omega)).trans (by omega)
  have wn := wf_n R.1
  have wm := wf_m R.1
  have wt := wf_t R.1
  obtain ⟨np, nz, nz2, nN, nN2, nT⟩ := R.nums
  have w4 := R.1.1.2.2.2.2
  have hsp : (mi 62 4).toInt = (((mi 62 4).toInt.toNat : Nat) : Int) := by omega
  have hs1 : 1 ≤ (mi 62 4).toInt.toNat := by omega
  have hs10 : (mi 62 4).toInt.toNat ≤ 10 := by omega
  unfold LK at K
  refine EZ_aload_n 1 dL_law_1352 rfl rfl ?_
  refine EZ_aload_n 0 dL_law_1353 rfl rfl ?_
  refine EZ_iload 4 dL_law_1354 rfl ?_
  refine EZ_iconst 1 (by decide) dL_law_1356 ?_
  refine EZ_iadd dL_law_1357 ?_
  refine L_ld (4 * j + 1) e1 (by omega) dL_law_1358 ?_
  refine EZ_aload_n 0 dL_law_1359 rfl rfl ?_
  refine EZ_iload 4 dL_law_1360 rfl ?_
  refine EZ_iconst 2 (by decide) dL_law_1362 ?_
  refine EZ_iadd dL_law_1363 ?_
  refine L_ld (4 * j + 2) e2 (by omega) dL_law_1364 ?_
  refine EZ_aload_n 0 dL_law_1365 rfl rfl ?_
  refine EZ_iload 4 dL_law_1366 rfl ?_
  refine EZ_iconst 3 (by decide) dL_law_1368 ?_
  refine EZ_iadd dL_law_1369 ?_
  refine L_ld (4 * j + 3) e3 (by omega) dL_law_1370 ?_
  refine EZ_if_eq 1378 dL_law_1371 (by decide) (fun _ => ?_) (fun q => absurd hb q)
  refine EZ_iconst 0 (by decide) dL_law_1378 ?_
  refine EZ_aload_n 3 dL_law_1379 rfl rfl ?_
  refine L_callH (h_L_setMember l hfl mi ml (mi 62) R.1 R.2.1 (nV (mi 62)) wn.1 wn.2 (mV (mi 62)) wm.1 wm.2 (pV mi) (zV mi) np.1 np.2 nz.1 nz.2 _ _ rfl _ _ rfl _ False (b0 (fun q => q))) cwH_187 (As := [.ref 0, .int (xs (4 * j + 1)), .int (xs (4 * j + 2)), .int 0, .ref 73]) (st := []) rfl ⟨Nat.le_of_ble_eq_true rfl, Nat.le_of_ble_eq_true rfl, (show k + 2 ≤ 601024 by omega), (show n + 12 ≤ 7293034 by omega)⟩ (Nat.le_of_ble_eq_true rfl) dL_law_1380 rfl (L_kQ (fun r mi1 ml1 h => ?_))
  refine EZ_istore [(5, .int r), (0, .ref 99), (1, .ref 0), (2, .ref 61), (3, .ref 73), (4, .int i)] dL_law_1383 (by decide) rfl ?_
  refine EZ_aload_n 3 dL_law_1385 rfl rfl ?_
  refine EZ_aload_n 1 dL_law_1386 rfl rfl ?_
  refine EZ_iload 5 dL_law_1387 rfl ?_
  refine EZ_iconst 1 (by decide) dL_law_1389 ?_
  refine EZ_iadd dL_law_1390 ?_
  refine L_ld (4 * j + 1) e1 (by omega) dL_law_1391 ?_
  refine EZ_aload_n 1 dL_law_1392 rfl rfl ?_
  refine EZ_iload 5 dL_law_1393 rfl ?_
  refine EZ_iconst 2 (by decide) dL_law_1395 ?_
  refine EZ_iadd dL_law_1396 ?_
  refine L_ld (4 * j + 2) e2 (by omega) dL_law_1397 ?_
  refine EZ_aload_n 1 dL_law_1398 rfl rfl ?_
  refine EZ_iload 5 dL_law_1399 rfl ?_
  refine EZ_iconst 3 (by decide) dL_law_1401 ?_
  refine EZ_iadd dL_law_1402 ?_
  refine L_ld (4 * j + 3) e3 (by omega) dL_law_1403 ?_
  refine EZ_if_eq 1411 dL_law_1404 (by decide) (fun _ => ?_) (fun q => absurd hb q)
  refine EZ_iconst 0 (by decide) dL_law_1411 ?_
  refine EZ_callV (b_setMember l hfl R _ _ rfl _ _ rfl _ False (b0 (fun q => q)) r h) cw_L_190 (As := [.int (xs (4 * j + 1)), .int (xs (4 * j + 2)), .int 0]) (st := []) wi_yX6_setMember we_yX6_setMember (ci := 6) (q := (RX6, TX6, 23)) rfl rfl (wl_atO tw_61) rfl ⟨Nat.le_of_ble_eq_true rfl, Nat.le_of_ble_eq_true rfl, (show (k + 2) + 0 ≤ 601024 by omega), (show (n + 12) + 0 ≤ 7293034 by omega)⟩ (Nat.le_of_ble_eq_true rfl) dL_law_1412 (fun _ _ q => q) rfl (zkI (fun b2 mi2 ml2 h2 => ?_))
  refine EZ_istore [(6, .int b2), (5, .int r), (0, .ref 99), (1, .ref 0), (2, .ref 61), (3, .ref 73), (4, .int i)] dL_law_1415 (by decide) rfl ?_
  refine EZ_aload_n 4 dL_law_1417 rfl rfl ?_
  refine EZ_callV (c_X6_thrown l hfl mi2 ml2) cw_L_107 (As := []) (st := []) wi_yX6_thrown we_yX6_thrown (ci := 6) (q := (RX6, TX6, 23)) rfl rfl (wl_atO tw_61) rfl ⟨Nat.le_of_ble_eq_true rfl, Nat.le_of_ble_eq_true rfl, (show ((k + 2) + 0) + 0 ≤ 601024 by omega), (show ((n + 12) + 0) + 0 ≤ 7293034 by omega)⟩ (Nat.le_of_ble_eq_true rfl) dL_law_1418 (fun _ _ q => q) rfl (zkE ?_)
  refine EZ_iload 1 dL_law_1421 rfl ?_
  refine EZ_icmp_eq 1428 dL_law_1423 (by decide) (fun _ => ?_) (fun q => absurd h2.2.1 q)
  refine EZ_iload 1 dL_law_1428 rfl ?_
  refine EZ_if_ne 1445 dL_law_1430 (by decide) (fun _ => ?_) (fun hr => ?_)
  · refine EZ_goto 1999 dL_law_1445 (by decide) ?_
    refine EZ_sub [2, 3, 4, 5, 6] rfl ?_
    exact K _ _ mi2 ml2 (by omega) (by omega) h2.1
  · refine EZ_aload_n 5 dL_law_1433 rfl rfl ?_
    refine EZ_iconst 0 (by decide) dL_law_1434 ?_
    refine SZ_lald 0 _ tw_73 rfl (by decide) (h2.2.2 hr) dL_law_1435 ?_
    refine EZ_iload 0 dL_law_1436 rfl ?_
    refine EZ_i2l dL_law_1438 ?_
    refine EZ_lcmp dL_law_1439 ?_
    refine EZ_if_eq 1445 dL_law_1440 (by decide) (fun _ => ?_) (fun q => absurd ((lg_cmp_eq _ _).mpr rfl) q)
    refine EZ_goto 1999 dL_law_1445 (by decide) ?_
    refine EZ_sub [2, 3, 4, 5, 6] rfl ?_
    exact K _ _ mi2 ml2 (by omega) (by omega) h2.1
set_option maxRecDepth 100000 in
theorem lw_c23n (l : Launch) (hfl : l.stackTraces = false) {hh : List ExceptionTableEntry} {b L : Nat} {xs : Nat → Int32} {j : Nat} {i : Int32} (hi : i.toInt = ((4 * j : Nat) : Int)) (hj : 4 * j + 4 ≤ L) (hL : L ≤ 2048) {k n : Nat} (hk : k ≤ 5000 + 1000 * j) (hn : n ≤ 10000 + 10000 * j) {mi : MI} {ml : MJ} (R : Rel mi ml) (hb : ¬ xs (4 * j + 3) = 0) (K : LK hh l b L xs j i) : LW hh l b L xs k n 1352 [(0, .ref 99), (1, .ref 0), (2, .ref 61), (3, .ref 73), (4, .int i)] [] (wl mi ml) := by
  have e1 : (i + 1).toInt = ((4 * j + 1 : Nat) : Int) := (tI_add hi (show (1 : Int32).toInt = 1 from rfl) (by omega)).trans (by omega)
  have e2 : (i + 2).toInt = ((4 * j + 2 : Nat) : Int) := (tI_add hi (show (2 : Int32).toInt = 2 from rfl) (by omega)).trans (by omega)
  have e3 : (i + 3).toInt = ((4 * j + 3 : Nat) : Int) := (tI_add hi (show (3 : Int32).toInt = 3 from rfl) (by omega)).trans (by omega)
  have wn := wf_n R.1
  have wm := wf_m R.1
  have wt := wf_t R.1
  obtain ⟨np, nz, nz2, nN, nN2, nT⟩ := R.nums
  have w4 := R.1.1.2.2.2.2
  have hsp : (mi 62 4).toInt = (((mi 62 4).toInt.toNat : Nat) : Int) := by omega
  have hs1 : 1 ≤ (mi 62 4).toInt.toNat := by omega
  have hs10 : (mi 62 4).toInt.toNat ≤ 10 := by omega
  unfold LK at K
  refine EZ_aload_n 1 dL_law_1352 rfl rfl ?_
  refine EZ_aload_n 0 dL_law_1353 rfl rfl ?_
  refine EZ_iload 4 dL_law_1354 rfl ?_
  refine EZ_iconst 1 (by decide) dL_law_1356 ?_
  refine EZ_iadd dL_law_1357 ?_
  refine L_ld (4 * j + 1) e1 (by omega) dL_law_1358 ?_
  refine EZ_aload_n 0 dL_law_1359 rfl rfl ?_
  refine EZ_iload 4 dL_law_1360 rfl ?_
  refine EZ_iconst 2 (by decide) dL_law_1362 ?_
  refine EZ_iadd dL_law_1363 ?_
  refine L_ld (4 * j + 2) e2 (by omega) dL_law_1364 ?_
  refine EZ_aload_n 0 dL_law_1365 rfl rfl ?_
  refine EZ_iload 4 dL_law_1366 rfl ?_
  refine EZ_iconst 3 (by decide) dL_law_1368 ?_
  refine EZ_iadd dL_law_1369 ?_
  refine L_ld (4 * j + 3) e3 (by omega) dL_law_1370 ?_
  refine EZ_if_eq 1378 dL_law_1371 (by decide) (fun q => absurd q hb) (fun _ => ?_)
  refine EZ_iconst 1 (by decide) dL_law_1374 ?_
  refine EZ_goto 1379 dL_law_1375 (by decide) ?_
  refine EZ_aload_n 3 dL_law_1379 rfl rfl ?_
  refine L_callH (h_L_setMember l hfl mi ml (mi 62) R.1 R.2.1 (nV (mi 62)) wn.1 wn.2 (mV (mi 62)) wm.1 wm.2 (pV mi) (zV mi) np.1 np.2 nz.1 nz.2 _ _ rfl _ _ rfl _ True (b1 trivial)) cwH_187 (As := [.ref 0, .int (xs (4 * j + 1)), .int (xs (4 * j + 2)), .int 1, .ref 73]) (st := []) rfl ⟨Nat.le_of_ble_eq_true rfl, Nat.le_of_ble_eq_true rfl, (show k + 2 ≤ 601024 by omega), (show n + 12 ≤ 7293034 by omega)⟩ (Nat.le_of_ble_eq_true rfl) dL_law_1380 rfl (L_kQ (fun r mi1 ml1 h => ?_))
  refine EZ_istore [(5, .int r), (0, .ref 99), (1, .ref 0), (2, .ref 61), (3, .ref 73), (4, .int i)] dL_law_1383 (by decide) rfl ?_
  refine EZ_aload_n 3 dL_law_1385 rfl rfl ?_
  refine EZ_aload_n 1 dL_law_1386 rfl rfl ?_
  refine EZ_iload 5 dL_law_1387 rfl ?_
  refine EZ_iconst 1 (by decide) dL_law_1389 ?_
  refine EZ_iadd dL_law_1390 ?_
  refine L_ld (4 * j + 1) e1 (by omega) dL_law_1391 ?_
  refine EZ_aload_n 1 dL_law_1392 rfl rfl ?_
  refine EZ_iload 5 dL_law_1393 rfl ?_
  refine EZ_iconst 2 (by decide) dL_law_1395 ?_
  refine EZ_iadd dL_law_1396 ?_
  refine L_ld (4 * j + 2) e2 (by omega) dL_law_1397 ?_
  refine EZ_aload_n 1 dL_law_1398 rfl rfl ?_
  refine EZ_iload 5 dL_law_1399 rfl ?_
  refine EZ_iconst 3 (by decide) dL_law_1401 ?_
  refine EZ_iadd dL_law_1402 ?_
  refine L_ld (4 * j + 3) e3 (by omega) dL_law_1403 ?_
  refine EZ_if_eq 1411 dL_law_1404 (by decide) (fun q => absurd q hb) (fun _ => ?_)
  refine EZ_iconst 1 (by decide) dL_law_1407 ?_
  refine EZ_goto 1412 dL_law_1408 (by decide) ?_
  refine EZ_callV (b_setMember l hfl R _ _ rfl _ _ rfl _ True (b1 trivial) r h) cw_L_190 (As := [.int (xs (4 * j + 1)), .int (xs (4 * j + 2)), .int 1]) (st := []) wi_yX6_setMember we_yX6_setMember (ci := 6) (q := (RX6, TX6, 23)) rfl rfl (wl_atO tw_61) rfl ⟨Nat.le_of_ble_eq_true rfl, Nat.le_of_ble_eq_true rfl, (show (k + 2) + 0 ≤ 601024 by omega), (show (n + 12) + 0 ≤ 7293034 by omega)⟩ (Nat.le_of_ble_eq_true rfl) dL_law_1412 (fun _ _ q => q) rfl (zkI (fun b2 mi2 ml2 h2 => ?_))
  refine EZ_istore [(6, .int b2), (5, .int r), (0, .ref 99), (1, .ref 0), (2, .ref 61), (3, .ref 73), (4, .int i)] dL_law_1415 (by decide) rfl ?_
  refine EZ_aload_n 4 dL_law_1417 rfl rfl ?_
  refine EZ_callV (c_X6_thrown l hfl mi2 ml2) cw_L_107 (As := []) (st := []) wi_yX6_thrown we_yX6_thrown (ci := 6) (q := (RX6, TX6, 23)) rfl rfl (wl_atO tw_61) rfl ⟨Nat.le_of_ble_eq_true rfl, Nat.le_of_ble_eq_true rfl, (show ((k + 2) + 0) + 0 ≤ 601024 by omega), (show ((n + 12) + 0) + 0 ≤ 7293034 by omega)⟩ (Nat.le_of_ble_eq_true rfl) dL_law_1418 (fun _ _ q => q) rfl (zkE ?_)
  refine EZ_iload 1 dL_law_1421 rfl ?_
  refine EZ_icmp_eq 1428 dL_law_1423 (by decide) (fun _ => ?_) (fun q => absurd h2.2.1 q)
  refine EZ_iload 1 dL_law_1428 rfl ?_
  refine EZ_if_ne 1445 dL_law_1430 (by decide) (fun _ => ?_) (fun hr => ?_)
  · refine EZ_goto 1999 dL_law_1445 (by decide) ?_
    refine EZ_sub [2, 3, 4, 5, 6] rfl ?_
    exact K _ _ mi2 ml2 (by omega) (by omega) h2.1
  · refine EZ_aload_n 5 dL_law_1433 rfl rfl ?_
    refine EZ_iconst 0 (by decide) dL_law_1434 ?_
    refine SZ_lald 0 _ tw_73 rfl (by decide) (h2.2.2 hr) dL_law_1435 ?_
    refine EZ_iload 0 dL_law_1436 rfl ?_
    refine EZ_i2l dL_law_1438 ?_
    refine EZ_lcmp dL_law_1439 ?_
    refine EZ_if_eq 1445 dL_law_1440 (by decide) (fun _ => ?_) (fun q => absurd ((lg_cmp_eq _ _).mpr rfl) q)
    refine EZ_goto 1999 dL_law_1445 (by decide) ?_
    refine EZ_sub [2, 3, 4, 5, 6] rfl ?_
    exact K _ _ mi2 ml2 (by omega) (by omega) h2.1
set_option maxRecDepth 100000 in
theorem lw_c24 (l : Launch) (hfl : l.stackTraces = false) {hh : List ExceptionTableEntry} {b L : Nat} {xs : Nat → Int32} {j : Nat} {i : Int32} (hi : i.toInt = ((4 * j : Nat) : Int)) (hj : 4 * j + 4 ≤ L) (hL : L ≤ 2048) {k n : Nat} (hk : k ≤ 5000 + 1000 * j) (hn : n ≤ 10000 + 10000 * j) {mi : MI} {ml : MJ} (R : Rel mi ml) (K : LK hh l b L xs j i) : LW hh l b L xs k n 1448 [(0, .ref 99), (1, .ref 0), (2, .ref 61), (3, .ref 73), (4, .int i)] [] (wl mi ml) := by
  have e1 : (i + 1).toInt = ((4 * j + 1 : Nat) : Int) := (tI_add hi (show (1 : Int32).toInt = 1 from rfl) (by omega)).trans (by omega)
  have e2 : (i + 2).toInt = ((4 * j + 2 : Nat) : Int) := (tI_add hi (show (2 : Int32).toInt = 2 from rfl) (by omega)).trans (by omega)
  have e3 : (i + 3).toInt = ((4 * j + 3 : Nat) : Int) := (tI_add hi (show (3 : Int32).toInt = 3 from rfl) (by omega)).trans (by omega)
  have wn := wf_n R.1
  have wm := wf_m R.1
  have wt := wf_t R.1
  obtain ⟨np, nz, nz2, nN, nN2, nT⟩ := R.nums
  have w4 := R.1.1.2.2.2.2
  have hsp : (mi 62 4).toInt = (((mi 62 4).toInt.toNat : Nat) : Int) := by omega
  have hs1 : 1 ≤ (mi 62 4).toInt.toNat := by omega
  have hs10 : (mi 62 4).toInt.toNat ≤ 10 := by omega
  unfold LK at K
  refine EZ_aload_n 1 dL_law_1448 rfl rfl ?_
  refine EZ_aload_n 0 dL_law_1449 rfl rfl ?_
  refine EZ_iload 4 dL_law_1450 rfl ?_
  refine EZ_iconst 1 (by decide) dL_law_1452 ?_
  refine EZ_iadd dL_law_1453 ?_
  refine L_ld (4 * j + 1) e1 (by omega) dL_law_1454 ?_
  refine EZ_aload_n 3 dL_law_1455 rfl rfl ?_
  refine L_callH (h_L_mixer l hfl mi ml (mi 62) R.2.1 (mV (mi 62)) wm.1 wm.2 _ _ rfl) cwH_191 (As := [.ref 0, .int (xs (4 * j + 1)), .ref 73]) (st := []) rfl ⟨Nat.le_of_ble_eq_true rfl, Nat.le_of_ble_eq_true rfl, (show k + 1 ≤ 601024 by omega), (show n + 6 ≤ 7293034 by omega)⟩ (Nat.le_of_ble_eq_true rfl) dL_law_1456 rfl (L_kQ (fun r mi1 ml1 h => ?_))
  refine EZ_istore [(5, .int r), (0, .ref 99), (1, .ref 0), (2, .ref 61), (3, .ref 73), (4, .int i)] dL_law_1459 (by decide) rfl ?_
  refine EZ_aload_n 3 dL_law_1461 rfl rfl ?_
  refine EZ_aload_n 1 dL_law_1462 rfl rfl ?_
  refine EZ_iload 5 dL_law_1463 rfl ?_
  refine EZ_iconst 1 (by decide) dL_law_1465 ?_
  refine EZ_iadd dL_law_1466 ?_
  refine L_ld (4 * j + 1) e1 (by omega) dL_law_1467 ?_
  refine EZ_callV (b_mixer l hfl R _ _ rfl r h) cw_L_193 (As := [.int (xs (4 * j + 1))]) (st := []) wi_yX6_mixer we_yX6_mixer (ci := 6) (q := (RX6, TX6, 23)) rfl rfl (wl_atO tw_61) rfl ⟨Nat.le_of_ble_eq_true rfl, Nat.le_of_ble_eq_true rfl, (show (k + 1) + 0 ≤ 601024 by omega), (show (n + 6) + 0 ≤ 7293034 by omega)⟩ (Nat.le_of_ble_eq_true rfl) dL_law_1468 (fun _ _ q => q) rfl (zkI (fun b2 mi2 ml2 h2 => ?_))
  refine EZ_istore [(6, .int b2), (5, .int r), (0, .ref 99), (1, .ref 0), (2, .ref 61), (3, .ref 73), (4, .int i)] dL_law_1471 (by decide) rfl ?_
  refine EZ_aload_n 4 dL_law_1473 rfl rfl ?_
  refine EZ_callV (c_X6_thrown l hfl mi2 ml2) cw_L_107 (As := []) (st := []) wi_yX6_thrown we_yX6_thrown (ci := 6) (q := (RX6, TX6, 23)) rfl rfl (wl_atO tw_61) rfl ⟨Nat.le_of_ble_eq_true rfl, Nat.le_of_ble_eq_true rfl, (show ((k + 1) + 0) + 0 ≤ 601024 by omega), (show ((n + 6) + 0) + 0 ≤ 7293034 by omega)⟩ (Nat.le_of_ble_eq_true rfl) dL_law_1474 (fun _ _ q => q) rfl (zkE ?_)
  refine EZ_iload 1 dL_law_1477 rfl ?_
  refine EZ_icmp_eq 1484 dL_law_1479 (by decide) (fun _ => ?_) (fun q => absurd h2.2.1 q)
  refine EZ_iload 1 dL_law_1484 rfl ?_
  refine EZ_if_ne 1501 dL_law_1486 (by decide) (fun _ => ?_) (fun hr => ?_)
  · refine EZ_goto 1999 dL_law_1501 (by decide) ?_
    refine EZ_sub [2, 3, 4, 5, 6] rfl ?_
    exact K _ _ mi2 ml2 (by omega) (by omega) h2.1
  · refine EZ_aload_n 5 dL_law_1489 rfl rfl ?_
    refine EZ_iconst 0 (by decide) dL_law_1490 ?_
    refine SZ_lald 0 _ tw_73 rfl (by decide) (h2.2.2 hr) dL_law_1491 ?_
    refine EZ_iload 0 dL_law_1492 rfl ?_
    refine EZ_i2l dL_law_1494 ?_
    refine EZ_lcmp dL_law_1495 ?_
    refine EZ_if_eq 1501 dL_law_1496 (by decide) (fun _ => ?_) (fun q => absurd ((lg_cmp_eq _ _).mpr rfl) q)
    refine EZ_goto 1999 dL_law_1501 (by decide) ?_
    refine EZ_sub [2, 3, 4, 5, 6] rfl ?_
    exact K _ _ mi2 ml2 (by omega) (by omega) h2.1
set_option maxRecDepth 100000 in
theorem lw_c25z (l : Launch) (hfl : l.stackTraces = false) {hh : List ExceptionTableEntry} {b L : Nat} {xs : Nat → Int32} {j : Nat} {i : Int32} (hi : i.toInt = ((4 * j : Nat) : Int)) (hj : 4 * j + 4 ≤ L) (hL : L ≤ 2048) {k n : Nat} (hk : k ≤ 5000 + 1000 * j) (hn : n ≤ 10000 + 10000 * j) {mi : MI} {ml : MJ} (R : Rel mi ml) (hb : xs (4 * j + 3) = 0) (K : LK hh l b L xs j i) : LW hh l b L xs k n 1504 [(0, .ref 99), (1, .ref 0), (2, .ref 61), (3, .ref 73), (4, .int i)] [] (wl mi ml) := by
  have e1 : (i + 1).toInt = ((4 * j + 1 : Nat) : Int) := (tI_add hi (show (1 : Int32).toInt = 1 from rfl) (by omega)).trans (by omega)
  have e2 : (i + 2).toInt = ((4 * j + 2 : Nat) : Int) := (tI_add hi (show (2 : Int32).toInt = 2 from rfl) (by omega)).trans (by omega)
  have e3 : (i + 3).toInt = ((4 * j + 3 : Nat) : Int) := (tI_add hi (show (3 : Int32).toInt = 3 from rfl) (by omega)).trans (by omega)
  have wn := wf_n R.1
  have wm := wf_m R.1
  have wt := wf_t R.1
  obtain ⟨np, nz, nz2, nN, nN2, nT⟩ := R.nums
  have w4 := R.1.1.2.2.2.2
  have hsp : (mi 62 4).toInt = (((mi 62 4).toInt.toNat : Nat) : Int) := by omega
  have hs1 : 1 ≤ (mi 62 4).toInt.toNat := by omega
  have hs10 : (mi 62 4).toInt.toNat ≤ 10 := by omega
  unfold LK at K
  refine EZ_aload_n 1 dL_law_1504 rfl rfl ?_
  refine EZ_aload_n 0 dL_law_1505 rfl rfl ?_
  refine EZ_iload 4 dL_law_1506 rfl ?_
  refine EZ_iconst 1 (by decide) dL_law_1508 ?_
  refine EZ_iadd dL_law_1509 ?_
  refine L_ld (4 * j + 1) e1 (by omega) dL_law_1510 ?_
  refine EZ_aload_n 0 dL_law_1511 rfl rfl ?_
  refine EZ_iload 4 dL_law_1512 rfl ?_
  refine EZ_iconst 2 (by decide) dL_law_1514 ?_
  refine EZ_iadd dL_law_1515 ?_
  refine L_ld (4 * j + 2) e2 (by omega) dL_law_1516 ?_
  refine EZ_aload_n 0 dL_law_1517 rfl rfl ?_
  refine EZ_iload 4 dL_law_1518 rfl ?_
  refine EZ_iconst 3 (by decide) dL_law_1520 ?_
  refine EZ_iadd dL_law_1521 ?_
  refine L_ld (4 * j + 3) e3 (by omega) dL_law_1522 ?_
  refine EZ_if_eq 1530 dL_law_1523 (by decide) (fun _ => ?_) (fun q => absurd hb q)
  refine EZ_iconst 0 (by decide) dL_law_1530 ?_
  refine EZ_aload_n 3 dL_law_1531 rfl rfl ?_
  refine L_callH (h_L_addTest l hfl mi ml (mi 62) R.1 R.2.1 (nV (mi 62)) wn.1 wn.2 (mV (mi 62)) wm.1 wm.2 (tV (mi 62)) wt.1 wt.2 (pV mi) (zV mi) np.1 np.2 nz.1 nz.2 _ _ rfl _ _ rfl _ False (b0 (fun q => q))) cwH_194 (As := [.ref 0, .int (xs (4 * j + 1)), .int (xs (4 * j + 2)), .int 0, .ref 73]) (st := []) rfl ⟨Nat.le_of_ble_eq_true rfl, Nat.le_of_ble_eq_true rfl, (show k + 3 ≤ 601024 by omega), (show n + 18 ≤ 7293034 by omega)⟩ (Nat.le_of_ble_eq_true rfl) dL_law_1532 rfl (L_kQ (fun r mi1 ml1 h => ?_))
  refine EZ_istore [(5, .int r), (0, .ref 99), (1, .ref 0), (2, .ref 61), (3, .ref 73), (4, .int i)] dL_law_1535 (by decide) rfl ?_
  refine EZ_aload_n 3 dL_law_1537 rfl rfl ?_
  refine EZ_aload_n 1 dL_law_1538 rfl rfl ?_
  refine EZ_iload 5 dL_law_1539 rfl ?_
  refine EZ_iconst 1 (by decide) dL_law_1541 ?_
  refine EZ_iadd dL_law_1542 ?_
  refine L_ld (4 * j + 1) e1 (by omega) dL_law_1543 ?_
  refine EZ_aload_n 1 dL_law_1544 rfl rfl ?_
  refine EZ_iload 5 dL_law_1545 rfl ?_
  refine EZ_iconst 2 (by decide) dL_law_1547 ?_
  refine EZ_iadd dL_law_1548 ?_
  refine L_ld (4 * j + 2) e2 (by omega) dL_law_1549 ?_
  refine EZ_aload_n 1 dL_law_1550 rfl rfl ?_
  refine EZ_iload 5 dL_law_1551 rfl ?_
  refine EZ_iconst 3 (by decide) dL_law_1553 ?_
  refine EZ_iadd dL_law_1554 ?_
  refine L_ld (4 * j + 3) e3 (by omega) dL_law_1555 ?_
  refine EZ_if_eq 1563 dL_law_1556 (by decide) (fun _ => ?_) (fun q => absurd hb q)
  refine EZ_iconst 0 (by decide) dL_law_1563 ?_
  refine EZ_callV (b_addTest l hfl R _ _ rfl _ _ rfl _ False (b0 (fun q => q)) r h) cw_L_196 (As := [.int (xs (4 * j + 1)), .int (xs (4 * j + 2)), .int 0]) (st := []) wi_yX6_addTest we_yX6_addTest (ci := 6) (q := (RX6, TX6, 23)) rfl rfl (wl_atO tw_61) rfl ⟨Nat.le_of_ble_eq_true rfl, Nat.le_of_ble_eq_true rfl, (show (k + 3) + 0 ≤ 601024 by omega), (show (n + 18) + 0 ≤ 7293034 by omega)⟩ (Nat.le_of_ble_eq_true rfl) dL_law_1564 (fun _ _ q => q) rfl (zkI (fun b2 mi2 ml2 h2 => ?_))
  refine EZ_istore [(6, .int b2), (5, .int r), (0, .ref 99), (1, .ref 0), (2, .ref 61), (3, .ref 73), (4, .int i)] dL_law_1567 (by decide) rfl ?_
  refine EZ_aload_n 4 dL_law_1569 rfl rfl ?_
  refine EZ_callV (c_X6_thrown l hfl mi2 ml2) cw_L_107 (As := []) (st := []) wi_yX6_thrown we_yX6_thrown (ci := 6) (q := (RX6, TX6, 23)) rfl rfl (wl_atO tw_61) rfl ⟨Nat.le_of_ble_eq_true rfl, Nat.le_of_ble_eq_true rfl, (show ((k + 3) + 0) + 0 ≤ 601024 by omega), (show ((n + 18) + 0) + 0 ≤ 7293034 by omega)⟩ (Nat.le_of_ble_eq_true rfl) dL_law_1570 (fun _ _ q => q) rfl (zkE ?_)
  refine EZ_iload 1 dL_law_1573 rfl ?_
  refine EZ_icmp_eq 1580 dL_law_1575 (by decide) (fun _ => ?_) (fun q => absurd h2.2.1 q)
  refine EZ_iload 1 dL_law_1580 rfl ?_
  refine EZ_if_ne 1597 dL_law_1582 (by decide) (fun _ => ?_) (fun hr => ?_)
  · refine EZ_goto 1999 dL_law_1597 (by decide) ?_
    refine EZ_sub [2, 3, 4, 5, 6] rfl ?_
    exact K _ _ mi2 ml2 (by omega) (by omega) h2.1
  · refine EZ_aload_n 5 dL_law_1585 rfl rfl ?_
    refine EZ_iconst 0 (by decide) dL_law_1586 ?_
    refine SZ_lald 0 _ tw_73 rfl (by decide) (h2.2.2 hr) dL_law_1587 ?_
    refine EZ_iload 0 dL_law_1588 rfl ?_
    refine EZ_i2l dL_law_1590 ?_
    refine EZ_lcmp dL_law_1591 ?_
    refine EZ_if_eq 1597 dL_law_1592 (by decide) (fun _ => ?_) (fun q => absurd ((lg_cmp_eq _ _).mpr rfl) q)
    refine EZ_goto 1999 dL_law_1597 (by decide) ?_
    refine EZ_sub [2, 3, 4, 5, 6] rfl ?_
    exact K _ _ mi2 ml2 (by omega) (by omega) h2.1
set_option maxRecDepth 100000 in
theorem lw_c25n (l : Launch) (hfl : l.stackTraces = false) {hh : List ExceptionTableEntry} {b L : Nat} {xs : Nat → Int32} {j : Nat} {i : Int32} (hi : i.toInt = ((4 * j : Nat) : Int)) (hj : 4 * j + 4 ≤ L) (hL : L ≤ 2048) {k n : Nat} (hk : k ≤ 5000 + 1000 * j) (hn : n ≤ 10000 + 10000 * j) {mi : MI} {ml : MJ} (R : Rel mi ml) (hb : ¬ xs (4 * j + 3) = 0) (K : LK hh l b L xs j i) : LW hh l b L xs k n 1504 [(0, .ref 99), (1, .ref 0), (2, .ref 61), (3, .ref 73), (4, .int i)] [] (wl mi ml) := by
  have e1 : (i + 1).toInt = ((4 * j + 1 : Nat) : Int) := (tI_add hi (show (1 : Int32).toInt = 1 from rfl) (by omega)).trans (by omega)
  have e2 : (i + 2).toInt = ((4 * j + 2 : Nat) : Int) := (tI_add hi (show (2 : Int32).toInt = 2 from rfl) (by omega)).trans (by omega)
  have e3 : (i + 3).toInt = ((4 * j + 3 : Nat) : Int) := (tI_add hi (show (3 : Int32).toInt = 3 from rfl) (by omega)).trans (by omega)
  have wn := wf_n R.1
  have wm := wf_m R.1
  have wt := wf_t R.1
  obtain ⟨np, nz, nz2, nN, nN2, nT⟩ := R.nums
  have w4 := R.1.1.2.2.2.2
  have hsp : (mi 62 4).toInt = (((mi 62 4).toInt.toNat : Nat) : Int) := by omega
  have hs1 : 1 ≤ (mi 62 4).toInt.toNat := by omega
  have hs10 : (mi 62 4).toInt.toNat ≤ 10 := by omega
  unfold LK at K
  refine EZ_aload_n 1 dL_law_1504 rfl rfl ?_
  refine EZ_aload_n 0 dL_law_1505 rfl rfl ?_
  refine EZ_iload 4 dL_law_1506 rfl ?_
  refine EZ_iconst 1 (by decide) dL_law_1508 ?_
  refine EZ_iadd dL_law_1509 ?_
  refine L_ld (4 * j + 1) e1 (by omega) dL_law_1510 ?_
  refine EZ_aload_n 0 dL_law_1511 rfl rfl ?_
  refine EZ_iload 4 dL_law_1512 rfl ?_
  refine EZ_iconst 2 (by decide) dL_law_1514 ?_
  refine EZ_iadd dL_law_1515 ?_
  refine L_ld (4 * j + 2) e2 (by omega) dL_law_1516 ?_
  refine EZ_aload_n 0 dL_law_1517 rfl rfl ?_
  refine EZ_iload 4 dL_law_1518 rfl ?_
  refine EZ_iconst 3 (by decide) dL_law_1520 ?_
  refine EZ_iadd dL_law_1521 ?_
  refine L_ld (4 * j + 3) e3 (by omega) dL_law_1522 ?_
  refine EZ_if_eq 1530 dL_law_1523 (by decide) (fun q => absurd q hb) (fun _ => ?_)
  refine EZ_iconst 1 (by decide) dL_law_1526 ?_
  refine EZ_goto 1531 dL_law_1527 (by decide) ?_
  refine EZ_aload_n 3 dL_law_1531 rfl rfl ?_
  refine L_callH (h_L_addTest l hfl mi ml (mi 62) R.1 R.2.1 (nV (mi 62)) wn.1 wn.2 (mV (mi 62)) wm.1 wm.2 (tV (mi 62)) wt.1 wt.2 (pV mi) (zV mi) np.1 np.2 nz.1 nz.2 _ _ rfl _ _ rfl _ True (b1 trivial)) cwH_194 (As := [.ref 0, .int (xs (4 * j + 1)), .int (xs (4 * j + 2)), .int 1, .ref 73]) (st := []) rfl ⟨Nat.le_of_ble_eq_true rfl, Nat.le_of_ble_eq_true rfl, (show k + 3 ≤ 601024 by omega), (show n + 18 ≤ 7293034 by omega)⟩ (Nat.le_of_ble_eq_true rfl) dL_law_1532 rfl (L_kQ (fun r mi1 ml1 h => ?_))
  refine EZ_istore [(5, .int r), (0, .ref 99), (1, .ref 0), (2, .ref 61), (3, .ref 73), (4, .int i)] dL_law_1535 (by decide) rfl ?_
  refine EZ_aload_n 3 dL_law_1537 rfl rfl ?_
  refine EZ_aload_n 1 dL_law_1538 rfl rfl ?_
  refine EZ_iload 5 dL_law_1539 rfl ?_
  refine EZ_iconst 1 (by decide) dL_law_1541 ?_
  refine EZ_iadd dL_law_1542 ?_
  refine L_ld (4 * j + 1) e1 (by omega) dL_law_1543 ?_
  refine EZ_aload_n 1 dL_law_1544 rfl rfl ?_
  refine EZ_iload 5 dL_law_1545 rfl ?_
  refine EZ_iconst 2 (by decide) dL_law_1547 ?_
  refine EZ_iadd dL_law_1548 ?_
  refine L_ld (4 * j + 2) e2 (by omega) dL_law_1549 ?_
  refine EZ_aload_n 1 dL_law_1550 rfl rfl ?_
  refine EZ_iload 5 dL_law_1551 rfl ?_
  refine EZ_iconst 3 (by decide) dL_law_1553 ?_
  refine EZ_iadd dL_law_1554 ?_
  refine L_ld (4 * j + 3) e3 (by omega) dL_law_1555 ?_
  refine EZ_if_eq 1563 dL_law_1556 (by decide) (fun q => absurd q hb) (fun _ => ?_)
  refine EZ_iconst 1 (by decide) dL_law_1559 ?_
  refine EZ_goto 1564 dL_law_1560 (by decide) ?_
  refine EZ_callV (b_addTest l hfl R _ _ rfl _ _ rfl _ True (b1 trivial) r h) cw_L_196 (As := [.int (xs (4 * j + 1)), .int (xs (4 * j + 2)), .int 1]) (st := []) wi_yX6_addTest we_yX6_addTest (ci := 6) (q := (RX6, TX6, 23)) rfl rfl (wl_atO tw_61) rfl ⟨Nat.le_of_ble_eq_true rfl, Nat.le_of_ble_eq_true rfl, (show (k + 3) + 0 ≤ 601024 by omega), (show (n + 18) + 0 ≤ 7293034 by omega)⟩ (Nat.le_of_ble_eq_true rfl) dL_law_1564 (fun _ _ q => q) rfl (zkI (fun b2 mi2 ml2 h2 => ?_))
  refine EZ_istore [(6, .int b2), (5, .int r), (0, .ref 99), (1, .ref 0), (2, .ref 61), (3, .ref 73), (4, .int i)] dL_law_1567 (by decide) rfl ?_
  refine EZ_aload_n 4 dL_law_1569 rfl rfl ?_
  refine EZ_callV (c_X6_thrown l hfl mi2 ml2) cw_L_107 (As := []) (st := []) wi_yX6_thrown we_yX6_thrown (ci := 6) (q := (RX6, TX6, 23)) rfl rfl (wl_atO tw_61) rfl ⟨Nat.le_of_ble_eq_true rfl, Nat.le_of_ble_eq_true rfl, (show ((k + 3) + 0) + 0 ≤ 601024 by omega), (show ((n + 18) + 0) + 0 ≤ 7293034 by omega)⟩ (Nat.le_of_ble_eq_true rfl) dL_law_1570 (fun _ _ q => q) rfl (zkE ?_)
  refine EZ_iload 1 dL_law_1573 rfl ?_
  refine EZ_icmp_eq 1580 dL_law_1575 (by decide) (fun _ => ?_) (fun q => absurd h2.2.1 q)
  refine EZ_iload 1 dL_law_1580 rfl ?_
  refine EZ_if_ne 1597 dL_law_1582 (by decide) (fun _ => ?_) (fun hr => ?_)
  · refine EZ_goto 1999 dL_law_1597 (by decide) ?_
    refine EZ_sub [2, 3, 4, 5, 6] rfl ?_
    exact K _ _ mi2 ml2 (by omega) (by omega) h2.1
  · refine EZ_aload_n 5 dL_law_1585 rfl rfl ?_
    refine EZ_iconst 0 (by decide) dL_law_1586 ?_
    refine SZ_lald 0 _ tw_73 rfl (by decide) (h2.2.2 hr) dL_law_1587 ?_
    refine EZ_iload 0 dL_law_1588 rfl ?_
    refine EZ_i2l dL_law_1590 ?_
    refine EZ_lcmp dL_law_1591 ?_
    refine EZ_if_eq 1597 dL_law_1592 (by decide) (fun _ => ?_) (fun q => absurd ((lg_cmp_eq _ _).mpr rfl) q)
    refine EZ_goto 1999 dL_law_1597 (by decide) ?_
    refine EZ_sub [2, 3, 4, 5, 6] rfl ?_
    exact K _ _ mi2 ml2 (by omega) (by omega) h2.1
set_option maxRecDepth 100000 in
theorem lw_c26 (l : Launch) (hfl : l.stackTraces = false) {hh : List ExceptionTableEntry} {b L : Nat} {xs : Nat → Int32} {j : Nat} {i : Int32} (hi : i.toInt = ((4 * j : Nat) : Int)) (hj : 4 * j + 4 ≤ L) (hL : L ≤ 2048) {k n : Nat} (hk : k ≤ 5000 + 1000 * j) (hn : n ≤ 10000 + 10000 * j) {mi : MI} {ml : MJ} (R : Rel mi ml) (K : LK hh l b L xs j i) : LW hh l b L xs k n 1600 [(0, .ref 99), (1, .ref 0), (2, .ref 61), (3, .ref 73), (4, .int i)] [] (wl mi ml) := by
  have e1 : (i + 1).toInt = ((4 * j + 1 : Nat) : Int) := (tI_add hi (show (1 : Int32).toInt = 1 from rfl) (by omega)).trans (by omega)
  have e2 : (i + 2).toInt = ((4 * j + 2 : Nat) : Int) := (tI_add hi (show (2 : Int32).toInt = 2 from rfl) (by omega)).trans (by omega)
  have e3 : (i + 3).toInt = ((4 * j + 3 : Nat) : Int) := (tI_add hi (show (3 : Int32).toInt = 3 from rfl) (by omega)).trans (by omega)
  have wn := wf_n R.1
  have wm := wf_m R.1
  have wt := wf_t R.1
  obtain ⟨np, nz, nz2, nN, nN2, nT⟩ := R.nums
  have w4 := R.1.1.2.2.2.2
  have hsp : (mi 62 4).toInt = (((mi 62 4).toInt.toNat : Nat) : Int) := by omega
  have hs1 : 1 ≤ (mi 62 4).toInt.toNat := by omega
  have hs10 : (mi 62 4).toInt.toNat ≤ 10 := by omega
  unfold LK at K
  refine EZ_aload_n 1 dL_law_1600 rfl rfl ?_
  refine EZ_aload_n 0 dL_law_1601 rfl rfl ?_
  refine EZ_iload 4 dL_law_1602 rfl ?_
  refine EZ_iconst 1 (by decide) dL_law_1604 ?_
  refine EZ_iadd dL_law_1605 ?_
  refine L_ld (4 * j + 1) e1 (by omega) dL_law_1606 ?_
  refine EZ_aload_n 0 dL_law_1607 rfl rfl ?_
  refine EZ_iload 4 dL_law_1608 rfl ?_
  refine EZ_iconst 2 (by decide) dL_law_1610 ?_
  refine EZ_iadd dL_law_1611 ?_
  refine L_ld (4 * j + 2) e2 (by omega) dL_law_1612 ?_
  refine EZ_aload_n 3 dL_law_1613 rfl rfl ?_
  refine L_callH (h_L_test l hfl mi ml (mi 62) R.2.1 (tV (mi 62)) wt.1 wt.2 _ _ rfl _ _ rfl) cwH_197 (As := [.ref 0, .int (xs (4 * j + 1)), .int (xs (4 * j + 2)), .ref 73]) (st := []) rfl ⟨Nat.le_of_ble_eq_true rfl, Nat.le_of_ble_eq_true rfl, (show k + 1 ≤ 601024 by omega), (show n + 6 ≤ 7293034 by omega)⟩ (Nat.le_of_ble_eq_true rfl) dL_law_1614 rfl (L_kQ (fun r mi1 ml1 h => ?_))
  refine EZ_istore [(5, .int r), (0, .ref 99), (1, .ref 0), (2, .ref 61), (3, .ref 73), (4, .int i)] dL_law_1617 (by decide) rfl ?_
  refine EZ_aload_n 3 dL_law_1619 rfl rfl ?_
  refine EZ_aload_n 1 dL_law_1620 rfl rfl ?_
  refine EZ_iload 5 dL_law_1621 rfl ?_
  refine EZ_iconst 1 (by decide) dL_law_1623 ?_
  refine EZ_iadd dL_law_1624 ?_
  refine L_ld (4 * j + 1) e1 (by omega) dL_law_1625 ?_
  refine EZ_aload_n 1 dL_law_1626 rfl rfl ?_
  refine EZ_iload 5 dL_law_1627 rfl ?_
  refine EZ_iconst 2 (by decide) dL_law_1629 ?_
  refine EZ_iadd dL_law_1630 ?_
  refine L_ld (4 * j + 2) e2 (by omega) dL_law_1631 ?_
  refine EZ_callV (b_test l hfl R _ _ rfl _ _ rfl r h) cw_L_199 (As := [.int (xs (4 * j + 1)), .int (xs (4 * j + 2))]) (st := []) wi_yX6_test we_yX6_test (ci := 6) (q := (RX6, TX6, 23)) rfl rfl (wl_atO tw_61) rfl ⟨Nat.le_of_ble_eq_true rfl, Nat.le_of_ble_eq_true rfl, (show (k + 1) + 0 ≤ 601024 by omega), (show (n + 6) + 0 ≤ 7293034 by omega)⟩ (Nat.le_of_ble_eq_true rfl) dL_law_1632 (fun _ _ q => q) rfl (zkI (fun b2 mi2 ml2 h2 => ?_))
  refine EZ_istore [(6, .int b2), (5, .int r), (0, .ref 99), (1, .ref 0), (2, .ref 61), (3, .ref 73), (4, .int i)] dL_law_1635 (by decide) rfl ?_
  refine EZ_aload_n 4 dL_law_1637 rfl rfl ?_
  refine EZ_callV (c_X6_thrown l hfl mi2 ml2) cw_L_107 (As := []) (st := []) wi_yX6_thrown we_yX6_thrown (ci := 6) (q := (RX6, TX6, 23)) rfl rfl (wl_atO tw_61) rfl ⟨Nat.le_of_ble_eq_true rfl, Nat.le_of_ble_eq_true rfl, (show ((k + 1) + 0) + 0 ≤ 601024 by omega), (show ((n + 6) + 0) + 0 ≤ 7293034 by omega)⟩ (Nat.le_of_ble_eq_true rfl) dL_law_1638 (fun _ _ q => q) rfl (zkE ?_)
  refine EZ_iload 1 dL_law_1641 rfl ?_
  refine EZ_icmp_eq 1648 dL_law_1643 (by decide) (fun _ => ?_) (fun q => absurd h2.2.1 q)
  refine EZ_iload 1 dL_law_1648 rfl ?_
  refine EZ_if_ne 1665 dL_law_1650 (by decide) (fun _ => ?_) (fun hr => ?_)
  · refine EZ_goto 1999 dL_law_1665 (by decide) ?_
    refine EZ_sub [2, 3, 4, 5, 6] rfl ?_
    exact K _ _ mi2 ml2 (by omega) (by omega) h2.1
  · refine EZ_aload_n 5 dL_law_1653 rfl rfl ?_
    refine EZ_iconst 0 (by decide) dL_law_1654 ?_
    refine SZ_lald 0 _ tw_73 rfl (by decide) (h2.2.2 hr) dL_law_1655 ?_
    refine EZ_iload 0 dL_law_1656 rfl ?_
    refine EZ_i2l dL_law_1658 ?_
    refine EZ_lcmp dL_law_1659 ?_
    refine EZ_if_eq 1665 dL_law_1660 (by decide) (fun _ => ?_) (fun q => absurd ((lg_cmp_eq _ _).mpr rfl) q)
    refine EZ_goto 1999 dL_law_1665 (by decide) ?_
    refine EZ_sub [2, 3, 4, 5, 6] rfl ?_
    exact K _ _ mi2 ml2 (by omega) (by omega) h2.1
set_option maxRecDepth 100000 in
theorem lw_c27 (l : Launch) (hfl : l.stackTraces = false) {hh : List ExceptionTableEntry} {b L : Nat} {xs : Nat → Int32} {j : Nat} {i : Int32} (hi : i.toInt = ((4 * j : Nat) : Int)) (hj : 4 * j + 4 ≤ L) (hL : L ≤ 2048) {k n : Nat} (hk : k ≤ 5000 + 1000 * j) (hn : n ≤ 10000 + 10000 * j) {mi : MI} {ml : MJ} (R : Rel mi ml) (K : LK hh l b L xs j i) : LW hh l b L xs k n 1668 [(0, .ref 99), (1, .ref 0), (2, .ref 61), (3, .ref 73), (4, .int i)] [] (wl mi ml) := by
  have e1 : (i + 1).toInt = ((4 * j + 1 : Nat) : Int) := (tI_add hi (show (1 : Int32).toInt = 1 from rfl) (by omega)).trans (by omega)
  have e2 : (i + 2).toInt = ((4 * j + 2 : Nat) : Int) := (tI_add hi (show (2 : Int32).toInt = 2 from rfl) (by omega)).trans (by omega)
  have e3 : (i + 3).toInt = ((4 * j + 3 : Nat) : Int) := (tI_add hi (show (3 : Int32).toInt = 3 from rfl) (by omega)).trans (by omega)
  have wn := wf_n R.1
  have wm := wf_m R.1
  have wt := wf_t R.1
  obtain ⟨np, nz, nz2, nN, nN2, nT⟩ := R.nums
  have w4 := R.1.1.2.2.2.2
  have hsp : (mi 62 4).toInt = (((mi 62 4).toInt.toNat : Nat) : Int) := by omega
  have hs1 : 1 ≤ (mi 62 4).toInt.toNat := by omega
  have hs10 : (mi 62 4).toInt.toNat ≤ 10 := by omega
  unfold LK at K
  refine EZ_aload_n 1 dL_law_1668 rfl rfl ?_
  refine EZ_aload_n 0 dL_law_1669 rfl rfl ?_
  refine EZ_iload 4 dL_law_1670 rfl ?_
  refine EZ_iconst 1 (by decide) dL_law_1672 ?_
  refine EZ_iadd dL_law_1673 ?_
  refine L_ld (4 * j + 1) e1 (by omega) dL_law_1674 ?_
  refine EZ_aload_n 0 dL_law_1675 rfl rfl ?_
  refine EZ_iload 4 dL_law_1676 rfl ?_
  refine EZ_iconst 2 (by decide) dL_law_1678 ?_
  refine EZ_iadd dL_law_1679 ?_
  refine L_ld (4 * j + 2) e2 (by omega) dL_law_1680 ?_
  refine EZ_aload_n 3 dL_law_1681 rfl rfl ?_
  refine L_callH (h_L_heard l hfl mi ml (mi 62) R.1 R.2.1 (nV (mi 62)) wn.1 wn.2 (mV (mi 62)) wm.1 wm.2 _ _ _ _ rfl rfl) cwH_200 (As := [.ref 0, .int (xs (4 * j + 1)), .int (xs (4 * j + 2)), .ref 73]) (st := []) rfl ⟨Nat.le_of_ble_eq_true rfl, Nat.le_of_ble_eq_true rfl, (show k + 2 ≤ 601024 by omega), (show n + 12 ≤ 7293034 by omega)⟩ (Nat.le_of_ble_eq_true rfl) dL_law_1682 rfl (L_kQ (fun r mi1 ml1 h => ?_))
  refine EZ_istore [(5, .int r), (0, .ref 99), (1, .ref 0), (2, .ref 61), (3, .ref 73), (4, .int i)] dL_law_1685 (by decide) rfl ?_
  refine EZ_aload_n 3 dL_law_1687 rfl rfl ?_
  refine EZ_aload_n 1 dL_law_1688 rfl rfl ?_
  refine EZ_iload 5 dL_law_1689 rfl ?_
  refine EZ_iconst 1 (by decide) dL_law_1691 ?_
  refine EZ_iadd dL_law_1692 ?_
  refine L_ld (4 * j + 1) e1 (by omega) dL_law_1693 ?_
  refine EZ_aload_n 1 dL_law_1694 rfl rfl ?_
  refine EZ_iload 5 dL_law_1695 rfl ?_
  refine EZ_iconst 2 (by decide) dL_law_1697 ?_
  refine EZ_iadd dL_law_1698 ?_
  refine L_ld (4 * j + 2) e2 (by omega) dL_law_1699 ?_
  refine EZ_callV (b_heard l hfl R _ _ _ _ rfl rfl r h) cw_L_202 (As := [.int (xs (4 * j + 1)), .int (xs (4 * j + 2))]) (st := []) wi_yX6_heard we_yX6_heard (ci := 6) (q := (RX6, TX6, 23)) rfl rfl (wl_atO tw_61) rfl ⟨Nat.le_of_ble_eq_true rfl, Nat.le_of_ble_eq_true rfl, (show (k + 2) + 0 ≤ 601024 by omega), (show (n + 12) + 0 ≤ 7293034 by omega)⟩ (Nat.le_of_ble_eq_true rfl) dL_law_1700 (fun _ _ q => q) rfl (zkI (fun b2 mi2 ml2 h2 => ?_))
  refine EZ_istore [(6, .int b2), (5, .int r), (0, .ref 99), (1, .ref 0), (2, .ref 61), (3, .ref 73), (4, .int i)] dL_law_1703 (by decide) rfl ?_
  refine EZ_aload_n 4 dL_law_1705 rfl rfl ?_
  refine EZ_callV (c_X6_thrown l hfl mi2 ml2) cw_L_107 (As := []) (st := []) wi_yX6_thrown we_yX6_thrown (ci := 6) (q := (RX6, TX6, 23)) rfl rfl (wl_atO tw_61) rfl ⟨Nat.le_of_ble_eq_true rfl, Nat.le_of_ble_eq_true rfl, (show ((k + 2) + 0) + 0 ≤ 601024 by omega), (show ((n + 12) + 0) + 0 ≤ 7293034 by omega)⟩ (Nat.le_of_ble_eq_true rfl) dL_law_1706 (fun _ _ q => q) rfl (zkE ?_)
  refine EZ_iload 1 dL_law_1709 rfl ?_
  refine EZ_icmp_eq 1716 dL_law_1711 (by decide) (fun _ => ?_) (fun q => absurd h2.2.1 q)
  refine EZ_iload 1 dL_law_1716 rfl ?_
  refine EZ_if_ne 1733 dL_law_1718 (by decide) (fun _ => ?_) (fun hr => ?_)
  · refine EZ_goto 1999 dL_law_1733 (by decide) ?_
    refine EZ_sub [2, 3, 4, 5, 6] rfl ?_
    exact K _ _ mi2 ml2 (by omega) (by omega) h2.1
  · refine EZ_aload_n 5 dL_law_1721 rfl rfl ?_
    refine EZ_iconst 0 (by decide) dL_law_1722 ?_
    refine SZ_lald 0 _ tw_73 rfl (by decide) (h2.2.2 hr) dL_law_1723 ?_
    refine EZ_iload 0 dL_law_1724 rfl ?_
    refine EZ_i2l dL_law_1726 ?_
    refine EZ_lcmp dL_law_1727 ?_
    refine EZ_if_eq 1733 dL_law_1728 (by decide) (fun _ => ?_) (fun q => absurd ((lg_cmp_eq _ _).mpr rfl) q)
    refine EZ_goto 1999 dL_law_1733 (by decide) ?_
    refine EZ_sub [2, 3, 4, 5, 6] rfl ?_
    exact K _ _ mi2 ml2 (by omega) (by omega) h2.1
set_option maxRecDepth 100000 in
theorem lw_c28 (l : Launch) (hfl : l.stackTraces = false) {hh : List ExceptionTableEntry} {b L : Nat} {xs : Nat → Int32} {j : Nat} {i : Int32} (hi : i.toInt = ((4 * j : Nat) : Int)) (hj : 4 * j + 4 ≤ L) (hL : L ≤ 2048) {k n : Nat} (hk : k ≤ 5000 + 1000 * j) (hn : n ≤ 10000 + 10000 * j) {mi : MI} {ml : MJ} (R : Rel mi ml) (K : LK hh l b L xs j i) : LW hh l b L xs k n 1736 [(0, .ref 99), (1, .ref 0), (2, .ref 61), (3, .ref 73), (4, .int i)] [] (wl mi ml) := by
  have e1 : (i + 1).toInt = ((4 * j + 1 : Nat) : Int) := (tI_add hi (show (1 : Int32).toInt = 1 from rfl) (by omega)).trans (by omega)
  have e2 : (i + 2).toInt = ((4 * j + 2 : Nat) : Int) := (tI_add hi (show (2 : Int32).toInt = 2 from rfl) (by omega)).trans (by omega)
  have e3 : (i + 3).toInt = ((4 * j + 3 : Nat) : Int) := (tI_add hi (show (3 : Int32).toInt = 3 from rfl) (by omega)).trans (by omega)
  have wn := wf_n R.1
  have wm := wf_m R.1
  have wt := wf_t R.1
  obtain ⟨np, nz, nz2, nN, nN2, nT⟩ := R.nums
  have w4 := R.1.1.2.2.2.2
  have hsp : (mi 62 4).toInt = (((mi 62 4).toInt.toNat : Nat) : Int) := by omega
  have hs1 : 1 ≤ (mi 62 4).toInt.toNat := by omega
  have hs10 : (mi 62 4).toInt.toNat ≤ 10 := by omega
  unfold LK at K
  refine EZ_aload_n 1 dL_law_1736 rfl rfl ?_
  refine EZ_callV (c_X5_diagnoses l hfl mi ml (mi 62) R.1 R.2.1 (nV (mi 62)) wn.1 wn.2 (mV (mi 62)) wm.1 wm.2 (tV (mi 62)) wt.1 wt.2) cw_L_203 (As := []) (st := []) wi_yX5_diagnoses we_yX5_diagnoses (ci := 5) (q := (RX5, TX5, 7)) rfl rfl (wl_atO tw_0) rfl ⟨Nat.le_of_ble_eq_true rfl, Nat.le_of_ble_eq_true rfl, (show k + 0 ≤ 601024 by omega), (show n + 0 ≤ 7293034 by omega)⟩ (Nat.le_of_ble_eq_true rfl) dL_law_1737 (fun _ _ q => q) rfl (zkI (fun a9 mi1 ml1 h => ?_))
  refine EZ_aload_n 2 dL_law_1740 rfl rfl ?_
  refine EZ_callV (d_diagnoses l hfl R  a9 h) cw_L_206 (As := []) (st := [.int a9]) wi_yX6_diagnoses we_yX6_diagnoses (ci := 6) (q := (RX6, TX6, 23)) rfl rfl (wl_atO tw_61) rfl ⟨Nat.le_of_ble_eq_true rfl, Nat.le_of_ble_eq_true rfl, (show (k + 0) + 0 ≤ 601024 by omega), (show (n + 0) + 0 ≤ 7293034 by omega)⟩ (Nat.le_of_ble_eq_true rfl) dL_law_1741 (fun _ _ q => q) rfl (zkI (fun b2 mi2 ml2 h2 => ?_))
  refine EZ_icmp_eq 1999 dL_law_1744 (by decide) (fun _ => ?_) (fun q => absurd h2.2 q)
  exact K _ _ mi2 ml2 (by omega) (by omega) h2.1
set_option maxRecDepth 100000 in
theorem lw_c29 (l : Launch) (hfl : l.stackTraces = false) {hh : List ExceptionTableEntry} {b L : Nat} {xs : Nat → Int32} {j : Nat} {i : Int32} (hi : i.toInt = ((4 * j : Nat) : Int)) (hj : 4 * j + 4 ≤ L) (hL : L ≤ 2048) {k n : Nat} (hk : k ≤ 5000 + 1000 * j) (hn : n ≤ 10000 + 10000 * j) {mi : MI} {ml : MJ} (R : Rel mi ml) (K : LK hh l b L xs j i) : LW hh l b L xs k n 1749 [(0, .ref 99), (1, .ref 0), (2, .ref 61), (3, .ref 73), (4, .int i)] [] (wl mi ml) := by
  have e1 : (i + 1).toInt = ((4 * j + 1 : Nat) : Int) := (tI_add hi (show (1 : Int32).toInt = 1 from rfl) (by omega)).trans (by omega)
  have e2 : (i + 2).toInt = ((4 * j + 2 : Nat) : Int) := (tI_add hi (show (2 : Int32).toInt = 2 from rfl) (by omega)).trans (by omega)
  have e3 : (i + 3).toInt = ((4 * j + 3 : Nat) : Int) := (tI_add hi (show (3 : Int32).toInt = 3 from rfl) (by omega)).trans (by omega)
  have wn := wf_n R.1
  have wm := wf_m R.1
  have wt := wf_t R.1
  obtain ⟨np, nz, nz2, nN, nN2, nT⟩ := R.nums
  have w4 := R.1.1.2.2.2.2
  have hsp : (mi 62 4).toInt = (((mi 62 4).toInt.toNat : Nat) : Int) := by omega
  have hs1 : 1 ≤ (mi 62 4).toInt.toNat := by omega
  have hs10 : (mi 62 4).toInt.toNat ≤ 10 := by omega
  unfold LK at K
  refine EZ_aload_n 1 dL_law_1749 rfl rfl ?_
  refine EZ_callV (c_X5_diagnosis l hfl mi ml (mi 62) R.1 R.2.1 (nV (mi 62)) wn.1 wn.2 (mV (mi 62)) wm.1 wm.2 (tV (mi 62)) wt.1 wt.2) cw_L_207 (As := []) (st := []) wi_yX5_diagnosis we_yX5_diagnosis (ci := 5) (q := (RX5, TX5, 7)) rfl rfl (wl_atO tw_0) rfl ⟨Nat.le_of_ble_eq_true rfl, Nat.le_of_ble_eq_true rfl, (show k + 0 ≤ 601024 by omega), (show n + 0 ≤ 7293034 by omega)⟩ (Nat.le_of_ble_eq_true rfl) dL_law_1750 (fun _ _ q => q) rfl (zkI (fun a9 mi1 ml1 h => ?_))
  refine EZ_aload_n 2 dL_law_1753 rfl rfl ?_
  refine EZ_callV (d_diagnosis l hfl R  a9 h) cw_L_210 (As := []) (st := [.int a9]) wi_yX6_diagnosis we_yX6_diagnosis (ci := 6) (q := (RX6, TX6, 23)) rfl rfl (wl_atO tw_61) rfl ⟨Nat.le_of_ble_eq_true rfl, Nat.le_of_ble_eq_true rfl, (show (k + 0) + 0 ≤ 601024 by omega), (show (n + 0) + 0 ≤ 7293034 by omega)⟩ (Nat.le_of_ble_eq_true rfl) dL_law_1754 (fun _ _ q => q) rfl (zkI (fun b2 mi2 ml2 h2 => ?_))
  refine EZ_icmp_eq 1999 dL_law_1757 (by decide) (fun _ => ?_) (fun q => absurd h2.2 q)
  exact K _ _ mi2 ml2 (by omega) (by omega) h2.1
set_option maxRecDepth 100000 in
theorem lw_c30z (l : Launch) (hfl : l.stackTraces = false) {hh : List ExceptionTableEntry} {b L : Nat} {xs : Nat → Int32} {j : Nat} {i : Int32} (hi : i.toInt = ((4 * j : Nat) : Int)) (hj : 4 * j + 4 ≤ L) (hL : L ≤ 2048) {k n : Nat} (hk : k ≤ 5000 + 1000 * j) (hn : n ≤ 10000 + 10000 * j) {mi : MI} {ml : MJ} (R : Rel mi ml) (hb : xs (4 * j + 1) = 0) (K : LK hh l b L xs j i) : LW hh l b L xs k n 1762 [(0, .ref 99), (1, .ref 0), (2, .ref 61), (3, .ref 73), (4, .int i)] [] (wl mi ml) := by
  have e1 : (i + 1).toInt = ((4 * j + 1 : Nat) : Int) := (tI_add hi (show (1 : Int32).toInt = 1 from rfl) (by omega)).trans (by omega)
  have e2 : (i + 2).toInt = ((4 * j + 2 : Nat) : Int) := (tI_add hi (show (2 : Int32).toInt = 2 from rfl) (by omega)).trans (by omega)
  have e3 : (i + 3).toInt = ((4 * j + 3 : Nat) : Int) := (tI_add hi (show (3 : Int32).toInt = 3 from rfl) (by omega)).trans (by omega)
  have wn := wf_n R.1
  have wm := wf_m R.1
  have wt := wf_t R.1
  obtain ⟨np, nz, nz2, nN, nN2, nT⟩ := R.nums
  have w4 := R.1.1.2.2.2.2
  have hsp : (mi 62 4).toInt = (((mi 62 4).toInt.toNat : Nat) : Int) := by omega
  have hs1 : 1 ≤ (mi 62 4).toInt.toNat := by omega
  have hs10 : (mi 62 4).toInt.toNat ≤ 10 := by omega
  unfold LK at K
  refine EZ_aload_n 1 dL_law_1762 rfl rfl ?_
  refine EZ_aload_n 0 dL_law_1763 rfl rfl ?_
  refine EZ_iload 4 dL_law_1764 rfl ?_
  refine EZ_iconst 1 (by decide) dL_law_1766 ?_
  refine EZ_iadd dL_law_1767 ?_
  refine L_ld (4 * j + 1) e1 (by omega) dL_law_1768 ?_
  refine EZ_if_eq 1776 dL_law_1769 (by decide) (fun _ => ?_) (fun q => absurd hb q)
  refine EZ_iconst 0 (by decide) dL_law_1776 ?_
  have hc := c_X5_certain l hfl mi ml (mi 62) R.1 R.2.1 (nV (mi 62)) wn.1 wn.2 (mV (mi 62)) wm.1 wm.2 (tV (mi 62)) wt.1 wt.2 _ False (b0 (fun q => q))
  rw [bI_f (fun q => q)] at hc
  refine EZ_callV (hc) cw_L_211 (As := [.int 0]) (st := []) wi_yX5_certain we_yX5_certain (ci := 5) (q := (RX5, TX5, 7)) rfl rfl (wl_atO tw_0) rfl ⟨Nat.le_of_ble_eq_true rfl, Nat.le_of_ble_eq_true rfl, (show k + 0 ≤ 601024 by omega), (show n + 0 ≤ 7293034 by omega)⟩ (Nat.le_of_ble_eq_true rfl) dL_law_1777 (fun _ _ q => q) rfl (zkI (fun a9 mi1 ml1 h => ?_))
  refine EZ_aload_n 2 dL_law_1780 rfl rfl ?_
  refine EZ_aload_n 0 dL_law_1781 rfl rfl ?_
  refine EZ_iload 4 dL_law_1782 rfl ?_
  refine EZ_iconst 1 (by decide) dL_law_1784 ?_
  refine EZ_iadd dL_law_1785 ?_
  refine L_ld (4 * j + 1) e1 (by omega) dL_law_1786 ?_
  refine EZ_if_eq 1794 dL_law_1787 (by decide) (fun _ => ?_) (fun q => absurd hb q)
  refine EZ_iconst 0 (by decide) dL_law_1794 ?_
  refine EZ_callV (d_certain l hfl R _ False (b0 (fun q => q)) a9 h) cw_L_215 (As := [.int 0]) (st := [.int a9]) wi_yX6_certain we_yX6_certain (ci := 6) (q := (RX6, TX6, 23)) rfl rfl (wl_atO tw_61) rfl ⟨Nat.le_of_ble_eq_true rfl, Nat.le_of_ble_eq_true rfl, (show (k + 0) + 0 ≤ 601024 by omega), (show (n + 0) + 0 ≤ 7293034 by omega)⟩ (Nat.le_of_ble_eq_true rfl) dL_law_1795 (fun _ _ q => q) rfl (zkI (fun b2 mi2 ml2 h2 => ?_))
  refine EZ_icmp_eq 1999 dL_law_1798 (by decide) (fun _ => ?_) (fun q => absurd h2.2 q)
  exact K _ _ mi2 ml2 (by omega) (by omega) h2.1
set_option maxRecDepth 100000 in
theorem lw_c30n (l : Launch) (hfl : l.stackTraces = false) {hh : List ExceptionTableEntry} {b L : Nat} {xs : Nat → Int32} {j : Nat} {i : Int32} (hi : i.toInt = ((4 * j : Nat) : Int)) (hj : 4 * j + 4 ≤ L) (hL : L ≤ 2048) {k n : Nat} (hk : k ≤ 5000 + 1000 * j) (hn : n ≤ 10000 + 10000 * j) {mi : MI} {ml : MJ} (R : Rel mi ml) (hb : ¬ xs (4 * j + 1) = 0) (K : LK hh l b L xs j i) : LW hh l b L xs k n 1762 [(0, .ref 99), (1, .ref 0), (2, .ref 61), (3, .ref 73), (4, .int i)] [] (wl mi ml) := by
  have e1 : (i + 1).toInt = ((4 * j + 1 : Nat) : Int) := (tI_add hi (show (1 : Int32).toInt = 1 from rfl) (by omega)).trans (by omega)
  have e2 : (i + 2).toInt = ((4 * j + 2 : Nat) : Int) := (tI_add hi (show (2 : Int32).toInt = 2 from rfl) (by omega)).trans (by omega)
  have e3 : (i + 3).toInt = ((4 * j + 3 : Nat) : Int) := (tI_add hi (show (3 : Int32).toInt = 3 from rfl) (by omega)).trans (by omega)
  have wn := wf_n R.1
  have wm := wf_m R.1
  have wt := wf_t R.1
  obtain ⟨np, nz, nz2, nN, nN2, nT⟩ := R.nums
  have w4 := R.1.1.2.2.2.2
  have hsp : (mi 62 4).toInt = (((mi 62 4).toInt.toNat : Nat) : Int) := by omega
  have hs1 : 1 ≤ (mi 62 4).toInt.toNat := by omega
  have hs10 : (mi 62 4).toInt.toNat ≤ 10 := by omega
  unfold LK at K
  refine EZ_aload_n 1 dL_law_1762 rfl rfl ?_
  refine EZ_aload_n 0 dL_law_1763 rfl rfl ?_
  refine EZ_iload 4 dL_law_1764 rfl ?_
  refine EZ_iconst 1 (by decide) dL_law_1766 ?_
  refine EZ_iadd dL_law_1767 ?_
  refine L_ld (4 * j + 1) e1 (by omega) dL_law_1768 ?_
  refine EZ_if_eq 1776 dL_law_1769 (by decide) (fun q => absurd q hb) (fun _ => ?_)
  refine EZ_iconst 1 (by decide) dL_law_1772 ?_
  refine EZ_goto 1777 dL_law_1773 (by decide) ?_
  have hc := c_X5_certain l hfl mi ml (mi 62) R.1 R.2.1 (nV (mi 62)) wn.1 wn.2 (mV (mi 62)) wm.1 wm.2 (tV (mi 62)) wt.1 wt.2 _ True (b1 trivial)
  rw [bI_t trivial] at hc
  refine EZ_callV (hc) cw_L_211 (As := [.int 1]) (st := []) wi_yX5_certain we_yX5_certain (ci := 5) (q := (RX5, TX5, 7)) rfl rfl (wl_atO tw_0) rfl ⟨Nat.le_of_ble_eq_true rfl, Nat.le_of_ble_eq_true rfl, (show k + 0 ≤ 601024 by omega), (show n + 0 ≤ 7293034 by omega)⟩ (Nat.le_of_ble_eq_true rfl) dL_law_1777 (fun _ _ q => q) rfl (zkI (fun a9 mi1 ml1 h => ?_))
  refine EZ_aload_n 2 dL_law_1780 rfl rfl ?_
  refine EZ_aload_n 0 dL_law_1781 rfl rfl ?_
  refine EZ_iload 4 dL_law_1782 rfl ?_
  refine EZ_iconst 1 (by decide) dL_law_1784 ?_
  refine EZ_iadd dL_law_1785 ?_
  refine L_ld (4 * j + 1) e1 (by omega) dL_law_1786 ?_
  refine EZ_if_eq 1794 dL_law_1787 (by decide) (fun q => absurd q hb) (fun _ => ?_)
  refine EZ_iconst 1 (by decide) dL_law_1790 ?_
  refine EZ_goto 1795 dL_law_1791 (by decide) ?_
  refine EZ_callV (d_certain l hfl R _ True (b1 trivial) a9 h) cw_L_215 (As := [.int 1]) (st := [.int a9]) wi_yX6_certain we_yX6_certain (ci := 6) (q := (RX6, TX6, 23)) rfl rfl (wl_atO tw_61) rfl ⟨Nat.le_of_ble_eq_true rfl, Nat.le_of_ble_eq_true rfl, (show (k + 0) + 0 ≤ 601024 by omega), (show (n + 0) + 0 ≤ 7293034 by omega)⟩ (Nat.le_of_ble_eq_true rfl) dL_law_1795 (fun _ _ q => q) rfl (zkI (fun b2 mi2 ml2 h2 => ?_))
  refine EZ_icmp_eq 1999 dL_law_1798 (by decide) (fun _ => ?_) (fun q => absurd h2.2 q)
  exact K _ _ mi2 ml2 (by omega) (by omega) h2.1
set_option maxRecDepth 100000 in
theorem lw_c31 (l : Launch) (hfl : l.stackTraces = false) {hh : List ExceptionTableEntry} {b L : Nat} {xs : Nat → Int32} {j : Nat} {i : Int32} (hi : i.toInt = ((4 * j : Nat) : Int)) (hj : 4 * j + 4 ≤ L) (hL : L ≤ 2048) {k n : Nat} (hk : k ≤ 5000 + 1000 * j) (hn : n ≤ 10000 + 10000 * j) {mi : MI} {ml : MJ} (R : Rel mi ml) (K : LK hh l b L xs j i) : LW hh l b L xs k n 1803 [(0, .ref 99), (1, .ref 0), (2, .ref 61), (3, .ref 73), (4, .int i)] [] (wl mi ml) := by
  have e1 : (i + 1).toInt = ((4 * j + 1 : Nat) : Int) := (tI_add hi (show (1 : Int32).toInt = 1 from rfl) (by omega)).trans (by omega)
  have e2 : (i + 2).toInt = ((4 * j + 2 : Nat) : Int) := (tI_add hi (show (2 : Int32).toInt = 2 from rfl) (by omega)).trans (by omega)
  have e3 : (i + 3).toInt = ((4 * j + 3 : Nat) : Int) := (tI_add hi (show (3 : Int32).toInt = 3 from rfl) (by omega)).trans (by omega)
  have wn := wf_n R.1
  have wm := wf_m R.1
  have wt := wf_t R.1
  obtain ⟨np, nz, nz2, nN, nN2, nT⟩ := R.nums
  have w4 := R.1.1.2.2.2.2
  have hsp : (mi 62 4).toInt = (((mi 62 4).toInt.toNat : Nat) : Int) := by omega
  have hs1 : 1 ≤ (mi 62 4).toInt.toNat := by omega
  have hs10 : (mi 62 4).toInt.toNat ≤ 10 := by omega
  unfold LK at K
  refine EZ_aload_n 1 dL_law_1803 rfl rfl ?_
  refine EZ_aload_n 0 dL_law_1804 rfl rfl ?_
  refine EZ_iload 4 dL_law_1805 rfl ?_
  refine EZ_iconst 1 (by decide) dL_law_1807 ?_
  refine EZ_iadd dL_law_1808 ?_
  refine L_ld (4 * j + 1) e1 (by omega) dL_law_1809 ?_
  refine EZ_aload_n 3 dL_law_1810 rfl rfl ?_
  refine L_callH (h_L_bestTest l hfl mi ml (mi 62) R.1 R.2.1 (nV (mi 62)) wn.1 wn.2 (mV (mi 62)) wm.1 wm.2 (tV (mi 62)) wt.1 wt.2 _ _ rfl) cwH_216 (As := [.ref 0, .int (xs (4 * j + 1)), .ref 73]) (st := []) rfl ⟨Nat.le_of_ble_eq_true rfl, Nat.le_of_ble_eq_true rfl, (show k + 1 ≤ 601024 by omega), (show n + 6 ≤ 7293034 by omega)⟩ (Nat.le_of_ble_eq_true rfl) dL_law_1811 rfl (L_kQ (fun r mi1 ml1 h => ?_))
  refine EZ_istore [(5, .int r), (0, .ref 99), (1, .ref 0), (2, .ref 61), (3, .ref 73), (4, .int i)] dL_law_1814 (by decide) rfl ?_
  refine EZ_aload_n 3 dL_law_1816 rfl rfl ?_
  refine EZ_aload_n 1 dL_law_1817 rfl rfl ?_
  refine EZ_iload 5 dL_law_1818 rfl ?_
  refine EZ_iconst 1 (by decide) dL_law_1820 ?_
  refine EZ_iadd dL_law_1821 ?_
  refine L_ld (4 * j + 1) e1 (by omega) dL_law_1822 ?_
  refine EZ_callV (b_bestTest l hfl R _ _ rfl r h) cw_L_218 (As := [.int (xs (4 * j + 1))]) (st := []) wi_yX6_bestTest we_yX6_bestTest (ci := 6) (q := (RX6, TX6, 23)) rfl rfl (wl_atO tw_61) rfl ⟨Nat.le_of_ble_eq_true rfl, Nat.le_of_ble_eq_true rfl, (show (k + 1) + 0 ≤ 601024 by omega), (show (n + 6) + 0 ≤ 7293034 by omega)⟩ (Nat.le_of_ble_eq_true rfl) dL_law_1823 (fun _ _ q => q) rfl (zkI (fun b2 mi2 ml2 h2 => ?_))
  refine EZ_istore [(6, .int b2), (5, .int r), (0, .ref 99), (1, .ref 0), (2, .ref 61), (3, .ref 73), (4, .int i)] dL_law_1826 (by decide) rfl ?_
  refine EZ_aload_n 4 dL_law_1828 rfl rfl ?_
  refine EZ_callV (c_X6_thrown l hfl mi2 ml2) cw_L_107 (As := []) (st := []) wi_yX6_thrown we_yX6_thrown (ci := 6) (q := (RX6, TX6, 23)) rfl rfl (wl_atO tw_61) rfl ⟨Nat.le_of_ble_eq_true rfl, Nat.le_of_ble_eq_true rfl, (show ((k + 1) + 0) + 0 ≤ 601024 by omega), (show ((n + 6) + 0) + 0 ≤ 7293034 by omega)⟩ (Nat.le_of_ble_eq_true rfl) dL_law_1829 (fun _ _ q => q) rfl (zkE ?_)
  refine EZ_iload 1 dL_law_1832 rfl ?_
  refine EZ_icmp_eq 1839 dL_law_1834 (by decide) (fun _ => ?_) (fun q => absurd h2.2.1 q)
  refine EZ_iload 1 dL_law_1839 rfl ?_
  refine EZ_if_ne 1856 dL_law_1841 (by decide) (fun _ => ?_) (fun hr => ?_)
  · refine EZ_goto 1999 dL_law_1856 (by decide) ?_
    refine EZ_sub [2, 3, 4, 5, 6] rfl ?_
    exact K _ _ mi2 ml2 (by omega) (by omega) h2.1
  · refine EZ_aload_n 5 dL_law_1844 rfl rfl ?_
    refine EZ_iconst 0 (by decide) dL_law_1845 ?_
    refine SZ_lald 0 _ tw_73 rfl (by decide) (h2.2.2 hr) dL_law_1846 ?_
    refine EZ_iload 0 dL_law_1847 rfl ?_
    refine EZ_i2l dL_law_1849 ?_
    refine EZ_lcmp dL_law_1850 ?_
    refine EZ_if_eq 1856 dL_law_1851 (by decide) (fun _ => ?_) (fun q => absurd ((lg_cmp_eq _ _).mpr rfl) q)
    refine EZ_goto 1999 dL_law_1856 (by decide) ?_
    refine EZ_sub [2, 3, 4, 5, 6] rfl ?_
    exact K _ _ mi2 ml2 (by omega) (by omega) h2.1
set_option maxRecDepth 100000 in
theorem lw_c32 (l : Launch) (hfl : l.stackTraces = false) {hh : List ExceptionTableEntry} {b L : Nat} {xs : Nat → Int32} {j : Nat} {i : Int32} (hi : i.toInt = ((4 * j : Nat) : Int)) (hj : 4 * j + 4 ≤ L) (hL : L ≤ 2048) {k n : Nat} (hk : k ≤ 5000 + 1000 * j) (hn : n ≤ 10000 + 10000 * j) {mi : MI} {ml : MJ} (R : Rel mi ml) (K : LK hh l b L xs j i) : LW hh l b L xs k n 1859 [(0, .ref 99), (1, .ref 0), (2, .ref 61), (3, .ref 73), (4, .int i)] [] (wl mi ml) := by
  have e1 : (i + 1).toInt = ((4 * j + 1 : Nat) : Int) := (tI_add hi (show (1 : Int32).toInt = 1 from rfl) (by omega)).trans (by omega)
  have e2 : (i + 2).toInt = ((4 * j + 2 : Nat) : Int) := (tI_add hi (show (2 : Int32).toInt = 2 from rfl) (by omega)).trans (by omega)
  have e3 : (i + 3).toInt = ((4 * j + 3 : Nat) : Int) := (tI_add hi (show (3 : Int32).toInt = 3 from rfl) (by omega)).trans (by omega)
  have wn := wf_n R.1
  have wm := wf_m R.1
  have wt := wf_t R.1
  obtain ⟨np, nz, nz2, nN, nN2, nT⟩ := R.nums
  have w4 := R.1.1.2.2.2.2
  have hsp : (mi 62 4).toInt = (((mi 62 4).toInt.toNat : Nat) : Int) := by omega
  have hs1 : 1 ≤ (mi 62 4).toInt.toNat := by omega
  have hs10 : (mi 62 4).toInt.toNat ≤ 10 := by omega
  unfold LK at K
  refine EZ_aload_n 1 dL_law_1859 rfl rfl ?_
  refine EZ_aload_n 0 dL_law_1860 rfl rfl ?_
  refine EZ_iload 4 dL_law_1861 rfl ?_
  refine EZ_iconst 1 (by decide) dL_law_1863 ?_
  refine EZ_iadd dL_law_1864 ?_
  refine L_ld (4 * j + 1) e1 (by omega) dL_law_1865 ?_
  refine EZ_aload_n 3 dL_law_1866 rfl rfl ?_
  refine L_callH (h_L_append l hfl mi ml (NV mi) nN.1 nN.2 _ _ rfl) cwH_219 (As := [.ref 0, .int (xs (4 * j + 1)), .ref 73]) (st := []) rfl ⟨Nat.le_of_ble_eq_true rfl, Nat.le_of_ble_eq_true rfl, (show k + 1 ≤ 601024 by omega), (show n + 6 ≤ 7293034 by omega)⟩ (Nat.le_of_ble_eq_true rfl) dL_law_1867 rfl (L_kQ (fun r mi1 ml1 h => ?_))
  refine EZ_istore [(5, .int r), (0, .ref 99), (1, .ref 0), (2, .ref 61), (3, .ref 73), (4, .int i)] dL_law_1870 (by decide) rfl ?_
  refine EZ_aload_n 3 dL_law_1872 rfl rfl ?_
  refine EZ_aload_n 1 dL_law_1873 rfl rfl ?_
  refine EZ_iload 5 dL_law_1874 rfl ?_
  refine EZ_iconst 1 (by decide) dL_law_1876 ?_
  refine EZ_iadd dL_law_1877 ?_
  refine L_ld (4 * j + 1) e1 (by omega) dL_law_1878 ?_
  refine EZ_callV (b_append l hfl R _ _ rfl r h) cw_L_221 (As := [.int (xs (4 * j + 1))]) (st := []) wi_yX6_append we_yX6_append (ci := 6) (q := (RX6, TX6, 23)) rfl rfl (wl_atO tw_61) rfl ⟨Nat.le_of_ble_eq_true rfl, Nat.le_of_ble_eq_true rfl, (show (k + 1) + 0 ≤ 601024 by omega), (show (n + 6) + 0 ≤ 7293034 by omega)⟩ (Nat.le_of_ble_eq_true rfl) dL_law_1879 (fun _ _ q => q) rfl (zkI (fun b2 mi2 ml2 h2 => ?_))
  refine EZ_istore [(6, .int b2), (5, .int r), (0, .ref 99), (1, .ref 0), (2, .ref 61), (3, .ref 73), (4, .int i)] dL_law_1882 (by decide) rfl ?_
  refine EZ_aload_n 4 dL_law_1884 rfl rfl ?_
  refine EZ_callV (c_X6_thrown l hfl mi2 ml2) cw_L_107 (As := []) (st := []) wi_yX6_thrown we_yX6_thrown (ci := 6) (q := (RX6, TX6, 23)) rfl rfl (wl_atO tw_61) rfl ⟨Nat.le_of_ble_eq_true rfl, Nat.le_of_ble_eq_true rfl, (show ((k + 1) + 0) + 0 ≤ 601024 by omega), (show ((n + 6) + 0) + 0 ≤ 7293034 by omega)⟩ (Nat.le_of_ble_eq_true rfl) dL_law_1885 (fun _ _ q => q) rfl (zkE ?_)
  refine EZ_iload 1 dL_law_1888 rfl ?_
  refine EZ_icmp_eq 1895 dL_law_1890 (by decide) (fun _ => ?_) (fun q => absurd h2.2.1 q)
  refine EZ_iload 1 dL_law_1895 rfl ?_
  refine EZ_if_ne 1912 dL_law_1897 (by decide) (fun _ => ?_) (fun hr => ?_)
  · refine EZ_goto 1999 dL_law_1912 (by decide) ?_
    refine EZ_sub [2, 3, 4, 5, 6] rfl ?_
    exact K _ _ mi2 ml2 (by omega) (by omega) h2.1
  · refine EZ_aload_n 5 dL_law_1900 rfl rfl ?_
    refine EZ_iconst 0 (by decide) dL_law_1901 ?_
    refine SZ_lald 0 _ tw_73 rfl (by decide) (h2.2.2 hr) dL_law_1902 ?_
    refine EZ_iload 0 dL_law_1903 rfl ?_
    refine EZ_i2l dL_law_1905 ?_
    refine EZ_lcmp dL_law_1906 ?_
    refine EZ_if_eq 1912 dL_law_1907 (by decide) (fun _ => ?_) (fun q => absurd ((lg_cmp_eq _ _).mpr rfl) q)
    refine EZ_goto 1999 dL_law_1912 (by decide) ?_
    refine EZ_sub [2, 3, 4, 5, 6] rfl ?_
    exact K _ _ mi2 ml2 (by omega) (by omega) h2.1
set_option maxRecDepth 100000 in
theorem lw_c33 (l : Launch) (hfl : l.stackTraces = false) {hh : List ExceptionTableEntry} {b L : Nat} {xs : Nat → Int32} {j : Nat} {i : Int32} (hi : i.toInt = ((4 * j : Nat) : Int)) (hj : 4 * j + 4 ≤ L) (hL : L ≤ 2048) {k n : Nat} (hk : k ≤ 5000 + 1000 * j) (hn : n ≤ 10000 + 10000 * j) {mi : MI} {ml : MJ} (R : Rel mi ml) (K : LK hh l b L xs j i) : LW hh l b L xs k n 1915 [(0, .ref 99), (1, .ref 0), (2, .ref 61), (3, .ref 73), (4, .int i)] [] (wl mi ml) := by
  have e1 : (i + 1).toInt = ((4 * j + 1 : Nat) : Int) := (tI_add hi (show (1 : Int32).toInt = 1 from rfl) (by omega)).trans (by omega)
  have e2 : (i + 2).toInt = ((4 * j + 2 : Nat) : Int) := (tI_add hi (show (2 : Int32).toInt = 2 from rfl) (by omega)).trans (by omega)
  have e3 : (i + 3).toInt = ((4 * j + 3 : Nat) : Int) := (tI_add hi (show (3 : Int32).toInt = 3 from rfl) (by omega)).trans (by omega)
  have wn := wf_n R.1
  have wm := wf_m R.1
  have wt := wf_t R.1
  obtain ⟨np, nz, nz2, nN, nN2, nT⟩ := R.nums
  have w4 := R.1.1.2.2.2.2
  have hsp : (mi 62 4).toInt = (((mi 62 4).toInt.toNat : Nat) : Int) := by omega
  have hs1 : 1 ≤ (mi 62 4).toInt.toNat := by omega
  have hs10 : (mi 62 4).toInt.toNat ≤ 10 := by omega
  unfold LK at K
  refine EZ_aload_n 1 dL_law_1915 rfl rfl ?_
  refine EZ_callV (c_X5_clearText l hfl mi ml) cw_L_222 (As := []) (st := []) wi_yX5_clearText we_yX5_clearText (ci := 5) (q := (RX5, TX5, 7)) rfl rfl (wl_atO tw_0) rfl ⟨Nat.le_of_ble_eq_true rfl, Nat.le_of_ble_eq_true rfl, (show k + 0 ≤ 601024 by omega), (show n + 0 ≤ 7293034 by omega)⟩ (Nat.le_of_ble_eq_true rfl) dL_law_1916 (fun _ _ q => q) rfl (zkE ?_)
  refine EZ_aload_n 2 dL_law_1919 rfl rfl ?_
  refine EZ_callV (d_clearText l hfl R ) cw_L_225 (As := []) (st := [.int (mi 58 1)]) wi_yX6_clearText we_yX6_clearText (ci := 6) (q := (RX6, TX6, 23)) rfl rfl (wl_atO tw_61) rfl ⟨Nat.le_of_ble_eq_true rfl, Nat.le_of_ble_eq_true rfl, (show (k + 0) + 0 ≤ 601024 by omega), (show (n + 0) + 0 ≤ 7293034 by omega)⟩ (Nat.le_of_ble_eq_true rfl) dL_law_1920 (fun _ _ q => q) rfl (zkI (fun b2 mi2 ml2 h2 => ?_))
  refine EZ_icmp_eq 1999 dL_law_1923 (by decide) (fun _ => ?_) (fun q => absurd h2.2 q)
  exact K _ _ mi2 ml2 (by omega) (by omega) h2.1
set_option maxRecDepth 100000 in
theorem lw_c34 (l : Launch) (hfl : l.stackTraces = false) {hh : List ExceptionTableEntry} {b L : Nat} {xs : Nat → Int32} {j : Nat} {i : Int32} (hi : i.toInt = ((4 * j : Nat) : Int)) (hj : 4 * j + 4 ≤ L) (hL : L ≤ 2048) {k n : Nat} (hk : k ≤ 5000 + 1000 * j) (hn : n ≤ 10000 + 10000 * j) {mi : MI} {ml : MJ} (R : Rel mi ml) (K : LK hh l b L xs j i) : LW hh l b L xs k n 1928 [(0, .ref 99), (1, .ref 0), (2, .ref 61), (3, .ref 73), (4, .int i)] [] (wl mi ml) := by
  have e1 : (i + 1).toInt = ((4 * j + 1 : Nat) : Int) := (tI_add hi (show (1 : Int32).toInt = 1 from rfl) (by omega)).trans (by omega)
  have e2 : (i + 2).toInt = ((4 * j + 2 : Nat) : Int) := (tI_add hi (show (2 : Int32).toInt = 2 from rfl) (by omega)).trans (by omega)
  have e3 : (i + 3).toInt = ((4 * j + 3 : Nat) : Int) := (tI_add hi (show (3 : Int32).toInt = 3 from rfl) (by omega)).trans (by omega)
  have wn := wf_n R.1
  have wm := wf_m R.1
  have wt := wf_t R.1
  obtain ⟨np, nz, nz2, nN, nN2, nT⟩ := R.nums
  have w4 := R.1.1.2.2.2.2
  have hsp : (mi 62 4).toInt = (((mi 62 4).toInt.toNat : Nat) : Int) := by omega
  have hs1 : 1 ≤ (mi 62 4).toInt.toNat := by omega
  have hs10 : (mi 62 4).toInt.toNat ≤ 10 := by omega
  unfold LK at K
  refine EZ_aload_n 1 dL_law_1928 rfl rfl ?_
  refine EZ_callV (c_X5_parse l hfl mi ml (NV mi) nN.1 nN.2 (pV mi) (zV mi) np.1 np.2 nz.1 nz.2) cw_L_226 (As := []) (st := []) wi_yX5_parse we_yX5_parse (ci := 5) (q := (RX5, TX5, 7)) rfl rfl (wl_atO tw_0) rfl ⟨Nat.le_of_ble_eq_true rfl, Nat.le_of_ble_eq_true rfl, (show k + 0 ≤ 601024 by omega), (show n + 0 ≤ 7293034 by omega)⟩ (Nat.le_of_ble_eq_true rfl) dL_law_1929 (fun _ _ q => q) rfl (zkI (fun a9 mi1 ml1 h => ?_))
  refine EZ_aload_n 2 dL_law_1932 rfl rfl ?_
  refine EZ_callV (d_parse l hfl R  a9 h) cw_L_229 (As := []) (st := [.int a9]) wi_yX6_parse we_yX6_parse (ci := 6) (q := (RX6, TX6, 23)) rfl rfl (wl_atO tw_61) rfl ⟨Nat.le_of_ble_eq_true rfl, Nat.le_of_ble_eq_true rfl, (show (k + 0) + 0 ≤ 601024 by omega), (show (n + 0) + 0 ≤ 7293034 by omega)⟩ (Nat.le_of_ble_eq_true rfl) dL_law_1933 (fun _ _ q => q) rfl (zkI (fun b2 mi2 ml2 h2 => ?_))
  refine EZ_icmp_eq 1999 dL_law_1936 (by decide) (fun _ => ?_) (fun q => absurd h2.2 q)
  exact K _ _ mi2 ml2 (by omega) (by omega) h2.1
set_option maxRecDepth 100000 in
theorem lw_c35 (l : Launch) (hfl : l.stackTraces = false) {hh : List ExceptionTableEntry} {b L : Nat} {xs : Nat → Int32} {j : Nat} {i : Int32} (hi : i.toInt = ((4 * j : Nat) : Int)) (hj : 4 * j + 4 ≤ L) (hL : L ≤ 2048) {k n : Nat} (hk : k ≤ 5000 + 1000 * j) (hn : n ≤ 10000 + 10000 * j) {mi : MI} {ml : MJ} (R : Rel mi ml) (K : LK hh l b L xs j i) : LW hh l b L xs k n 1941 [(0, .ref 99), (1, .ref 0), (2, .ref 61), (3, .ref 73), (4, .int i)] [] (wl mi ml) := by
  have e1 : (i + 1).toInt = ((4 * j + 1 : Nat) : Int) := (tI_add hi (show (1 : Int32).toInt = 1 from rfl) (by omega)).trans (by omega)
  have e2 : (i + 2).toInt = ((4 * j + 2 : Nat) : Int) := (tI_add hi (show (2 : Int32).toInt = 2 from rfl) (by omega)).trans (by omega)
  have e3 : (i + 3).toInt = ((4 * j + 3 : Nat) : Int) := (tI_add hi (show (3 : Int32).toInt = 3 from rfl) (by omega)).trans (by omega)
  have wn := wf_n R.1
  have wm := wf_m R.1
  have wt := wf_t R.1
  obtain ⟨np, nz, nz2, nN, nN2, nT⟩ := R.nums
  have w4 := R.1.1.2.2.2.2
  have hsp : (mi 62 4).toInt = (((mi 62 4).toInt.toNat : Nat) : Int) := by omega
  have hs1 : 1 ≤ (mi 62 4).toInt.toNat := by omega
  have hs10 : (mi 62 4).toInt.toNat ≤ 10 := by omega
  unfold LK at K
  refine EZ_aload_n 1 dL_law_1941 rfl rfl ?_
  refine EZ_aload_n 3 dL_law_1942 rfl rfl ?_
  refine L_callH (h_L_undo l hfl mi ml (pV mi) (zV mi) np.1 np.2 nz.1 nz.2) cwH_230 (As := [.ref 0, .ref 73]) (st := []) rfl ⟨Nat.le_of_ble_eq_true rfl, Nat.le_of_ble_eq_true rfl, (show k + 1 ≤ 601024 by omega), (show n + 6 ≤ 7293034 by omega)⟩ (Nat.le_of_ble_eq_true rfl) dL_law_1943 rfl (L_kQ (fun r mi1 ml1 h => ?_))
  refine EZ_istore [(5, .int r), (0, .ref 99), (1, .ref 0), (2, .ref 61), (3, .ref 73), (4, .int i)] dL_law_1946 (by decide) rfl ?_
  refine EZ_aload_n 3 dL_law_1948 rfl rfl ?_
  refine EZ_callV (b_undo l hfl R  r h) cw_L_233 (As := []) (st := []) wi_yX6_undo we_yX6_undo (ci := 6) (q := (RX6, TX6, 23)) rfl rfl (wl_atO tw_61) rfl ⟨Nat.le_of_ble_eq_true rfl, Nat.le_of_ble_eq_true rfl, (show (k + 1) + 0 ≤ 601024 by omega), (show (n + 6) + 0 ≤ 7293034 by omega)⟩ (Nat.le_of_ble_eq_true rfl) dL_law_1949 (fun _ _ q => q) rfl (zkI (fun b2 mi2 ml2 h2 => ?_))
  refine EZ_istore [(6, .int b2), (5, .int r), (0, .ref 99), (1, .ref 0), (2, .ref 61), (3, .ref 73), (4, .int i)] dL_law_1952 (by decide) rfl ?_
  refine EZ_aload_n 4 dL_law_1954 rfl rfl ?_
  refine EZ_callV (c_X6_thrown l hfl mi2 ml2) cw_L_107 (As := []) (st := []) wi_yX6_thrown we_yX6_thrown (ci := 6) (q := (RX6, TX6, 23)) rfl rfl (wl_atO tw_61) rfl ⟨Nat.le_of_ble_eq_true rfl, Nat.le_of_ble_eq_true rfl, (show ((k + 1) + 0) + 0 ≤ 601024 by omega), (show ((n + 6) + 0) + 0 ≤ 7293034 by omega)⟩ (Nat.le_of_ble_eq_true rfl) dL_law_1955 (fun _ _ q => q) rfl (zkE ?_)
  refine EZ_iload 1 dL_law_1958 rfl ?_
  refine EZ_icmp_eq 1965 dL_law_1960 (by decide) (fun _ => ?_) (fun q => absurd h2.2.1 q)
  refine EZ_iload 1 dL_law_1965 rfl ?_
  refine EZ_if_ne 1982 dL_law_1967 (by decide) (fun _ => ?_) (fun hr => ?_)
  · refine EZ_goto 1999 dL_law_1982 (by decide) ?_
    refine EZ_sub [2, 3, 4, 5, 6] rfl ?_
    exact K _ _ mi2 ml2 (by omega) (by omega) h2.1
  · refine EZ_aload_n 5 dL_law_1970 rfl rfl ?_
    refine EZ_iconst 0 (by decide) dL_law_1971 ?_
    refine SZ_lald 0 _ tw_73 rfl (by decide) (h2.2.2 hr) dL_law_1972 ?_
    refine EZ_iload 0 dL_law_1973 rfl ?_
    refine EZ_i2l dL_law_1975 ?_
    refine EZ_lcmp dL_law_1976 ?_
    refine EZ_if_eq 1982 dL_law_1977 (by decide) (fun _ => ?_) (fun q => absurd ((lg_cmp_eq _ _).mpr rfl) q)
    refine EZ_goto 1999 dL_law_1982 (by decide) ?_
    refine EZ_sub [2, 3, 4, 5, 6] rfl ?_
    exact K _ _ mi2 ml2 (by omega) (by omega) h2.1
set_option maxRecDepth 100000 in
theorem lw_c36 (l : Launch) (hfl : l.stackTraces = false) {hh : List ExceptionTableEntry} {b L : Nat} {xs : Nat → Int32} {j : Nat} {i : Int32} (hi : i.toInt = ((4 * j : Nat) : Int)) (hj : 4 * j + 4 ≤ L) (hL : L ≤ 2048) {k n : Nat} (hk : k ≤ 5000 + 1000 * j) (hn : n ≤ 10000 + 10000 * j) {mi : MI} {ml : MJ} (R : Rel mi ml) (K : LK hh l b L xs j i) : LW hh l b L xs k n 1985 [(0, .ref 99), (1, .ref 0), (2, .ref 61), (3, .ref 73), (4, .int i)] [] (wl mi ml) := by
  have e1 : (i + 1).toInt = ((4 * j + 1 : Nat) : Int) := (tI_add hi (show (1 : Int32).toInt = 1 from rfl) (by omega)).trans (by omega)
  have e2 : (i + 2).toInt = ((4 * j + 2 : Nat) : Int) := (tI_add hi (show (2 : Int32).toInt = 2 from rfl) (by omega)).trans (by omega)
  have e3 : (i + 3).toInt = ((4 * j + 3 : Nat) : Int) := (tI_add hi (show (3 : Int32).toInt = 3 from rfl) (by omega)).trans (by omega)
  have wn := wf_n R.1
  have wm := wf_m R.1
  have wt := wf_t R.1
  obtain ⟨np, nz, nz2, nN, nN2, nT⟩ := R.nums
  have w4 := R.1.1.2.2.2.2
  have hsp : (mi 62 4).toInt = (((mi 62 4).toInt.toNat : Nat) : Int) := by omega
  have hs1 : 1 ≤ (mi 62 4).toInt.toNat := by omega
  have hs10 : (mi 62 4).toInt.toNat ≤ 10 := by omega
  unfold LK at K
  refine EZ_aload_n 1 dL_law_1985 rfl rfl ?_
  refine EZ_callV (c_X5_digest l hfl mi ml (mi 62) R.1 R.2.1 (nV (mi 62)) wn.1 wn.2 (mV (mi 62)) wm.1 wm.2 (tV (mi 62)) wt.1 wt.2 (NV mi) nN.1 nN.2 (zV mi) nz.1) cw_L_234 (As := []) (st := []) wi_yX5_digest we_yX5_digest (ci := 5) (q := (RX5, TX5, 7)) rfl rfl (wl_atO tw_0) rfl ⟨Nat.le_of_ble_eq_true rfl, Nat.le_of_ble_eq_true rfl, (show k + 0 ≤ 601024 by omega), (show n + 0 ≤ 7293034 by omega)⟩ (Nat.le_of_ble_eq_true rfl) dL_law_1986 (fun _ _ q => q) rfl (zkJ (fun a9 mi1 ml1 h => ?_))
  refine EZ_aload_n 2 dL_law_1989 rfl rfl ?_
  refine EZ_callV (d_digest l hfl R  a9 h) cw_L_237 (As := []) (st := [.long a9]) wi_yX6_digest we_yX6_digest (ci := 6) (q := (RX6, TX6, 23)) rfl rfl (wl_atO tw_61) rfl ⟨Nat.le_of_ble_eq_true rfl, Nat.le_of_ble_eq_true rfl, (show (k + 0) + 0 ≤ 601024 by omega), (show (n + 0) + 0 ≤ 7293034 by omega)⟩ (Nat.le_of_ble_eq_true rfl) dL_law_1990 (fun _ _ q => q) rfl (zkJ (fun b2 mi2 ml2 h2 => ?_))
  refine EZ_lcmp dL_law_1993 ?_
  refine EZ_if_eq 1999 dL_law_1994 (by decide) (fun _ => ?_) (fun q => absurd ((lg_cmp_eq _ _).mpr h2.2) q)
  exact K _ _ mi2 ml2 (by omega) (by omega) h2.1
end LW3
