section FA1
abbrev xIO : String := "java/lang/IndexOutOfBoundsException"
abbrev xIA : String := "java/lang/IllegalArgumentException"
abbrev xIS : String := "java/lang/IllegalStateException"
/-- what stands when something is thrown -/
def XW (P : String → MI → MJ → Prop) : String → AW → Prop := fun En w => ∃ (mi : MI) (ml : MJ), w = wl mi ml ∧ P En mi ml
theorem okXW {P : String → MI → MJ → Prop} {En : String} {mi : MI} {ml : MJ} (h : P En mi ml) : XW P En (wl mi ml) := ⟨mi, ml, rfl, h⟩
theorem XW.w {P P' : String → MI → MJ → Prop} (h : ∀ En mi ml, P En mi ml → P' En mi ml) : ∀ En w, XW P En w → XW P' En w := by
  intro En w hx
  obtain ⟨mi, ml, e, q⟩ := hx
  rw [e]
  exact okXW (h En mi ml q)
theorem pw_lt {n : Nat} (h : n ≤ 10) : 2 ^ n - 1 < 2147483648 := by
  have := Nat.pow_le_pow_right (show 0 < 2 by omega) h
  omega
set_option maxHeartbeats 1600000 in
set_option maxRecDepth 100000 in
theorem c_X5_needCarrier (l : Launch) (hfl : l.stackTraces = false) (mi : MI) (ml : MJ) (n : Nat) (hn : (mi 1 5).toInt = (n : Int)) (h10 : n ≤ 10) (x : Int32) (X : Int) (hX : x.toInt = X) : Ct l yX5_needCarrier (.code yX5_needCarrier cX5_needCarrier 2 none) 1 1 6 [.ref 0, .int x] (wl mi ml) (QV (fun mi9 ml9 => mi = mi9 ∧ ml = ml9 ∧ 0 ≤ X ∧ X < (n : Int))) (XW (fun En mi9 ml9 => En = xIO ∧ mi = mi9 ∧ ml = ml9 ∧ ¬ (0 ≤ X ∧ X < (n : Int)))) := by
  refine Ct_of (ini := false) pn_X5 hfl (fun h => nomatch h) (Nat.le_of_ble_eq_true rfl) ?_
  show E l RX5 cX5_needCarrier 2 none false [] (rmE 1 1 6) (wl mi ml) (TgM (wl mi ml) 1 6 (QV (fun mi9 ml9 => mi = mi9 ∧ ml = ml9 ∧ 0 ≤ X ∧ X < (n : Int))) (XW (fun En mi9 ml9 => En = xIO ∧ mi = mi9 ∧ ml = ml9 ∧ ¬ (0 ≤ X ∧ X < (n : Int))))) 0 0 0 [(0, .ref 0), (1, .int x)] [] (wl mi ml)
  refine E_aload_n 0 dX5_needCarrier_0 rfl rfl ?_
  refine gf_X5_10 tw_0 rfl dX5_needCarrier_1 ?_
  refine E_iload_n 1 dX5_needCarrier_4 rfl rfl ?_
  refine E_callV (c_X1_hasCarrier l hfl 1 isD_1 mi ml x X (n : Int) hX hn) cw_X5_314 (As := [.int x]) (st := []) wi_yX1_hasCarrier we_yX1_hasCarrier (ci := 1) (q := (RX1, TX1, 15)) rfl rfl (wl_atO isD_1.t) rfl ⟨Nat.le_of_ble_eq_true rfl, Nat.le_of_ble_eq_true rfl, Nat.le_of_ble_eq_true rfl, Nat.le_of_ble_eq_true rfl⟩ (Nat.le_of_ble_eq_true rfl) dX5_needCarrier_5 (fun _ _ h => h) rfl (kE ?_)
  refine B_ne 22 dX5_needCarrier_8 (by decide) (fun c_8 => ?_) (fun c_8 => ?_)
  · skip
    refine E_vret rfl (Nat.le_of_ble_eq_true rfl) (Nat.le_of_ble_eq_true rfl) dX5_needCarrier_22 ?_
    exact okQV ⟨rfl, rfl, c_8.1, c_8.2.1⟩
  · skip
    refine E_throwW (cls := "java/lang/IndexOutOfBoundsException") (names := ["java/lang/RuntimeException", "java/lang/Exception"]) (by decide) fitX wcl_X5_157 wz_IndexOutOfBoundsException str_317 atIO otIO rfl ⟨Nat.le_of_ble_eq_true rfl, Nat.le_of_ble_eq_true rfl, Nat.le_of_ble_eq_true rfl, Nat.le_of_ble_eq_true rfl⟩ (Nat.le_of_ble_eq_true rfl) (Nat.le_of_ble_eq_true rfl) dX5_needCarrier_11 dX5_needCarrier_14 dX5_needCarrier_15 dX5_needCarrier_18 dX5_needCarrier_21 ?_
    exact okXW ⟨rfl, rfl, rfl, fun q => c_8 ⟨q.1, q.2, by omega⟩⟩
set_option maxHeartbeats 1600000 in
set_option maxRecDepth 100000 in
theorem c_X5_needMixer (l : Launch) (hfl : l.stackTraces = false) (mi : MI) (ml : MJ) (m : Nat) (hm : (mi 1 8).toInt = (m : Int)) (h5 : m ≤ 5) (x : Int32) (X : Int) (hX : x.toInt = X) : Ct l yX5_needMixer (.code yX5_needMixer cX5_needMixer 2 none) 1 1 6 [.ref 0, .int x] (wl mi ml) (QV (fun mi9 ml9 => mi = mi9 ∧ ml = ml9 ∧ 0 ≤ X ∧ X < (m : Int))) (XW (fun En mi9 ml9 => En = xIO ∧ mi = mi9 ∧ ml = ml9 ∧ ¬ (0 ≤ X ∧ X < (m : Int)))) := by
  refine Ct_of (ini := false) pn_X5 hfl (fun h => nomatch h) (Nat.le_of_ble_eq_true rfl) ?_
  show E l RX5 cX5_needMixer 2 none false [] (rmE 1 1 6) (wl mi ml) (TgM (wl mi ml) 1 6 (QV (fun mi9 ml9 => mi = mi9 ∧ ml = ml9 ∧ 0 ≤ X ∧ X < (m : Int))) (XW (fun En mi9 ml9 => En = xIO ∧ mi = mi9 ∧ ml = ml9 ∧ ¬ (0 ≤ X ∧ X < (m : Int))))) 0 0 0 [(0, .ref 0), (1, .int x)] [] (wl mi ml)
  refine E_aload_n 0 dX5_needMixer_0 rfl rfl ?_
  refine gf_X5_10 tw_0 rfl dX5_needMixer_1 ?_
  refine E_iload_n 1 dX5_needMixer_4 rfl rfl ?_
  refine E_callV (c_X1_hasMixer l hfl 1 isD_1 mi ml x X (m : Int) hX hm) cw_X5_319 (As := [.int x]) (st := []) wi_yX1_hasMixer we_yX1_hasMixer (ci := 1) (q := (RX1, TX1, 15)) rfl rfl (wl_atO isD_1.t) rfl ⟨Nat.le_of_ble_eq_true rfl, Nat.le_of_ble_eq_true rfl, Nat.le_of_ble_eq_true rfl, Nat.le_of_ble_eq_true rfl⟩ (Nat.le_of_ble_eq_true rfl) dX5_needMixer_5 (fun _ _ h => h) rfl (kE ?_)
  refine B_ne 22 dX5_needMixer_8 (by decide) (fun c_8 => ?_) (fun c_8 => ?_)
  · skip
    refine E_vret rfl (Nat.le_of_ble_eq_true rfl) (Nat.le_of_ble_eq_true rfl) dX5_needMixer_22 ?_
    exact okQV ⟨rfl, rfl, c_8.1, c_8.2.1⟩
  · skip
    refine E_throwW (cls := "java/lang/IndexOutOfBoundsException") (names := ["java/lang/RuntimeException", "java/lang/Exception"]) (by decide) fitX wcl_X5_157 wz_IndexOutOfBoundsException str_322 atIO otIO rfl ⟨Nat.le_of_ble_eq_true rfl, Nat.le_of_ble_eq_true rfl, Nat.le_of_ble_eq_true rfl, Nat.le_of_ble_eq_true rfl⟩ (Nat.le_of_ble_eq_true rfl) (Nat.le_of_ble_eq_true rfl) dX5_needMixer_11 dX5_needMixer_14 dX5_needMixer_15 dX5_needMixer_18 dX5_needMixer_21 ?_
    exact okXW ⟨rfl, rfl, rfl, fun q => c_8 ⟨q.1, q.2, by omega⟩⟩
set_option maxHeartbeats 1600000 in
set_option maxRecDepth 100000 in
theorem c_X5_needSetOfCarriers (l : Launch) (hfl : l.stackTraces = false) (mi : MI) (ml : MJ) (n : Nat) (hn : (mi 1 5).toInt = (n : Int)) (h10 : n ≤ 10) (x : Int32) (X : Int) (hX : x.toInt = X) : Ct l yX5_needSetOfCarriers (.code yX5_needSetOfCarriers cX5_needSetOfCarriers 2 none) 1 1 6 [.ref 0, .int x] (wl mi ml) (QV (fun mi9 ml9 => mi = mi9 ∧ ml = ml9 ∧ (0 ≤ X ∧ X ≤ ((2 ^ n - 1 : Nat) : Int)))) (XW (fun En mi9 ml9 => En = xIA ∧ mi = mi9 ∧ ml = ml9 ∧ ¬ (0 ≤ X ∧ X ≤ ((2 ^ n - 1 : Nat) : Int)))) := by
  refine Ct_of (ini := false) pn_X5 hfl (fun h => nomatch h) (Nat.le_of_ble_eq_true rfl) ?_
  show E l RX5 cX5_needSetOfCarriers 2 none false [] (rmE 1 1 6) (wl mi ml) (TgM (wl mi ml) 1 6 (QV (fun mi9 ml9 => mi = mi9 ∧ ml = ml9 ∧ (0 ≤ X ∧ X ≤ ((2 ^ n - 1 : Nat) : Int)))) (XW (fun En mi9 ml9 => En = xIA ∧ mi = mi9 ∧ ml = ml9 ∧ ¬ (0 ≤ X ∧ X ≤ ((2 ^ n - 1 : Nat) : Int))))) 0 0 0 [(0, .ref 0), (1, .int x)] [] (wl mi ml)
  refine E_iload_n 1 dX5_needSetOfCarriers_0 rfl rfl ?_
  refine Y_lt X hX 15 dX5_needSetOfCarriers_1 (by decide) (fun c_1 => ?_) (fun c_1 => ?_)
  · skip
    refine E_throwW (cls := "java/lang/IllegalArgumentException") (names := ["java/lang/RuntimeException", "java/lang/Exception"]) (by decide) fitX wcl_X5_62 wz_IllegalArgumentException str_324 atIA otIA rfl ⟨Nat.le_of_ble_eq_true rfl, Nat.le_of_ble_eq_true rfl, Nat.le_of_ble_eq_true rfl, Nat.le_of_ble_eq_true rfl⟩ (Nat.le_of_ble_eq_true rfl) (Nat.le_of_ble_eq_true rfl) dX5_needSetOfCarriers_15 dX5_needSetOfCarriers_18 dX5_needSetOfCarriers_19 dX5_needSetOfCarriers_22 dX5_needSetOfCarriers_25 ?_
    exact okXW ⟨rfl, rfl, rfl, fun q => by omega⟩
  · skip
    refine E_iload_n 1 dX5_needSetOfCarriers_4 rfl rfl ?_
    refine E_aload_n 0 dX5_needSetOfCarriers_5 rfl rfl ?_
    refine gf_X5_10 tw_0 rfl dX5_needSetOfCarriers_6 ?_
    refine E_callV (c_X1_everyCarrier l hfl 1 isD_1 mi ml n hn (by omega)) cw_X5_146 (As := []) (st := [.int x]) wi_yX1_everyCarrier we_yX1_everyCarrier (ci := 1) (q := (RX1, TX1, 15)) rfl rfl (wl_atO isD_1.t) rfl ⟨Nat.le_of_ble_eq_true rfl, Nat.le_of_ble_eq_true rfl, Nat.le_of_ble_eq_true rfl, Nat.le_of_ble_eq_true rfl⟩ (Nat.le_of_ble_eq_true rfl) dX5_needSetOfCarriers_9 (fun _ _ h => h) rfl (kE ?_)
    refine Z_le X ((2 ^ n - 1 : Nat) : Int) hX (tI_nI (pw_lt (by omega))) 26 dX5_needSetOfCarriers_12 (by decide) (fun c_12 => ?_) (fun c_12 => ?_)
    · skip
      refine E_vret rfl (Nat.le_of_ble_eq_true rfl) (Nat.le_of_ble_eq_true rfl) dX5_needSetOfCarriers_26 ?_
      exact okQV ⟨rfl, rfl, by omega⟩
    · skip
      refine E_throwW (cls := "java/lang/IllegalArgumentException") (names := ["java/lang/RuntimeException", "java/lang/Exception"]) (by decide) fitX wcl_X5_62 wz_IllegalArgumentException str_324 atIA otIA rfl ⟨Nat.le_of_ble_eq_true rfl, Nat.le_of_ble_eq_true rfl, Nat.le_of_ble_eq_true rfl, Nat.le_of_ble_eq_true rfl⟩ (Nat.le_of_ble_eq_true rfl) (Nat.le_of_ble_eq_true rfl) dX5_needSetOfCarriers_15 dX5_needSetOfCarriers_18 dX5_needSetOfCarriers_19 dX5_needSetOfCarriers_22 dX5_needSetOfCarriers_25 ?_
      exact okXW ⟨rfl, rfl, rfl, fun q => by omega⟩
set_option maxHeartbeats 1600000 in
set_option maxRecDepth 100000 in
theorem c_X5_needRoomForCarrier (l : Launch) (hfl : l.stackTraces = false) (mi : MI) (ml : MJ) (n : Nat) (hn : (mi 1 5).toInt = (n : Int)) (h10 : n ≤ 10) : Ct l yX5_needRoomForCarrier (.code yX5_needRoomForCarrier cX5_needRoomForCarrier 1 none) 0 1 6 [.ref 0] (wl mi ml) (QV (fun mi9 ml9 => mi = mi9 ∧ ml = ml9 ∧ n < 10)) (XW (fun En mi9 ml9 => En = xIS ∧ mi = mi9 ∧ ml = ml9 ∧ ¬ n < 10)) := by
  refine Ct_of (ini := false) pn_X5 hfl (fun h => nomatch h) (Nat.le_of_ble_eq_true rfl) ?_
  show E l RX5 cX5_needRoomForCarrier 1 none false [] (rmE 0 1 6) (wl mi ml) (TgM (wl mi ml) 1 6 (QV (fun mi9 ml9 => mi = mi9 ∧ ml = ml9 ∧ n < 10)) (XW (fun En mi9 ml9 => En = xIS ∧ mi = mi9 ∧ ml = ml9 ∧ ¬ n < 10))) 0 0 0 [(0, .ref 0)] [] (wl mi ml)
  refine E_aload_n 0 dX5_needRoomForCarrier_0 rfl rfl ?_
  refine gf_X5_10 tw_0 rfl dX5_needRoomForCarrier_1 ?_
  refine gf_X5_80 (mi 1 5) isD_1.t rfl rfl dX5_needRoomForCarrier_4 ?_
  refine E_bipush 10 (by decide) dX5_needRoomForCarrier_7 ?_
  refine Z_lt (n : Int) 10 hn (show (10 : Int32).toInt = 10 from rfl) 23 dX5_needRoomForCarrier_9 (by decide) (fun c_9 => ?_) (fun c_9 => ?_)
  · skip
    refine E_vret rfl (Nat.le_of_ble_eq_true rfl) (Nat.le_of_ble_eq_true rfl) dX5_needRoomForCarrier_23 ?_
    exact okQV ⟨rfl, rfl, by omega⟩
  · skip
    refine E_throwW (cls := "java/lang/IllegalStateException") (names := ["java/lang/RuntimeException", "java/lang/Exception"]) (by decide) fitX wcl_X5_104 wz_IllegalStateException str_312 atIS otIS rfl ⟨Nat.le_of_ble_eq_true rfl, Nat.le_of_ble_eq_true rfl, Nat.le_of_ble_eq_true rfl, Nat.le_of_ble_eq_true rfl⟩ (Nat.le_of_ble_eq_true rfl) (Nat.le_of_ble_eq_true rfl) dX5_needRoomForCarrier_12 dX5_needRoomForCarrier_15 dX5_needRoomForCarrier_16 dX5_needRoomForCarrier_19 dX5_needRoomForCarrier_22 ?_
    exact okXW ⟨rfl, rfl, rfl, fun q => by omega⟩
set_option maxHeartbeats 1600000 in
set_option maxRecDepth 100000 in
theorem c_X5_needChannel (l : Launch) (hfl : l.stackTraces = false) (mi : MI) (ml : MJ) (x : Int32) (X : Int) (hX : x.toInt = X) : Ct l yX5_needChannel (.code yX5_needChannel cX5_needChannel 1 none) 1 1 6 [.int x] (wl mi ml) (QV (fun mi9 ml9 => mi = mi9 ∧ ml = ml9 ∧ (0 ≤ X ∧ X < 64))) (XW (fun En mi9 ml9 => En = xIA ∧ mi = mi9 ∧ ml = ml9 ∧ ¬ (0 ≤ X ∧ X < 64))) := by
  refine Ct_of (ini := false) pn_X5 hfl (fun h => nomatch h) (Nat.le_of_ble_eq_true rfl) ?_
  show E l RX5 cX5_needChannel 1 none false [] (rmE 1 1 6) (wl mi ml) (TgM (wl mi ml) 1 6 (QV (fun mi9 ml9 => mi = mi9 ∧ ml = ml9 ∧ (0 ≤ X ∧ X < 64))) (XW (fun En mi9 ml9 => En = xIA ∧ mi = mi9 ∧ ml = ml9 ∧ ¬ (0 ≤ X ∧ X < 64)))) 0 0 0 [(0, .int x)] [] (wl mi ml)
  refine E_iload_n 0 dX5_needChannel_0 rfl rfl ?_
  refine E_callS (c_X5_isChannel l hfl mi ml x X hX) cw_X5_51 (As := [.int x]) (st := []) ws_yX5_isChannel rfl ⟨Nat.le_of_ble_eq_true rfl, Nat.le_of_ble_eq_true rfl, Nat.le_of_ble_eq_true rfl, Nat.le_of_ble_eq_true rfl⟩ (Nat.le_of_ble_eq_true rfl) dX5_needChannel_1 (fun _ _ h => h) rfl (kE ?_)
  refine B_ne 18 dX5_needChannel_4 (by decide) (fun c_4 => ?_) (fun c_4 => ?_)
  · skip
    refine E_vret rfl (Nat.le_of_ble_eq_true rfl) (Nat.le_of_ble_eq_true rfl) dX5_needChannel_18 ?_
    exact okQV ⟨rfl, rfl, c_4⟩
  · skip
    refine E_throwW (cls := "java/lang/IllegalArgumentException") (names := ["java/lang/RuntimeException", "java/lang/Exception"]) (by decide) fitX wcl_X5_62 wz_IllegalArgumentException str_306 atIA otIA rfl ⟨Nat.le_of_ble_eq_true rfl, Nat.le_of_ble_eq_true rfl, Nat.le_of_ble_eq_true rfl, Nat.le_of_ble_eq_true rfl⟩ (Nat.le_of_ble_eq_true rfl) (Nat.le_of_ble_eq_true rfl) dX5_needChannel_7 dX5_needChannel_10 dX5_needChannel_11 dX5_needChannel_14 dX5_needChannel_17 ?_
    exact okXW ⟨rfl, rfl, rfl, c_4⟩
set_option maxHeartbeats 1600000 in
set_option maxRecDepth 100000 in
theorem c_X5_needLevel (l : Launch) (hfl : l.stackTraces = false) (mi : MI) (ml : MJ) (x : Int32) (X : Int) (hX : x.toInt = X) : Ct l yX5_needLevel (.code yX5_needLevel cX5_needLevel 1 none) 1 1 6 [.int x] (wl mi ml) (QV (fun mi9 ml9 => mi = mi9 ∧ ml = ml9 ∧ (0 ≤ X ∧ X ≤ 60))) (XW (fun En mi9 ml9 => En = xIA ∧ mi = mi9 ∧ ml = ml9 ∧ ¬ (0 ≤ X ∧ X ≤ 60))) := by
  refine Ct_of (ini := false) pn_X5 hfl (fun h => nomatch h) (Nat.le_of_ble_eq_true rfl) ?_
  show E l RX5 cX5_needLevel 1 none false [] (rmE 1 1 6) (wl mi ml) (TgM (wl mi ml) 1 6 (QV (fun mi9 ml9 => mi = mi9 ∧ ml = ml9 ∧ (0 ≤ X ∧ X ≤ 60))) (XW (fun En mi9 ml9 => En = xIA ∧ mi = mi9 ∧ ml = ml9 ∧ ¬ (0 ≤ X ∧ X ≤ 60)))) 0 0 0 [(0, .int x)] [] (wl mi ml)
  refine E_iload_n 0 dX5_needLevel_0 rfl rfl ?_
  refine E_callS (c_X5_isLevel l hfl mi ml x X hX) cw_X5_55 (As := [.int x]) (st := []) ws_yX5_isLevel rfl ⟨Nat.le_of_ble_eq_true rfl, Nat.le_of_ble_eq_true rfl, Nat.le_of_ble_eq_true rfl, Nat.le_of_ble_eq_true rfl⟩ (Nat.le_of_ble_eq_true rfl) dX5_needLevel_1 (fun _ _ h => h) rfl (kE ?_)
  refine B_ne 18 dX5_needLevel_4 (by decide) (fun c_4 => ?_) (fun c_4 => ?_)
  · skip
    refine E_vret rfl (Nat.le_of_ble_eq_true rfl) (Nat.le_of_ble_eq_true rfl) dX5_needLevel_18 ?_
    exact okQV ⟨rfl, rfl, c_4⟩
  · skip
    refine E_throwW (cls := "java/lang/IllegalArgumentException") (names := ["java/lang/RuntimeException", "java/lang/Exception"]) (by decide) fitX wcl_X5_62 wz_IllegalArgumentException str_308 atIA otIA rfl ⟨Nat.le_of_ble_eq_true rfl, Nat.le_of_ble_eq_true rfl, Nat.le_of_ble_eq_true rfl, Nat.le_of_ble_eq_true rfl⟩ (Nat.le_of_ble_eq_true rfl) (Nat.le_of_ble_eq_true rfl) dX5_needLevel_7 dX5_needLevel_10 dX5_needLevel_11 dX5_needLevel_14 dX5_needLevel_17 ?_
    exact okXW ⟨rfl, rfl, rfl, c_4⟩
set_option maxHeartbeats 1600000 in
set_option maxRecDepth 100000 in
theorem c_X5_needMarks (l : Launch) (hfl : l.stackTraces = false) (mi : MI) (ml : MJ) (x : Int32) (X : Int) (hX : x.toInt = X) (y : Int32) (Y : Int) (hY : y.toInt = Y) : Ct l yX5_needMarks (.code yX5_needMarks cX5_needMarks 2 none) 1 1 6 [.int x, .int y] (wl mi ml) (QV (fun mi9 ml9 => mi = mi9 ∧ ml = ml9 ∧ (1 ≤ X ∧ X ≤ Y))) (XW (fun En mi9 ml9 => En = xIA ∧ mi = mi9 ∧ ml = ml9 ∧ ¬ (1 ≤ X ∧ X ≤ Y))) := by
  refine Ct_of (ini := false) pn_X5 hfl (fun h => nomatch h) (Nat.le_of_ble_eq_true rfl) ?_
  show E l RX5 cX5_needMarks 2 none false [] (rmE 1 1 6) (wl mi ml) (TgM (wl mi ml) 1 6 (QV (fun mi9 ml9 => mi = mi9 ∧ ml = ml9 ∧ (1 ≤ X ∧ X ≤ Y))) (XW (fun En mi9 ml9 => En = xIA ∧ mi = mi9 ∧ ml = ml9 ∧ ¬ (1 ≤ X ∧ X ≤ Y)))) 0 0 0 [(0, .int x), (1, .int y)] [] (wl mi ml)
  refine E_iload_n 0 dX5_needMarks_0 rfl rfl ?_
  refine E_iconst 1 (by decide) dX5_needMarks_1 ?_
  refine E_iload_n 1 dX5_needMarks_2 rfl rfl ?_
  refine E_callS (c_X5_isWithin l hfl mi ml x X hX 1 1 (show (1 : Int32).toInt = 1 from rfl) y Y hY) cw_X5_112 (As := [.int x, .int 1, .int y]) (st := []) ws_yX5_isWithin rfl ⟨Nat.le_of_ble_eq_true rfl, Nat.le_of_ble_eq_true rfl, Nat.le_of_ble_eq_true rfl, Nat.le_of_ble_eq_true rfl⟩ (Nat.le_of_ble_eq_true rfl) dX5_needMarks_3 (fun _ _ h => h) rfl (kE ?_)
  refine B_ne 20 dX5_needMarks_6 (by decide) (fun c_6 => ?_) (fun c_6 => ?_)
  · skip
    refine E_vret rfl (Nat.le_of_ble_eq_true rfl) (Nat.le_of_ble_eq_true rfl) dX5_needMarks_20 ?_
    exact okQV ⟨rfl, rfl, c_6⟩
  · skip
    refine E_throwW (cls := "java/lang/IllegalArgumentException") (names := ["java/lang/RuntimeException", "java/lang/Exception"]) (by decide) fitX wcl_X5_62 wz_IllegalArgumentException str_310 atIA otIA rfl ⟨Nat.le_of_ble_eq_true rfl, Nat.le_of_ble_eq_true rfl, Nat.le_of_ble_eq_true rfl, Nat.le_of_ble_eq_true rfl⟩ (Nat.le_of_ble_eq_true rfl) (Nat.le_of_ble_eq_true rfl) dX5_needMarks_9 dX5_needMarks_12 dX5_needMarks_13 dX5_needMarks_16 dX5_needMarks_19 ?_
    exact okXW ⟨rfl, rfl, rfl, c_6⟩
set_option maxHeartbeats 1600000 in
set_option maxRecDepth 100000 in
theorem c_X5_products (l : Launch) (hfl : l.stackTraces = false) (mi : MI) (ml : MJ) (V : Nat → Int32) (hV : WFV V) (hD : DR 1 mi V) (n : Nat) (hn : (V 5).toInt = (n : Int)) (h10 : n ≤ 10) : Ct l yX5_products (.code yX5_products cX5_products 1 (some .int)) 4 0 0 [.ref 0] (wl mi ml) (QI (fun r mi9 ml9 => ml = ml9 ∧ Fr [51, 52] mi mi9 ∧ r.toInt = ((prV V (2 ^ n - 1) n).length : Int))) noX := by
  refine Ct_of (ini := false) pn_X5 hfl (fun h => nomatch h) (Nat.le_of_ble_eq_true rfl) ?_
  show E l RX5 cX5_products 1 (some .int) false [] (rmE 4 0 0) (wl mi ml) (TgM (wl mi ml) 0 0 (QI (fun r mi9 ml9 => ml = ml9 ∧ Fr [51, 52] mi mi9 ∧ r.toInt = ((prV V (2 ^ n - 1) n).length : Int))) noX) 0 0 0 [(0, .ref 0)] [] (wl mi ml)
  refine E_aload_n 0 dX5_products_0 rfl rfl ?_
  refine gf_X5_29 tw_0 rfl dX5_products_1 ?_
  refine E_aload_n 0 dX5_products_4 rfl rfl ?_
  refine gf_X5_10 tw_0 rfl dX5_products_5 ?_
  refine E_aload_n 0 dX5_products_8 rfl rfl ?_
  refine gf_X5_10 tw_0 rfl dX5_products_9 ?_
  refine E_callV (c_X1_everyCarrier l hfl 1 isD_1 mi ml n ((congrArg Int32.toInt hD.2.1.1).trans hn) (by omega)) cw_X5_146 (As := []) (st := [.ref 1, .ref 51]) wi_yX1_everyCarrier we_yX1_everyCarrier (ci := 1) (q := (RX1, TX1, 15)) rfl rfl (wl_atO isD_1.t) rfl ⟨Nat.le_of_ble_eq_true rfl, Nat.le_of_ble_eq_true rfl, Nat.le_of_ble_eq_true rfl, Nat.le_of_ble_eq_true rfl⟩ (Nat.le_of_ble_eq_true rfl) dX5_products_12 (fun _ _ h => h) rfl (kE ?_)
  refine E_callV (c_X3_gather l hfl mi ml V hV hD n hn h10 (nI (2 ^ n - 1)) (2 ^ n - 1) (tI_nI (pw_lt (by omega)))) cw_X5_150 (As := [.ref 1, .int (nI (2 ^ n - 1))]) (st := []) wi_yX3_gather we_yX3_gather (ci := 3) (q := (RX3, TX3, 2)) rfl rfl (wl_atO tw_51) rfl ⟨Nat.le_of_ble_eq_true rfl, Nat.le_of_ble_eq_true rfl, Nat.le_of_ble_eq_true rfl, Nat.le_of_ble_eq_true rfl⟩ (Nat.le_of_ble_eq_true rfl) dX5_products_15 (fun _ _ h => h) rfl (kV (fun mi_15 ml_15 h_15 => ?_))
  obtain ⟨rfl, h_15⟩ := h_15
  refine E_aload_n 0 dX5_products_18 rfl rfl ?_
  refine gf_X5_29 tw_0 rfl dX5_products_19 ?_
  refine gf_X5_154 (mi_15 51 1) tw_51 rfl rfl dX5_products_22 ?_
  refine E_iret rfl (Nat.le_of_ble_eq_true rfl) (Nat.le_of_ble_eq_true rfl) dX5_products_25 ?_
  exact okQI ⟨rfl, h_15.1, h_15.2.1⟩
set_option maxHeartbeats 1600000 in
set_option maxRecDepth 100000 in
theorem c_X5_product (l : Launch) (hfl : l.stackTraces = false) (mi : MI) (ml : MJ) (V : Nat → Int32) (hV : WFV V) (hD : DR 1 mi V) (n : Nat) (hn : (V 5).toInt = (n : Int)) (h10 : n ≤ 10) (x a : Int32) (X A : Int) (hX : x.toInt = X) (hA : a.toInt = A) : Ct l yX5_product (.code yX5_product cX5_product 3 (some .int)) 4 1 6 [.ref 0, .int x, .int a] (wl mi ml) (QI (fun r mi9 ml9 => ml = ml9 ∧ Fr [51, 52] mi mi9 ∧ ∃ (i j : Nat) (row : Nat → Int32), X = (i : Int) ∧ i < (prV V (2 ^ n - 1) n).length ∧ A = (j : Int) ∧ j < 6 ∧ encd (DV V) row (prV V (2 ^ n - 1) n) ∧ r = row (6 * i + j))) (XW (fun En mi9 ml9 => ml = ml9 ∧ Fr [51, 52] mi mi9 ∧ ((En = xIO ∧ ¬ (0 ≤ X ∧ X < ((prV V (2 ^ n - 1) n).length : Int))) ∨ (En = xIA ∧ (0 ≤ X ∧ X < ((prV V (2 ^ n - 1) n).length : Int)) ∧ ¬ (0 ≤ A ∧ A ≤ 5))))) := by
  refine Ct_of (ini := false) pn_X5 hfl (fun h => nomatch h) (Nat.le_of_ble_eq_true rfl) ?_
  show E l RX5 cX5_product 3 (some .int) false [] (rmE 4 1 6) (wl mi ml) (TgM (wl mi ml) 1 6 (QI (fun r mi9 ml9 => ml = ml9 ∧ Fr [51, 52] mi mi9 ∧ ∃ (i j : Nat) (row : Nat → Int32), X = (i : Int) ∧ i < (prV V (2 ^ n - 1) n).length ∧ A = (j : Int) ∧ j < 6 ∧ encd (DV V) row (prV V (2 ^ n - 1) n) ∧ r = row (6 * i + j))) (XW (fun En mi9 ml9 => ml = ml9 ∧ Fr [51, 52] mi mi9 ∧ ((En = xIO ∧ ¬ (0 ≤ X ∧ X < ((prV V (2 ^ n - 1) n).length : Int))) ∨ (En = xIA ∧ (0 ≤ X ∧ X < ((prV V (2 ^ n - 1) n).length : Int)) ∧ ¬ (0 ≤ A ∧ A ≤ 5)))))) 0 0 0 [(0, .ref 0), (1, .int x), (2, .int a)] [] (wl mi ml)
  refine E_aload_n 0 dX5_product_0 rfl rfl ?_
  refine gf_X5_29 tw_0 rfl dX5_product_1 ?_
  refine E_aload_n 0 dX5_product_4 rfl rfl ?_
  refine gf_X5_10 tw_0 rfl dX5_product_5 ?_
  refine E_aload_n 0 dX5_product_8 rfl rfl ?_
  refine gf_X5_10 tw_0 rfl dX5_product_9 ?_
  refine E_callV (c_X1_everyCarrier l hfl 1 isD_1 mi ml n ((congrArg Int32.toInt hD.2.1.1).trans hn) (by omega)) cw_X5_146 (As := []) (st := [.ref 1, .ref 51]) wi_yX1_everyCarrier we_yX1_everyCarrier (ci := 1) (q := (RX1, TX1, 15)) rfl rfl (wl_atO isD_1.t) rfl ⟨Nat.le_of_ble_eq_true rfl, Nat.le_of_ble_eq_true rfl, Nat.le_of_ble_eq_true rfl, Nat.le_of_ble_eq_true rfl⟩ (Nat.le_of_ble_eq_true rfl) dX5_product_12 (fun _ _ h => h) rfl (kE ?_)
  refine E_callV (c_X3_gather l hfl mi ml V hV hD n hn h10 (nI (2 ^ n - 1)) (2 ^ n - 1) (tI_nI (pw_lt (by omega)))) cw_X5_150 (As := [.ref 1, .int (nI (2 ^ n - 1))]) (st := []) wi_yX3_gather we_yX3_gather (ci := 3) (q := (RX3, TX3, 2)) rfl rfl (wl_atO tw_51) rfl ⟨Nat.le_of_ble_eq_true rfl, Nat.le_of_ble_eq_true rfl, Nat.le_of_ble_eq_true rfl, Nat.le_of_ble_eq_true rfl⟩ (Nat.le_of_ble_eq_true rfl) dX5_product_15 (fun _ _ h => h) rfl (kV (fun mi_15 ml_15 h_15 => ?_))
  obtain ⟨rfl, h_15⟩ := h_15
  refine E_iload_n 1 dX5_product_18 rfl rfl ?_
  refine Y_lt X hX 33 dX5_product_19 (by decide) (fun c_19 => ?_) (fun c_19 => ?_)
  · skip
    refine E_throw (cls := "java/lang/IndexOutOfBoundsException") (names := ["java/lang/RuntimeException", "java/lang/Exception"]) (by decide) fitX wcl_X5_157 wz_IndexOutOfBoundsException str_159 atIO otIO rfl ⟨Nat.le_of_ble_eq_true rfl, Nat.le_of_ble_eq_true rfl, Nat.le_of_ble_eq_true rfl, Nat.le_of_ble_eq_true rfl⟩ (Nat.le_of_ble_eq_true rfl) (Nat.le_of_ble_eq_true rfl) dX5_product_33 dX5_product_36 dX5_product_37 dX5_product_39 dX5_product_42 ?_
    exact okXW ⟨rfl, h_15.1, Or.inl ⟨rfl, by omega⟩⟩
  · skip
    refine E_iload_n 1 dX5_product_22 rfl rfl ?_
    refine E_aload_n 0 dX5_product_23 rfl rfl ?_
    refine gf_X5_29 tw_0 rfl dX5_product_24 ?_
    refine gf_X5_154 (mi_15 51 1) tw_51 rfl rfl dX5_product_27 ?_
    refine Z_lt X (((prV V (2 ^ n - 1) n).length : Nat) : Int) hX h_15.2.1 43 dX5_product_30 (by decide) (fun c_30 => ?_) (fun c_30 => ?_)
    · skip
      refine E_iload_n 2 dX5_product_43 rfl rfl ?_
      refine E_iconst 0 (by decide) dX5_product_44 ?_
      refine E_iconst 5 (by decide) dX5_product_45 ?_
      refine E_callS (c_X5_isWithin l hfl mi_15 ml a A hA 0 0 (show (0 : Int32).toInt = 0 from rfl) 5 5 (show (5 : Int32).toInt = 5 from rfl)) cw_X5_112 (As := [.int a, .int 0, .int 5]) (st := []) ws_yX5_isWithin rfl ⟨Nat.le_of_ble_eq_true rfl, Nat.le_of_ble_eq_true rfl, Nat.le_of_ble_eq_true rfl, Nat.le_of_ble_eq_true rfl⟩ (Nat.le_of_ble_eq_true rfl) dX5_product_46 (fun _ _ h => h) rfl (kE ?_)
      refine B_ne 62 dX5_product_49 (by decide) (fun c_49 => ?_) (fun c_49 => ?_)
      · skip
        obtain ⟨i, hi⟩ : ∃ i : Nat, X = (i : Int) := ⟨X.toNat, by omega⟩
        obtain ⟨j, hj⟩ : ∃ j : Nat, A = (j : Int) := ⟨A.toNat, by omega⟩
        refine E_aload_n 0 dX5_product_62 rfl rfl ?_
        refine gf_X5_29 tw_0 rfl dX5_product_63 ?_
        refine E_iload_n 1 dX5_product_66 rfl rfl ?_
        refine E_iload_n 2 dX5_product_67 rfl rfl ?_
        refine E_callV (c_X3_fact l hfl mi_15 ml ((prV V (2 ^ n - 1) n).length) h_15.2.1 (prV_len h10) x a i j (hX.trans hi) (hA.trans hj) (by omega) (by omega)) cw_X5_162 (As := [.int x, .int a]) (st := []) wi_yX3_fact we_yX3_fact (ci := 3) (q := (RX3, TX3, 2)) rfl rfl (wl_atO tw_51) rfl ⟨Nat.le_of_ble_eq_true rfl, Nat.le_of_ble_eq_true rfl, Nat.le_of_ble_eq_true rfl, Nat.le_of_ble_eq_true rfl⟩ (Nat.le_of_ble_eq_true rfl) dX5_product_68 (fun _ _ h => h) rfl (kE ?_)
        refine E_iret rfl (Nat.le_of_ble_eq_true rfl) (Nat.le_of_ble_eq_true rfl) dX5_product_71 ?_
        exact okQI ⟨rfl, h_15.1, i, j, _, hi, by omega, hj, by omega, h_15.2.2, rfl⟩
      · skip
        refine E_throw (cls := "java/lang/IllegalArgumentException") (names := ["java/lang/RuntimeException", "java/lang/Exception"]) (by decide) fitX wcl_X5_62 wz_IllegalArgumentException str_141 atIA otIA rfl ⟨Nat.le_of_ble_eq_true rfl, Nat.le_of_ble_eq_true rfl, Nat.le_of_ble_eq_true rfl, Nat.le_of_ble_eq_true rfl⟩ (Nat.le_of_ble_eq_true rfl) (Nat.le_of_ble_eq_true rfl) dX5_product_52 dX5_product_55 dX5_product_56 dX5_product_58 dX5_product_61 ?_
        exact okXW ⟨rfl, h_15.1, Or.inr ⟨rfl, by omega, c_49⟩⟩
    · skip
      refine E_throw (cls := "java/lang/IndexOutOfBoundsException") (names := ["java/lang/RuntimeException", "java/lang/Exception"]) (by decide) fitX wcl_X5_157 wz_IndexOutOfBoundsException str_159 atIO otIO rfl ⟨Nat.le_of_ble_eq_true rfl, Nat.le_of_ble_eq_true rfl, Nat.le_of_ble_eq_true rfl, Nat.le_of_ble_eq_true rfl⟩ (Nat.le_of_ble_eq_true rfl) (Nat.le_of_ble_eq_true rfl) dX5_product_33 dX5_product_36 dX5_product_37 dX5_product_39 dX5_product_42 ?_
      exact okXW ⟨rfl, h_15.1, Or.inl ⟨rfl, by omega⟩⟩
set_option maxHeartbeats 1600000 in
set_option maxRecDepth 100000 in
theorem c_X5_falloutOf (l : Launch) (hfl : l.stackTraces = false) (mi : MI) (ml : MJ) (V : Nat → Int32) (hV : WFV V) (hD : DR 1 mi V) (n : Nat) (hn : (V 5).toInt = (n : Int)) (h10 : n ≤ 10) (xs : Int32) (s : Nat) (hxs : xs.toInt = (s : Int)) : Ct l yX5_falloutOf (.code yX5_falloutOf cX5_falloutOf 2 (some .long)) 4 0 0 [.ref 0, .int xs] (wl mi ml) (QJ (fun r mi9 ml9 => ml = ml9 ∧ Fr [51, 52] mi mi9 ∧ r = foA (DV V) (prV V s n) (prV V s n).length)) noX := by
  refine Ct_of (ini := false) pn_X5 hfl (fun h => nomatch h) (Nat.le_of_ble_eq_true rfl) ?_
  show E l RX5 cX5_falloutOf 2 (some .long) false [] (rmE 4 0 0) (wl mi ml) (TgM (wl mi ml) 0 0 (QJ (fun r mi9 ml9 => ml = ml9 ∧ Fr [51, 52] mi mi9 ∧ r = foA (DV V) (prV V s n) (prV V s n).length)) noX) 0 0 0 [(0, .ref 0), (1, .int xs)] [] (wl mi ml)
  refine E_aload_n 0 dX5_falloutOf_0 rfl rfl ?_
  refine gf_X5_29 tw_0 rfl dX5_falloutOf_1 ?_
  refine E_aload_n 0 dX5_falloutOf_4 rfl rfl ?_
  refine gf_X5_10 tw_0 rfl dX5_falloutOf_5 ?_
  refine E_iload_n 1 dX5_falloutOf_8 rfl rfl ?_
  refine E_callV (c_X3_gather l hfl mi ml V hV hD n hn h10 xs s hxs) cw_X5_150 (As := [.ref 1, .int xs]) (st := []) wi_yX3_gather we_yX3_gather (ci := 3) (q := (RX3, TX3, 2)) rfl rfl (wl_atO tw_51) rfl ⟨Nat.le_of_ble_eq_true rfl, Nat.le_of_ble_eq_true rfl, Nat.le_of_ble_eq_true rfl, Nat.le_of_ble_eq_true rfl⟩ (Nat.le_of_ble_eq_true rfl) dX5_falloutOf_9 (fun _ _ h => h) rfl (kV (fun mi_9 ml_9 h_9 => ?_))
  obtain ⟨rfl, h_9⟩ := h_9
  refine E_aload_n 0 dX5_falloutOf_12 rfl rfl ?_
  refine gf_X5_29 tw_0 rfl dX5_falloutOf_13 ?_
  refine E_callV (c_X3_channelSet l hfl mi_9 ml (DV V) (prV V s n) h_9.2.1 (prV_len h10) h_9.2.2) cw_X5_330 (As := []) (st := []) wi_yX3_channelSet we_yX3_channelSet (ci := 3) (q := (RX3, TX3, 2)) rfl rfl (wl_atO tw_51) rfl ⟨Nat.le_of_ble_eq_true rfl, Nat.le_of_ble_eq_true rfl, Nat.le_of_ble_eq_true rfl, Nat.le_of_ble_eq_true rfl⟩ (Nat.le_of_ble_eq_true rfl) dX5_falloutOf_16 (fun _ _ h => h) rfl (kE ?_)
  refine E_lret rfl (Nat.le_of_ble_eq_true rfl) (Nat.le_of_ble_eq_true rfl) dX5_falloutOf_19 ?_
  exact okQJ ⟨rfl, h_9.1, rfl⟩
set_option maxHeartbeats 1600000 in
set_option maxRecDepth 100000 in
theorem c_X5_fallout (l : Launch) (hfl : l.stackTraces = false) (mi : MI) (ml : MJ) (V : Nat → Int32) (hV : WFV V) (hD : DR 1 mi V) (n : Nat) (hn : (V 5).toInt = (n : Int)) (h10 : n ≤ 10) (a : Int32) (A : Int) (hA : a.toInt = A) : Ct l yX5_fallout (.code yX5_fallout cX5_fallout 2 (some .long)) 5 1 6 [.ref 0, .int a] (wl mi ml) (QJ (fun r mi9 ml9 => ml = ml9 ∧ Fr [51, 52] mi mi9 ∧ (0 ≤ A ∧ A ≤ ((2 ^ n - 1 : Nat) : Int)) ∧ ∃ s : Nat, A = (s : Int) ∧ r = foA (DV V) (prV V s n) (prV V s n).length)) (XW (fun En mi9 ml9 => ml = ml9 ∧ mi = mi9 ∧ En = xIA ∧ ¬ (0 ≤ A ∧ A ≤ ((2 ^ n - 1 : Nat) : Int)))) := by
  refine Ct_of (ini := false) pn_X5 hfl (fun h => nomatch h) (Nat.le_of_ble_eq_true rfl) ?_
  show E l RX5 cX5_fallout 2 (some .long) false [] (rmE 5 1 6) (wl mi ml) (TgM (wl mi ml) 1 6 (QJ (fun r mi9 ml9 => ml = ml9 ∧ Fr [51, 52] mi mi9 ∧ (0 ≤ A ∧ A ≤ ((2 ^ n - 1 : Nat) : Int)) ∧ ∃ s : Nat, A = (s : Int) ∧ r = foA (DV V) (prV V s n) (prV V s n).length)) (XW (fun En mi9 ml9 => ml = ml9 ∧ mi = mi9 ∧ En = xIA ∧ ¬ (0 ≤ A ∧ A ≤ ((2 ^ n - 1 : Nat) : Int))))) 0 0 0 [(0, .ref 0), (1, .int a)] [] (wl mi ml)
  refine E_aload_n 0 dX5_fallout_0 rfl rfl ?_
  refine E_iload_n 1 dX5_fallout_1 rfl rfl ?_
  refine E_callVx (c_X5_needSetOfCarriers l hfl mi ml  n ((congrArg Int32.toInt hD.2.1.1).trans hn) (by omega) a A hA) cw_X5_166 (As := [.int a]) (st := []) wi_yX5_needSetOfCarriers we_yX5_needSetOfCarriers (ci := 5) (q := (RX5, TX5, 7)) rfl rfl (wl_atO tw_0) rfl ⟨Nat.le_of_ble_eq_true rfl, Nat.le_of_ble_eq_true rfl, Nat.le_of_ble_eq_true rfl, Nat.le_of_ble_eq_true rfl⟩ (Nat.le_of_ble_eq_true rfl) dX5_fallout_2 rfl (Nat.le_of_ble_eq_true rfl) (Nat.le_of_ble_eq_true rfl) (XW.w (by rintro _ _ _ ⟨rfl, rfl, rfl, q⟩; exact ⟨rfl, rfl, rfl, q⟩)) rfl (kV (fun mi_2 ml_2 h_2 => ?_))
  obtain ⟨rfl, rfl, h_2⟩ := h_2
  obtain ⟨s, hs⟩ : ∃ s : Nat, A = (s : Int) := ⟨A.toNat, by omega⟩
  refine E_aload_n 0 dX5_fallout_5 rfl rfl ?_
  refine E_iload_n 1 dX5_fallout_6 rfl rfl ?_
  refine E_callV (c_X5_falloutOf l hfl mi ml V hV hD n hn h10 a s (hA.trans hs)) cw_X5_169 (As := [.int a]) (st := []) wi_yX5_falloutOf we_yX5_falloutOf (ci := 5) (q := (RX5, TX5, 7)) rfl rfl (wl_atO tw_0) rfl ⟨Nat.le_of_ble_eq_true rfl, Nat.le_of_ble_eq_true rfl, Nat.le_of_ble_eq_true rfl, Nat.le_of_ble_eq_true rfl⟩ (Nat.le_of_ble_eq_true rfl) dX5_fallout_7 (fun _ _ h => h) rfl (kJ (fun r_7 mi_7 ml_7 h_7 => ?_))
  obtain ⟨rfl, h_7⟩ := h_7
  refine E_lret rfl (Nat.le_of_ble_eq_true rfl) (Nat.le_of_ble_eq_true rfl) dX5_fallout_10 ?_
  exact okQJ ⟨rfl, h_7.1, h_2, s, hs, h_7.2⟩
set_option maxHeartbeats 1600000 in
set_option maxRecDepth 100000 in
theorem c_X5_hitsOn (l : Launch) (hfl : l.stackTraces = false) (mi : MI) (ml : MJ) (V : Nat → Int32) (hV : WFV V) (hD : DR 1 mi V) (n : Nat) (hn : (V 5).toInt = (n : Int)) (h10 : n ≤ 10) (a : Int32) (A : Int) (hA : a.toInt = A) : Ct l yX5_hitsOn (.code yX5_hitsOn cX5_hitsOn 2 (some .int)) 4 1 6 [.ref 0, .int a] (wl mi ml) (QI (fun r mi9 ml9 => ml = ml9 ∧ Fr [51, 52] mi mi9 ∧ ∃ b : Nat, b < n ∧ A = (b : Int) ∧ r.toInt = (hcA (DV V) (V 3).toInt (V (6 + 2 * b)).toInt (prV V (2 ^ n - 1) n) (prV V (2 ^ n - 1) n).length : Int))) (XW (fun En mi9 ml9 => ml = ml9 ∧ mi = mi9 ∧ En = xIO ∧ ¬ (0 ≤ A ∧ A < (n : Int)))) := by
  refine Ct_of (ini := false) pn_X5 hfl (fun h => nomatch h) (Nat.le_of_ble_eq_true rfl) ?_
  show E l RX5 cX5_hitsOn 2 (some .int) false [] (rmE 4 1 6) (wl mi ml) (TgM (wl mi ml) 1 6 (QI (fun r mi9 ml9 => ml = ml9 ∧ Fr [51, 52] mi mi9 ∧ ∃ b : Nat, b < n ∧ A = (b : Int) ∧ r.toInt = (hcA (DV V) (V 3).toInt (V (6 + 2 * b)).toInt (prV V (2 ^ n - 1) n) (prV V (2 ^ n - 1) n).length : Int))) (XW (fun En mi9 ml9 => ml = ml9 ∧ mi = mi9 ∧ En = xIO ∧ ¬ (0 ≤ A ∧ A < (n : Int))))) 0 0 0 [(0, .ref 0), (1, .int a)] [] (wl mi ml)
  refine E_aload_n 0 dX5_hitsOn_0 rfl rfl ?_
  refine E_iload_n 1 dX5_hitsOn_1 rfl rfl ?_
  refine E_callVx (c_X5_needCarrier l hfl mi ml  n ((congrArg Int32.toInt hD.2.1.1).trans hn) (by omega) a A hA) cw_X5_84 (As := [.int a]) (st := []) wi_yX5_needCarrier we_yX5_needCarrier (ci := 5) (q := (RX5, TX5, 7)) rfl rfl (wl_atO tw_0) rfl ⟨Nat.le_of_ble_eq_true rfl, Nat.le_of_ble_eq_true rfl, Nat.le_of_ble_eq_true rfl, Nat.le_of_ble_eq_true rfl⟩ (Nat.le_of_ble_eq_true rfl) dX5_hitsOn_2 rfl (Nat.le_of_ble_eq_true rfl) (Nat.le_of_ble_eq_true rfl) (XW.w (by rintro _ _ _ ⟨rfl, rfl, rfl, q⟩; exact ⟨rfl, rfl, rfl, q⟩)) rfl (kV (fun mi_2 ml_2 h_2 => ?_))
  obtain ⟨rfl, rfl, h_2⟩ := h_2
  obtain ⟨b, hb⟩ : ∃ b : Nat, A = (b : Int) := ⟨A.toNat, by omega⟩
  have bb := hV.b hn (show b < n by omega)
  have bg := hV.1.2.2.2.1
  refine E_aload_n 0 dX5_hitsOn_5 rfl rfl ?_
  refine gf_X5_29 tw_0 rfl dX5_hitsOn_6 ?_
  refine E_aload_n 0 dX5_hitsOn_9 rfl rfl ?_
  refine gf_X5_10 tw_0 rfl dX5_hitsOn_10 ?_
  refine E_aload_n 0 dX5_hitsOn_13 rfl rfl ?_
  refine gf_X5_10 tw_0 rfl dX5_hitsOn_14 ?_
  refine E_callV (c_X1_everyCarrier l hfl 1 isD_1 mi ml n ((congrArg Int32.toInt hD.2.1.1).trans hn) (by omega)) cw_X5_146 (As := []) (st := [.ref 1, .ref 51]) wi_yX1_everyCarrier we_yX1_everyCarrier (ci := 1) (q := (RX1, TX1, 15)) rfl rfl (wl_atO isD_1.t) rfl ⟨Nat.le_of_ble_eq_true rfl, Nat.le_of_ble_eq_true rfl, Nat.le_of_ble_eq_true rfl, Nat.le_of_ble_eq_true rfl⟩ (Nat.le_of_ble_eq_true rfl) dX5_hitsOn_17 (fun _ _ h => h) rfl (kE ?_)
  refine E_callV (c_X3_gather l hfl mi ml V hV hD n hn h10 (nI (2 ^ n - 1)) (2 ^ n - 1) (tI_nI (pw_lt (by omega)))) cw_X5_150 (As := [.ref 1, .int (nI (2 ^ n - 1))]) (st := []) wi_yX3_gather we_yX3_gather (ci := 3) (q := (RX3, TX3, 2)) rfl rfl (wl_atO tw_51) rfl ⟨Nat.le_of_ble_eq_true rfl, Nat.le_of_ble_eq_true rfl, Nat.le_of_ble_eq_true rfl, Nat.le_of_ble_eq_true rfl⟩ (Nat.le_of_ble_eq_true rfl) dX5_hitsOn_20 (fun _ _ h => h) rfl (kV (fun mi_20 ml_20 h_20 => ?_))
  obtain ⟨rfl, h_20⟩ := h_20
  refine E_aload_n 0 dX5_hitsOn_23 rfl rfl ?_
  refine gf_X5_29 tw_0 rfl dX5_hitsOn_24 ?_
  refine E_aload_n 0 dX5_hitsOn_27 rfl rfl ?_
  refine gf_X5_10 tw_0 rfl dX5_hitsOn_28 ?_
  refine E_iload_n 1 dX5_hitsOn_31 rfl rfl ?_
  refine E_callV (c_X1_channelOf l hfl 1 isD_1 mi_20 ml a b n (hA.trans (by omega)) ((congrArg Int32.toInt ((congrFun (h_20.1 1 (by decide)) 5).trans hD.2.1.1)).trans hn) (by omega) (by omega)) cw_X5_92 (As := [.int a]) (st := [.ref 51]) wi_yX1_channelOf we_yX1_channelOf (ci := 1) (q := (RX1, TX1, 15)) rfl rfl (wl_atO isD_1.t) rfl ⟨Nat.le_of_ble_eq_true rfl, Nat.le_of_ble_eq_true rfl, Nat.le_of_ble_eq_true rfl, Nat.le_of_ble_eq_true rfl⟩ (Nat.le_of_ble_eq_true rfl) dX5_hitsOn_32 (fun _ _ h => h) rfl (kE ?_)
  rw [show mi_20 2 b = (V (6 + 2 * b)) from ((congrFun (h_20.1 2 (by decide)) b).trans (hD.2.2.1 b (by omega)).1)]
  refine E_aload_n 0 dX5_hitsOn_35 rfl rfl ?_
  refine gf_X5_10 tw_0 rfl dX5_hitsOn_36 ?_
  refine gf_X5_132 (V 3) isD_1.t rfl ((congrFun (h_20.1 1 (by decide)) 3).trans hD.1.2.2.2.1) dX5_hitsOn_39 ?_
  refine E_callV (c_X3_countNear l hfl mi_20 ml (DV V) (prV V (2 ^ n - 1) n) h_20.2.1 (prV_len h10) h_20.2.2 (V (6 + 2 * b)) (V 3) ((V (6 + 2 * b)).toInt) ((V 3).toInt) rfl rfl (by omega) prV_in) cw_X5_173 (As := [.int (V (6 + 2 * b)), .int (V 3)]) (st := []) wi_yX3_countNear we_yX3_countNear (ci := 3) (q := (RX3, TX3, 2)) rfl rfl (wl_atO tw_51) rfl ⟨Nat.le_of_ble_eq_true rfl, Nat.le_of_ble_eq_true rfl, Nat.le_of_ble_eq_true rfl, Nat.le_of_ble_eq_true rfl⟩ (Nat.le_of_ble_eq_true rfl) dX5_hitsOn_42 (fun _ _ h => h) rfl (kI (fun r_42 mi_42 ml_42 h_42 => ?_))
  obtain ⟨rfl, rfl, h_42⟩ := h_42
  refine E_iret rfl (Nat.le_of_ble_eq_true rfl) (Nat.le_of_ble_eq_true rfl) dX5_hitsOn_45 ?_
  exact okQI ⟨rfl, h_20.1, b, by omega, hb, h_42⟩
set_option maxHeartbeats 1600000 in
set_option maxRecDepth 100000 in
theorem c_X5_hits (l : Launch) (hfl : l.stackTraces = false) (mi : MI) (ml : MJ) (V : Nat → Int32) (hV : WFV V) (hD : DR 1 mi V) (n : Nat) (hn : (V 5).toInt = (n : Int)) (h10 : n ≤ 10) : Ct l yX5_hits (.code yX5_hits cX5_hits 3 (some .int)) 4 0 0 [.ref 0] (wl mi ml) (QI (fun r mi9 ml9 => ml = ml9 ∧ Fr [51, 52] mi mi9 ∧ r.toInt = (hsA V (prV V (2 ^ n - 1) n) n : Int))) noX := by
  refine Ct_of (ini := false) pn_X5 hfl (fun h => nomatch h) (Nat.le_of_ble_eq_true rfl) ?_
  show E l RX5 cX5_hits 3 (some .int) false [] (rmE 4 0 0) (wl mi ml) (TgM (wl mi ml) 0 0 (QI (fun r mi9 ml9 => ml = ml9 ∧ Fr [51, 52] mi mi9 ∧ r.toInt = (hsA V (prV V (2 ^ n - 1) n) n : Int))) noX) 0 0 0 [(0, .ref 0)] [] (wl mi ml)
  refine E_aload_n 0 dX5_hits_0 rfl rfl ?_
  refine gf_X5_29 tw_0 rfl dX5_hits_1 ?_
  refine E_aload_n 0 dX5_hits_4 rfl rfl ?_
  refine gf_X5_10 tw_0 rfl dX5_hits_5 ?_
  refine E_aload_n 0 dX5_hits_8 rfl rfl ?_
  refine gf_X5_10 tw_0 rfl dX5_hits_9 ?_
  refine E_callV (c_X1_everyCarrier l hfl 1 isD_1 mi ml n ((congrArg Int32.toInt hD.2.1.1).trans hn) (by omega)) cw_X5_146 (As := []) (st := [.ref 1, .ref 51]) wi_yX1_everyCarrier we_yX1_everyCarrier (ci := 1) (q := (RX1, TX1, 15)) rfl rfl (wl_atO isD_1.t) rfl ⟨Nat.le_of_ble_eq_true rfl, Nat.le_of_ble_eq_true rfl, Nat.le_of_ble_eq_true rfl, Nat.le_of_ble_eq_true rfl⟩ (Nat.le_of_ble_eq_true rfl) dX5_hits_12 (fun _ _ h => h) rfl (kE ?_)
  refine E_callV (c_X3_gather l hfl mi ml V hV hD n hn h10 (nI (2 ^ n - 1)) (2 ^ n - 1) (tI_nI (pw_lt (by omega)))) cw_X5_150 (As := [.ref 1, .int (nI (2 ^ n - 1))]) (st := []) wi_yX3_gather we_yX3_gather (ci := 3) (q := (RX3, TX3, 2)) rfl rfl (wl_atO tw_51) rfl ⟨Nat.le_of_ble_eq_true rfl, Nat.le_of_ble_eq_true rfl, Nat.le_of_ble_eq_true rfl, Nat.le_of_ble_eq_true rfl⟩ (Nat.le_of_ble_eq_true rfl) dX5_hits_15 (fun _ _ h => h) rfl (kV (fun mi_15 ml_15 h_15 => ?_))
  obtain ⟨rfl, h_15⟩ := h_15
  have bg := hV.1.2.2.2.1
  have h540 : (prV V (2 ^ n - 1) n).length ≤ 540 := prV_len h10
  refine E_iconst 0 (by decide) dX5_hits_18 ?_
  refine E_istore_n [(1, .int 0), (0, .ref 0)] dX5_hits_19 rfl (by decide) rfl ?_
  refine E_iconst 0 (by decide) dX5_hits_20 ?_
  refine E_istore_n [(2, .int 0), (1, .int 0), (0, .ref 0)] dX5_hits_21 rfl (by decide) rfl ?_
  have J22 : ∀ (Nm : Nat) (xi xn : Int32) (i : Nat), n - i < Nm → xi.toInt = (i : Int) → xn.toInt = ((hsA V (prV V (2 ^ n - 1) n) i : Nat) : Int) → i ≤ n → E l RX5 cX5_hits 3 (some .int) false [] (rmE 4 0 0) (wl mi ml) (TgM (wl mi ml) 0 0 (QI (fun r mi9 ml9 => ml = ml9 ∧ Fr [51, 52] mi mi9 ∧ r.toInt = (hsA V (prV V (2 ^ n - 1) n) n : Int))) noX) 0 0 22 [(0, .ref 0), (1, .int xn), (2, .int xi)] [] (wl mi_15 ml) := by
    intro Nm
    induction Nm with
    | zero => intros; omega
    | succ Nm ih22 =>
      intro xi xn i hN22 hi hv hin
      refine E_iload_n 2 dX5_hits_22 rfl rfl ?_
      refine E_aload_n 0 dX5_hits_23 rfl rfl ?_
      refine gf_X5_10 tw_0 rfl dX5_hits_24 ?_
      refine gf_X5_80 (V 5) isD_1.t rfl ((congrFun (h_15.1 1 (by decide)) 5).trans hD.2.1.1) dX5_hits_27 ?_
      refine Z_ge (i : Int) (n : Int) hi hn 64 dX5_hits_30 (by decide) (fun c_30 => ?_) (fun c_30 => ?_)
      · skip
        refine E_iload_n 1 dX5_hits_64 rfl rfl ?_
        refine E_iret rfl (Nat.le_of_ble_eq_true rfl) (Nat.le_of_ble_eq_true rfl) dX5_hits_65 ?_
        exact okQI ⟨rfl, h_15.1, hv.trans (by rw [show i = n by omega])⟩
      · skip
        have bb := hV.b hn (show i < n by omega)
        have hle := hsA_le (V := V) h540 i
        have hle2 := hcA_le (D := DV V) (g := (V 3).toInt) (x := (V (6 + 2 * i)).toInt) (L := (prV V (2 ^ n - 1) n)) (prV V (2 ^ n - 1) n).length
        refine E_iload_n 1 dX5_hits_33 rfl rfl ?_
        refine E_aload_n 0 dX5_hits_34 rfl rfl ?_
        refine gf_X5_29 tw_0 rfl dX5_hits_35 ?_
        refine E_aload_n 0 dX5_hits_38 rfl rfl ?_
        refine gf_X5_10 tw_0 rfl dX5_hits_39 ?_
        refine E_iload_n 2 dX5_hits_42 rfl rfl ?_
        refine E_callV (c_X1_channelOf l hfl 1 isD_1 mi_15 ml xi i n (hi.trans (by omega)) ((congrArg Int32.toInt ((congrFun (h_15.1 1 (by decide)) 5).trans hD.2.1.1)).trans hn) (by omega) (by omega)) cw_X5_92 (As := [.int xi]) (st := [.ref 51, .int xn]) wi_yX1_channelOf we_yX1_channelOf (ci := 1) (q := (RX1, TX1, 15)) rfl rfl (wl_atO isD_1.t) rfl ⟨Nat.le_of_ble_eq_true rfl, Nat.le_of_ble_eq_true rfl, Nat.le_of_ble_eq_true rfl, Nat.le_of_ble_eq_true rfl⟩ (Nat.le_of_ble_eq_true rfl) dX5_hits_43 (fun _ _ h => h) rfl (kE ?_)
        rw [show mi_15 2 i = (V (6 + 2 * i)) from ((congrFun (h_15.1 2 (by decide)) i).trans (hD.2.2.1 i (by omega)).1)]
        refine E_aload_n 0 dX5_hits_46 rfl rfl ?_
        refine gf_X5_10 tw_0 rfl dX5_hits_47 ?_
        refine gf_X5_132 (V 3) isD_1.t rfl ((congrFun (h_15.1 1 (by decide)) 3).trans hD.1.2.2.2.1) dX5_hits_50 ?_
        refine E_callV (c_X3_countNear l hfl mi_15 ml (DV V) (prV V (2 ^ n - 1) n) h_15.2.1 (prV_len h10) h_15.2.2 (V (6 + 2 * i)) (V 3) ((V (6 + 2 * i)).toInt) ((V 3).toInt) rfl rfl (by omega) prV_in) cw_X5_173 (As := [.int (V (6 + 2 * i)), .int (V 3)]) (st := [.int xn]) wi_yX3_countNear we_yX3_countNear (ci := 3) (q := (RX3, TX3, 2)) rfl rfl (wl_atO tw_51) rfl ⟨Nat.le_of_ble_eq_true rfl, Nat.le_of_ble_eq_true rfl, Nat.le_of_ble_eq_true rfl, Nat.le_of_ble_eq_true rfl⟩ (Nat.le_of_ble_eq_true rfl) dX5_hits_53 (fun _ _ h => h) rfl (kI (fun r_53 mi_53 ml_53 h_53 => ?_))
        obtain ⟨rfl, rfl, h_53⟩ := h_53
        refine E_iadd dX5_hits_56 ?_
        refine E_istore_n [(1, .int (xn + r_53)), (0, .ref 0), (2, .int xi)] dX5_hits_57 rfl (by decide) rfl ?_
        refine E_iinc 2 (xi + 1) [(2, .int (xi + 1)), (1, .int (xn + r_53)), (0, .ref 0)] dX5_hits_58 rfl rfl (by decide) rfl ?_
        refine E_goto 22 dX5_hits_61 (by decide) ?_
        refine E_sub [2, 1, 0] rfl ?_
        exact ih22 (xi + 1) (xn + r_53) (i + 1) (by omega) ((tI_add hi (show (1 : Int32).toInt = 1 from rfl) (by omega)).trans (by omega)) ((tI_add hv h_53 (by omega)).trans (by rw [hsA]; omega)) (by omega)
  refine E_sub [2, 1, 0] rfl ?_
  exact J22 _ 0 0 0 (Nat.lt_succ_self _) (show (0 : Int32).toInt = 0 from rfl) (show (0 : Int32).toInt = 0 from rfl) (Nat.zero_le _)
end FA1
