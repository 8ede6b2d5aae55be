section DS3
section SWR
variable {l : Launch} {own : String} {cc : ByteArray} {nL : Nat} {ret : Option FieldType} {ini : Bool} {hh : List ExceptionTableEntry} {R : Room} {w0 : AW} {Tg : TgT} {k n pc : Nat} {lv : List (Nat × Value)} {st : List Value} {w : AW}
theorem E_look {dflt off : Int} {ps : Array (Int × Int)} {len : Nat} {x : Int32} (tgt : Nat) (hd : decode cc pc = .ok (.lookupswitch dflt ps, len)) (hp : (ps.toList.zip (ps.toList.drop 1)).all (fun (a, next) => a.1 < next.1) = true) (ho : Op.lookupswitch.offset ps.toList dflt x.toInt = off) (ht : (pc : Int) + off = (tgt : Int))
    (kk : E l own cc nL ret ini hh R w0 Tg k n tgt lv st w) : E l own cc nL ret ini hh R w0 Tg k n pc lv (.int x :: st) w := by
  intro p e s m args below meth c g ad H locs ls hc hP hD hS hl
  exact lv_lookup hc.1 hc.2.1 hd hp ho ht (kk p e s m args below meth c g ad H locs ls hc hP hD hS hl)
theorem E_tabOut {dflt lo hi : Int} {offs : Array Int} {len : Nat} {x : Int32} (tgt : Nat) (hd : decode cc pc = .ok (.tableswitch dflt lo hi offs, len)) (h : x.toInt < lo ∨ hi < x.toInt) (ht : (pc : Int) + dflt = (tgt : Int))
    (kk : E l own cc nL ret ini hh R w0 Tg k n tgt lv st w) : E l own cc nL ret ini hh R w0 Tg k n pc lv (.int x :: st) w := by
  intro p e s m args below meth c g ad H locs ls hc hP hD hS hl
  exact lv_tableOut hc.1 hc.2.1 hd h ht (kk p e s m args below meth c g ad H locs ls hc hP hD hS hl)
theorem E_tabIn {dflt lo hi : Int} {offs : Array Int} {len : Nat} {x : Int32} {off : Int} (tgt : Nat) (hd : decode cc pc = .ok (.tableswitch dflt lo hi offs, len)) (h1 : ¬ x.toInt < lo) (h2 : ¬ hi < x.toInt) (ho : offs[(x.toInt - lo).toNat]? = some off) (ht : (pc : Int) + off = (tgt : Int))
    (kk : E l own cc nL ret ini hh R w0 Tg k n tgt lv st w) : E l own cc nL ret ini hh R w0 Tg k n pc lv (.int x :: st) w := by
  intro p e s m args below meth c g ad H locs ls hc hP hD hS hl
  exact lv_tableIn hc.1 hc.2.1 hd h1 h2 ho ht (kk p e s m args below meth c g ad H locs ls hc hP hD hS hl)
theorem E_look01 {dflt o0 o1 : Int} {len : Nat} {x : Int32} (X : Int) (hx : x.toInt = X) (t0 t1 td : Nat) (hd : decode cc pc = .ok (.lookupswitch dflt #[(0, o0), (1, o1)], len)) (h0 : (pc : Int) + o0 = (t0 : Int)) (h1 : (pc : Int) + o1 = (t1 : Int)) (h2 : (pc : Int) + dflt = (td : Int))
    (k0 : X = 0 → E l own cc nL ret ini hh R w0 Tg k n t0 lv st w) (k1 : X = 1 → E l own cc nL ret ini hh R w0 Tg k n t1 lv st w) (kd : X ≠ 0 ∧ X ≠ 1 → E l own cc nL ret ini hh R w0 Tg k n td lv st w) : E l own cc nL ret ini hh R w0 Tg k n pc lv (.int x :: st) w := by
  subst hx
  have e0 : ∀ z : Int, Op.lookupswitch.offset [((0 : Int), o0), (1, o1)] dflt z = if 0 = z then o0 else if 1 = z then o1 else dflt := by
    intro z
    rw [Op.lookupswitch.offset_cons, Op.lookupswitch.offset_cons]
    rfl
  rcases Decidable.em (x.toInt = 0) with q | q
  · exact E_look t0 hd rfl ((e0 _).trans (if_pos q.symm)) h0 (k0 q)
  · rcases Decidable.em (x.toInt = 1) with q1 | q1
    · exact E_look t1 hd rfl ((e0 _).trans ((if_neg (fun z => q z.symm)).trans (if_pos q1.symm))) h1 (k1 q1)
    · exact E_look td hd rfl ((e0 _).trans ((if_neg (fun z => q z.symm)).trans (if_neg (fun z => q1 z.symm)))) h2 (kd ⟨q, q1⟩)
theorem E_tab3 {dflt o0 o1 o2 : Int} {len : Nat} {x : Int32} (X : Int) (hx : x.toInt = X) (t0 t1 t2 td : Nat) (hd : decode cc pc = .ok (.tableswitch dflt 0 2 #[o0, o1, o2], len)) (h0 : (pc : Int) + o0 = (t0 : Int)) (h1 : (pc : Int) + o1 = (t1 : Int)) (h2 : (pc : Int) + o2 = (t2 : Int)) (h3 : (pc : Int) + dflt = (td : Int))
    (k0 : X = 0 → E l own cc nL ret ini hh R w0 Tg k n t0 lv st w) (k1 : X = 1 → E l own cc nL ret ini hh R w0 Tg k n t1 lv st w) (k2 : X = 2 → E l own cc nL ret ini hh R w0 Tg k n t2 lv st w) (kd : X < 0 ∨ 2 < X → E l own cc nL ret ini hh R w0 Tg k n td lv st w) : E l own cc nL ret ini hh R w0 Tg k n pc lv (.int x :: st) w := by
  subst hx
  rcases Decidable.em (x.toInt < 0 ∨ 2 < x.toInt) with q | q
  · exact E_tabOut td hd q h3 (kd q)
  · rcases (show x.toInt = 0 ∨ x.toInt = 1 ∨ x.toInt = 2 by omega) with q1 | q1 | q1
    · exact E_tabIn t0 hd (by omega) (by omega) (by rw [q1]; rfl) h0 (k0 q1)
    · exact E_tabIn t1 hd (by omega) (by omega) (by rw [q1]; rfl) h1 (k1 q1)
    · exact E_tabIn t2 hd (by omega) (by omega) (by rw [q1]; rfl) h2 (k2 q1)
end SWR
theorem Fr_r {F : List Nat} {mi : MI} : Fr F mi mi := fun _ _ => rfl
def delR (f : Nat → Int32) (c j : Nat) : Int32 := if j < c then f j else f (j + 1)
def TKI (h : Nat) (mi mi1 : MI) (c b : Nat) : Prop := Fr [h, h + 1, h + 2] mi mi1 ∧ (∀ k, k ≠ 10 → mi1 h k = mi h k) ∧ (∀ j, j < b → mi1 (h + 1) j = delR (mi (h + 1)) c j ∧ mi1 (h + 2) j = delR (mi (h + 2)) c j) ∧ (∀ j, b ≤ j → mi1 (h + 1) j = mi (h + 1) j ∧ mi1 (h + 2) j = mi (h + 2) j)
theorem TKI_0 {h : Nat} {mi : MI} {c : Nat} : TKI h mi mi c c := by
  refine ⟨Fr_r, fun k _ => rfl, fun j hj => ?_, fun j _ => ⟨rfl, rfl⟩⟩
  simp only [delR, if_pos hj, and_self]
theorem TKI_s {h : Nat} {mi mi1 : MI} {c b : Nat} (H : TKI h mi mi1 c b) (hb : c ≤ b) : TKI h mi (u2 (u2 (u2 mi1 (h + 1) b (mi1 (h + 1) (b + 1))) (h + 2) b (mi1 (h + 2) (b + 1))) h 10 0) c (b + 1) := by
  obtain ⟨h1, h2, h3, h4⟩ := H
  have n1 : h ≠ h + 1 := by omega
  have n2 : h ≠ h + 2 := by omega
  have n3 : h + 1 ≠ h := by omega
  have n4 : h + 2 ≠ h := by omega
  have n5 : h + 1 ≠ h + 2 := by omega
  have n6 : h + 2 ≠ h + 1 := by omega
  refine ⟨fun p hp => ?_, fun k hk => ?_, fun j hj => ?_, fun j hj => ?_⟩
  · simp only [List.mem_cons, List.not_mem_nil, or_false, not_or] at hp
    rw [u2_p hp.1, u2_p hp.2.2, u2_p hp.2.1]
    exact h1 p (by simp [hp])
  · rw [u2_n (Or.inr hk), u2_n (Or.inl n2), u2_n (Or.inl n1)]
    exact h2 k hk
  · rw [u2_n (Or.inl n3), u2_n (Or.inl n5), u2_n (p' := h + 2) (p := h) (Or.inl n4)]
    rcases Nat.lt_or_ge j b with q | q
    · rw [u2_n (Or.inr (by omega)), u2_n (Or.inr (by omega)), u2_n (Or.inl n6)]
      exact h3 j q
    · obtain rfl : j = b := by omega
      have h5 := h4 (j + 1) (by omega)
      rw [u2_s, u2_s]
      simp only [delR, if_neg (Nat.not_lt.mpr hb)]
      exact h5
  · rw [u2_n (Or.inl n3), u2_n (Or.inl n5), u2_n (p' := h + 2) (p := h) (Or.inl n4), u2_n (Or.inr (by omega)), u2_n (Or.inr (by omega)), u2_n (Or.inl n6)]
    exact h4 j (by omega)
def TKM (h : Nat) (f : Int32 → Int32) (mi mi1 : MI) (b : Nat) : Prop := Fr [h, h + 3] mi mi1 ∧ (∀ k, k ≠ 10 → mi1 h k = mi h k) ∧ (∀ j, j < b → mi1 (h + 3) j = f (mi (h + 3) j)) ∧ (∀ j, b ≤ j → mi1 (h + 3) j = mi (h + 3) j)
theorem TKM_0 {h : Nat} {f : Int32 → Int32} {mi : MI} : TKM h f mi mi 0 := ⟨Fr_r, fun k _ => rfl, fun j hj => absurd hj (Nat.not_lt_zero j), fun j _ => rfl⟩
theorem TKM_s {h : Nat} {f : Int32 → Int32} {mi mi1 : MI} {b : Nat} {v : Int32} (H : TKM h f mi mi1 b) (hv : v = f (mi1 (h + 3) b)) : TKM h f mi (u2 (u2 mi1 (h + 3) b v) h 10 0) (b + 1) := by
  obtain ⟨h1, h2, h3, h4⟩ := H
  subst hv
  have n1 : h ≠ h + 3 := by omega
  have n3 : h + 3 ≠ h := by omega
  refine ⟨fun p hp => ?_, fun k hk => ?_, fun j hj => ?_, fun j hj => ?_⟩
  · simp only [List.mem_cons, List.not_mem_nil, or_false, not_or] at hp
    rw [u2_p hp.1, u2_p hp.2]
    exact h1 p (by simp [hp])
  · rw [u2_n (Or.inr hk), u2_n (Or.inl n1)]
    exact h2 k hk
  · rw [u2_n (Or.inl n3)]
    rcases Nat.lt_or_ge j b with q | q
    · rw [u2_n (Or.inr (by omega))]
      exact h3 j q
    · obtain rfl : j = b := by omega
      rw [u2_s, h4 j (by omega)]
  · rw [u2_n (Or.inl n3), u2_n (Or.inr (by omega))]
    exact h4 j (by omega)
/-- a carrier is taken out -/
def TOS (h : Nat) (mi mi9 : MI) (c n m : Nat) (low : Int32) : Prop := Fr [h, h + 1, h + 2, h + 3] mi mi9 ∧ (∀ k, k ≠ 10 → k ≠ 5 → mi9 h k = mi h k) ∧ mi9 h 5 = mi h 5 - 1 ∧ mi9 h 10 = 0 ∧ (∀ j, j + 1 < n → mi9 (h + 1) j = delR (mi (h + 1)) c j ∧ mi9 (h + 2) j = delR (mi (h + 2)) c j) ∧ (∀ j, j < m → mi9 (h + 3) j = rmB (mi (h + 3) j) low)
theorem TOS_i {h : Nat} {mi mi1 mi2 : MI} {c n m b : Nat} {low : Int32} (H1 : TKI h mi mi1 c b) (hb : n ≤ b + 1) (H2 : TKM h (fun x => rmB x low) (u2 mi1 h 5 (mi h 5 - 1)) mi2 m) : TOS h mi (u2 mi2 h 10 0) c n m low := by
  obtain ⟨a1, a2, a3, a4⟩ := H1
  obtain ⟨b1, b2, b3, b4⟩ := H2
  have n1 : h + 1 ≠ h := by omega
  have n2 : h + 2 ≠ h := by omega
  have n3 : h + 3 ≠ h := by omega
  refine ⟨fun p hp => ?_, fun k hk hk5 => ?_, ?_, u2_s _ _ _ _, fun j hj => ?_, fun j hj => ?_⟩
  · simp only [List.mem_cons, List.not_mem_nil, or_false, not_or] at hp
    rw [u2_p hp.1, b1 p (by simp [hp]), u2_p hp.1, a1 p (by simp [hp])]
  · rw [u2_n (Or.inr hk), b2 k hk, u2_n (Or.inr hk5), a2 k hk]
  · rw [u2_n (Or.inr (by decide)), b2 5 (by decide), u2_s]
  · rw [u2_n (Or.inl n1), u2_n (Or.inl n2), b1 (h + 1) (by simp), b1 (h + 2) (by simp), u2_p n1, u2_p n2]
    exact a3 j (by omega)
  · rw [u2_n (Or.inl n3), b3 j hj, u2_p n3, a1 (h + 3) (by simp)]
def SHI (h : Nat) (by_ : Int32) (mi mi1 : MI) (b : Nat) : Prop := Fr [h, h + 1, h + 2] mi mi1 ∧ (∀ k, k ≠ 10 → mi1 h k = mi h k) ∧ (∀ j, j < b → mi1 (h + 1) j = mi (h + 1) j + by_) ∧ (∀ j, b ≤ j → mi1 (h + 1) j = mi (h + 1) j) ∧ (∀ j, mi1 (h + 2) j = mi (h + 2) j)
theorem SHI_0 {h : Nat} {by_ : Int32} {mi : MI} : SHI h by_ mi mi 0 := ⟨Fr_r, fun k _ => rfl, fun j hj => absurd hj (Nat.not_lt_zero j), fun j _ => rfl, fun j => rfl⟩
theorem SHI_s {h : Nat} {by_ : Int32} {mi mi1 : MI} {b : Nat} (H : SHI h by_ mi mi1 b) : SHI h by_ mi (u2 (u2 (u2 mi1 (h + 1) b (mi1 (h + 1) b + by_)) (h + 2) b (mi1 (h + 2) b)) h 10 0) (b + 1) := by
  obtain ⟨h1, h2, h3, h4, h5⟩ := H
  have n1 : h ≠ h + 1 := by omega
  have n2 : h ≠ h + 2 := by omega
  have n3 : h + 1 ≠ h := by omega
  have n4 : h + 2 ≠ h := by omega
  have n5 : h + 1 ≠ h + 2 := by omega
  have n6 : h + 2 ≠ h + 1 := by omega
  refine ⟨fun p hp => ?_, fun k hk => ?_, fun j hj => ?_, fun j hj => ?_, fun j => ?_⟩
  · simp only [List.mem_cons, List.not_mem_nil, or_false, not_or] at hp
    rw [u2_p hp.1, u2_p hp.2.2, u2_p hp.2.1]
    exact h1 p (by simp [hp])
  · rw [u2_n (Or.inr hk), u2_n (Or.inl n2), u2_n (Or.inl n1)]
    exact h2 k hk
  · rw [u2_n (Or.inl n3), u2_n (Or.inl n5)]
    rcases Nat.lt_or_ge j b with q | q
    · rw [u2_n (Or.inr (by omega))]
      exact h3 j q
    · obtain rfl : j = b := by omega
      rw [u2_s, h4 j (by omega)]
  · rw [u2_n (Or.inl n3), u2_n (Or.inl n5), u2_n (Or.inr (by omega))]
    exact h4 j (by omega)
  · rw [u2_n (Or.inl n4)]
    rcases Decidable.em (j = b) with rfl | q
    · rw [u2_s, h5]
    · rw [u2_n (Or.inr q), u2_n (Or.inl n6), h5]
set_option maxHeartbeats 1600000 in
set_option maxRecDepth 100000 in
theorem c_X1_membersOfS (l : Launch) (hfl : l.stackTraces = false) (h : Nat) (hd : isD h) (mi : MI) (ml : MJ) (c : Int32) (j : Nat) (hj : c.toInt = (j : Int)) (m : Nat) (hm : (mi h 8).toInt = (m : Int)) (lm : m ≤ 5) (hjm : j < m) : Ct l yX1_membersOf (.code yX1_membersOf cX1_membersOf 2 (some .int)) 1 0 0 [.ref h, .int c] (wl mi ml) (QP (some (.int (mi (h + 3) j))) (wl mi ml)) noX := by
  refine Ct_of (ini := false) pn_X1 hfl (fun h => nomatch h) (Nat.le_of_ble_eq_true rfl) ?_
  show E l RX1 cX1_membersOf 2 (some .int) false [] (rmE 1 0 0) (wl mi ml) (TgM (wl mi ml) 0 0 (QP (some (.int (mi (h + 3) j))) (wl mi ml)) noX) 0 0 0 [(0, .ref h), (1, .int c)] [] (wl mi ml)
  refine E_aload_n 0 dX1_membersOf_0 rfl rfl ?_
  refine E_iload_n 1 dX1_membersOf_1 rfl rfl ?_
  refine E_callV (c_X1_hasMixer l hfl h hd mi ml c (j : Int) (m : Int) hj hm) cw_X1_86 (As := [.int c]) (st := []) wi_yX1_hasMixer we_yX1_hasMixer (ci := 1) (q := (RX1, TX1, 15)) rfl rfl (wl_atO hd.t) rfl ⟨Nat.le_of_ble_eq_true rfl, Nat.le_of_ble_eq_true rfl, Nat.le_of_ble_eq_true rfl, Nat.le_of_ble_eq_true rfl⟩ (Nat.le_of_ble_eq_true rfl) dX1_membersOf_2 (fun _ _ h => h) rfl (kE ?_)
  refine B_eq 17 dX1_membersOf_5 (by decide) (fun c_5 => ?_) (fun c_5 => ?_)
  · exact absurd (by omega) c_5
  · skip
    refine E_aload_n 0 dX1_membersOf_8 rfl rfl ?_
    refine gf_X1_34 hd.t rfl dX1_membersOf_9 ?_
    refine E_iload_n 1 dX1_membersOf_12 rfl rfl ?_
    refine S_iald j (mi (h + 3) j) hd.a3 (hj.trans (by omega)) (by omega) rfl dX1_membersOf_13 ?_
    refine E_goto 18 dX1_membersOf_14 (by decide) ?_
    refine E_iret rfl (Nat.le_of_ble_eq_true rfl) (Nat.le_of_ble_eq_true rfl) dX1_membersOf_18 ?_
    exact okP rfl
set_option maxHeartbeats 1600000 in
set_option maxRecDepth 100000 in
theorem c_X1_takeOut (l : Launch) (hfl : l.stackTraces = false) (h : Nat) (hd : isD h) (mi : MI) (ml : MJ) (xc : Int32) (c : Nat) (hc : xc.toInt = (c : Int)) (n : Nat) (hn : (mi h 5).toInt = (n : Int)) (ln : n ≤ 10) (m : Nat) (hm : (mi h 8).toInt = (m : Int)) (lm : m ≤ 5) (hcn : c < n) : Ct l yX1_takeOut (.code yX1_takeOut cX1_takeOut 5 none) 3 0 0 [.ref h, .int xc] (wl mi ml) (QV (fun mi9 ml9 => ml = ml9 ∧ TOS h mi mi9 c n m (((1 : Int32) <<< (xc &&& 31)) - 1))) noX := by
  refine Ct_of (ini := false) pn_X1 hfl (fun h => nomatch h) (Nat.le_of_ble_eq_true rfl) ?_
  show E l RX1 cX1_takeOut 5 none false [] (rmE 3 0 0) (wl mi ml) (TgM (wl mi ml) 0 0 (QV (fun mi9 ml9 => ml = ml9 ∧ TOS h mi mi9 c n m (((1 : Int32) <<< (xc &&& 31)) - 1))) noX) 0 0 0 [(0, .ref h), (1, .int xc)] [] (wl mi ml)
  refine E_aload_n 0 dX1_takeOut_0 rfl rfl ?_
  refine E_iload_n 1 dX1_takeOut_1 rfl rfl ?_
  refine E_callV (c_X1_hasCarrier l hfl h hd mi ml xc (c : Int) (n : Int) hc hn) cw_X1_64 (As := [.int xc]) (st := []) wi_yX1_hasCarrier we_yX1_hasCarrier (ci := 1) (q := (RX1, TX1, 15)) rfl rfl (wl_atO hd.t) rfl ⟨Nat.le_of_ble_eq_true rfl, Nat.le_of_ble_eq_true rfl, Nat.le_of_ble_eq_true rfl, Nat.le_of_ble_eq_true rfl⟩ (Nat.le_of_ble_eq_true rfl) dX1_takeOut_2 (fun _ _ h => h) rfl (kE ?_)
  refine B_ne 9 dX1_takeOut_5 (by decide) (fun c_5 => ?_) (fun c_5 => ?_)
  · skip
    refine E_iload_n 1 dX1_takeOut_9 rfl rfl ?_
    refine E_iconst 1 (by decide) dX1_takeOut_10 ?_
    refine E_iadd dX1_takeOut_11 ?_
    refine E_istore_n [(2, .int (xc + 1)), (0, .ref h), (1, .int xc)] dX1_takeOut_12 rfl (by decide) rfl ?_
    have J13 : ∀ (Nm : Nat) (mi1 : MI) (xb : Int32) (b : Nat), n - b < Nm → xb.toInt = ((b + 1 : Nat) : Int) → c ≤ b → b < n → TKI h mi mi1 c b → E l RX1 cX1_takeOut 5 none false [] (rmE 3 0 0) (wl mi ml) (TgM (wl mi ml) 0 0 (QV (fun mi9 ml9 => ml = ml9 ∧ TOS h mi mi9 c n m (((1 : Int32) <<< (xc &&& 31)) - 1))) noX) 0 0 13 [(0, .ref h), (1, .int xc), (2, .int xb)] [] (wl mi1 ml) := by
      intro Nm
      induction Nm with
      | zero => intros; omega
      | succ Nm ih13 =>
        intro mi1 xb b hN13 hb hcb hbn hI
        refine E_iload_n 2 dX1_takeOut_13 rfl rfl ?_
        refine E_aload_n 0 dX1_takeOut_14 rfl rfl ?_
        refine gf_X1_49 (mi h 5) hd.t rfl (hI.2.1 5 (by decide)) dX1_takeOut_15 ?_
        refine Z_ge ((b + 1 : Nat) : Int) (n : Int) hb hn 44 dX1_takeOut_18 (by decide) (fun c_18 => ?_) (fun c_18 => ?_)
        · skip
          refine E_aload_n 0 dX1_takeOut_44 rfl rfl ?_
          refine E_dup rfl dX1_takeOut_45 ?_
          refine gf_X1_49 (mi h 5) hd.t rfl (hI.2.1 5 (by decide)) dX1_takeOut_46 ?_
          refine E_iconst 1 (by decide) dX1_takeOut_49 ?_
          refine E_isub dX1_takeOut_50 ?_
          refine pf_X1_49 hd.t rfl dX1_takeOut_51 ?_
          refine E_iconst 1 (by decide) dX1_takeOut_54 ?_
          refine E_iload_n 1 dX1_takeOut_55 rfl rfl ?_
          refine E_ishl dX1_takeOut_56 ?_
          refine E_iconst 1 (by decide) dX1_takeOut_57 ?_
          refine E_isub dX1_takeOut_58 ?_
          refine E_istore_n [(2, .int (((1 : Int32) <<< (xc &&& 31)) - 1)), (0, .ref h), (1, .int xc)] dX1_takeOut_59 rfl (by decide) rfl ?_
          refine E_iconst 0 (by decide) dX1_takeOut_60 ?_
          refine E_istore_n [(3, .int 0), (2, .int (((1 : Int32) <<< (xc &&& 31)) - 1)), (0, .ref h), (1, .int xc)] dX1_takeOut_61 rfl (by decide) rfl ?_
          have J62 : ∀ (Nm : Nat) (mi2 : MI) (xk : Int32) (k : Nat), m - k < Nm → xk.toInt = (k : Int) → k ≤ m → TKM h (fun x => rmB x (((1 : Int32) <<< (xc &&& 31)) - 1)) (u2 mi1 h 5 (mi h 5 - 1)) mi2 k → E l RX1 cX1_takeOut 5 none false [] (rmE 3 0 0) (wl mi ml) (TgM (wl mi ml) 0 0 (QV (fun mi9 ml9 => ml = ml9 ∧ TOS h mi mi9 c n m (((1 : Int32) <<< (xc &&& 31)) - 1))) noX) 0 0 62 [(0, .ref h), (2, .int (((1 : Int32) <<< (xc &&& 31)) - 1)), (3, .int xk)] [] (wl mi2 ml) := by
            intro Nm
            induction Nm with
            | zero => intros; omega
            | succ Nm ih62 =>
              intro mi2 xk k hN62 hk hkm hM
              refine E_iload_n 2 dX1_takeOut_62 rfl rfl ?_
              refine E_aload_n 0 dX1_takeOut_63 rfl rfl ?_
              refine gf_X1_52 (mi h 8) hd.t rfl ((hM.2.1 8 (by decide)).trans ((u2_n (Or.inr (by decide))).trans (hI.2.1 8 (by decide)))) dX1_takeOut_64 ?_
              refine Z_ge (k : Int) (m : Int) hk hm 101 dX1_takeOut_67 (by decide) (fun c_67 => ?_) (fun c_67 => ?_)
              · skip
                refine E_aload_n 0 dX1_takeOut_101 rfl rfl ?_
                refine E_iconst 0 (by decide) dX1_takeOut_102 ?_
                refine pf_X1_55 hd.t rfl dX1_takeOut_103 ?_
                refine E_vret rfl (Nat.le_of_ble_eq_true rfl) (Nat.le_of_ble_eq_true rfl) dX1_takeOut_106 ?_
                obtain rfl : k = m := by omega
                exact okQV ⟨rfl, TOS_i hI (by omega) hM⟩
              · skip
                refine E_aload_n 0 dX1_takeOut_70 rfl rfl ?_
                refine E_iload_n 2 dX1_takeOut_71 rfl rfl ?_
                refine E_callV (c_X1_membersOfS l hfl h hd mi2 ml xk k (hk.trans (by omega)) m (((congrArg Int32.toInt ((hM.2.1 8 (by decide)).trans ((u2_n (Or.inr (by decide))).trans (hI.2.1 8 (by decide))))).trans hm).trans (by omega)) (by omega) (by omega)) cw_X1_79 (As := [.int xk]) (st := []) wi_yX1_membersOf we_yX1_membersOf (ci := 1) (q := (RX1, TX1, 15)) rfl rfl (wl_atO hd.t) rfl ⟨Nat.le_of_ble_eq_true rfl, Nat.le_of_ble_eq_true rfl, Nat.le_of_ble_eq_true rfl, Nat.le_of_ble_eq_true rfl⟩ (Nat.le_of_ble_eq_true rfl) dX1_takeOut_72 (fun _ _ h => h) rfl (kE ?_)
                refine E_istore [(4, .int (mi2 (h + 3) k)), (0, .ref h), (2, .int (((1 : Int32) <<< (xc &&& 31)) - 1)), (3, .int xk)] dX1_takeOut_75 (by decide) rfl ?_
                refine E_aload_n 1 dX1_takeOut_77 rfl rfl ?_
                refine E_iload_n 3 dX1_takeOut_78 rfl rfl ?_
                refine E_iload 0 dX1_takeOut_79 rfl ?_
                refine E_iload_n 2 dX1_takeOut_81 rfl rfl ?_
                refine E_iand dX1_takeOut_82 ?_
                refine E_iload 0 dX1_takeOut_83 rfl ?_
                refine E_iconst 1 (by decide) dX1_takeOut_85 ?_
                refine E_ishr dX1_takeOut_86 ?_
                refine E_iload_n 2 dX1_takeOut_87 rfl rfl ?_
                refine E_iconst (-1) (by decide) dX1_takeOut_88 ?_
                refine E_ixor dX1_takeOut_89 ?_
                refine E_iand dX1_takeOut_90 ?_
                refine E_ior dX1_takeOut_91 ?_
                refine E_callV (c_X1_setMembers l hfl h hd mi2 ml xk (((mi2 (h + 3) k) &&& (((1 : Int32) <<< (xc &&& 31)) - 1)) ||| (((mi2 (h + 3) k) >>> ((1 : Int32) &&& 31)) &&& ((((1 : Int32) <<< (xc &&& 31)) - 1) ^^^ ((-1) : Int32)))) k (hk.trans (by omega)) m (((congrArg Int32.toInt ((hM.2.1 8 (by decide)).trans ((u2_n (Or.inr (by decide))).trans (hI.2.1 8 (by decide))))).trans hm).trans (by omega)) (by omega) (by omega)) cw_X1_82 (As := [.int xk, .int (((mi2 (h + 3) k) &&& (((1 : Int32) <<< (xc &&& 31)) - 1)) ||| (((mi2 (h + 3) k) >>> ((1 : Int32) &&& 31)) &&& ((((1 : Int32) <<< (xc &&& 31)) - 1) ^^^ ((-1) : Int32))))]) (st := []) wi_yX1_setMembers we_yX1_setMembers (ci := 1) (q := (RX1, TX1, 15)) rfl rfl (wl_atO hd.t) rfl ⟨Nat.le_of_ble_eq_true rfl, Nat.le_of_ble_eq_true rfl, Nat.le_of_ble_eq_true rfl, Nat.le_of_ble_eq_true rfl⟩ (Nat.le_of_ble_eq_true rfl) dX1_takeOut_92 (fun _ _ h => h) rfl (kE0 ?_)
                refine E_iinc 3 (xk + 1) [(3, .int (xk + 1)), (4, .int (mi2 (h + 3) k)), (0, .ref h), (2, .int (((1 : Int32) <<< (xc &&& 31)) - 1))] dX1_takeOut_95 rfl rfl (by decide) rfl ?_
                refine E_goto 62 dX1_takeOut_98 (by decide) ?_
                refine E_sub [2, 3, 0] rfl ?_
                exact ih62 _ (xk + 1) (k + 1) (by omega) ((tI_add hk (show (1 : Int32).toInt = 1 from rfl) (by omega)).trans (by omega)) (by omega) (TKM_s hM rfl)
          refine E_sub [2, 1, 0] rfl ?_
          exact J62 _ _ 0 0 (Nat.lt_succ_self _) (show (0 : Int32).toInt = 0 from rfl) (Nat.zero_le _) TKM_0
        · skip
          refine E_aload_n 0 dX1_takeOut_21 rfl rfl ?_
          refine E_iload_n 2 dX1_takeOut_22 rfl rfl ?_
          refine E_iconst 1 (by decide) dX1_takeOut_23 ?_
          refine E_isub dX1_takeOut_24 ?_
          refine E_aload_n 0 dX1_takeOut_25 rfl rfl ?_
          refine E_iload_n 2 dX1_takeOut_26 rfl rfl ?_
          refine E_callV (c_X1_channelOf l hfl h hd mi1 ml xb (b + 1) n (hb.trans (by omega)) ((congrArg Int32.toInt (hI.2.1 5 (by decide))).trans hn) (by omega) (by omega)) cw_X1_68 (As := [.int xb]) (st := [.int (xb - 1), .ref h]) wi_yX1_channelOf we_yX1_channelOf (ci := 1) (q := (RX1, TX1, 15)) rfl rfl (wl_atO hd.t) rfl ⟨Nat.le_of_ble_eq_true rfl, Nat.le_of_ble_eq_true rfl, Nat.le_of_ble_eq_true rfl, Nat.le_of_ble_eq_true rfl⟩ (Nat.le_of_ble_eq_true rfl) dX1_takeOut_27 (fun _ _ h => h) rfl (kE ?_)
          refine E_aload_n 0 dX1_takeOut_30 rfl rfl ?_
          refine E_iload_n 2 dX1_takeOut_31 rfl rfl ?_
          refine E_callV (c_X1_levelOf l hfl h hd mi1 ml xb (b + 1) n (hb.trans (by omega)) ((congrArg Int32.toInt (hI.2.1 5 (by decide))).trans hn) (by omega) (by omega)) cw_X1_76 (As := [.int xb]) (st := [.int (mi1 (h + 1) (b + 1)), .int (xb - 1), .ref h]) wi_yX1_levelOf we_yX1_levelOf (ci := 1) (q := (RX1, TX1, 15)) rfl rfl (wl_atO hd.t) rfl ⟨Nat.le_of_ble_eq_true rfl, Nat.le_of_ble_eq_true rfl, Nat.le_of_ble_eq_true rfl, Nat.le_of_ble_eq_true rfl⟩ (Nat.le_of_ble_eq_true rfl) dX1_takeOut_32 (fun _ _ h => h) rfl (kE ?_)
          refine E_callV (c_X1_setCarrier l hfl h hd mi1 ml (xb - 1) (mi1 (h + 1) (b + 1)) (mi1 (h + 2) (b + 1)) b ((tI_sub hb (show (1 : Int32).toInt = 1 from rfl) (by omega)).trans (by omega)) n (((congrArg Int32.toInt (hI.2.1 5 (by decide))).trans hn).trans (by omega)) (by omega) (by omega)) cw_X1_72 (As := [.int (xb - 1), .int (mi1 (h + 1) (b + 1)), .int (mi1 (h + 2) (b + 1))]) (st := []) wi_yX1_setCarrier we_yX1_setCarrier (ci := 1) (q := (RX1, TX1, 15)) rfl rfl (wl_atO hd.t) rfl ⟨Nat.le_of_ble_eq_true rfl, Nat.le_of_ble_eq_true rfl, Nat.le_of_ble_eq_true rfl, Nat.le_of_ble_eq_true rfl⟩ (Nat.le_of_ble_eq_true rfl) dX1_takeOut_35 (fun _ _ h => h) rfl (kE0 ?_)
          refine E_iinc 2 (xb + 1) [(2, .int (xb + 1)), (0, .ref h), (1, .int xc)] dX1_takeOut_38 rfl rfl (by decide) rfl ?_
          refine E_goto 13 dX1_takeOut_41 (by decide) ?_
          refine E_sub [1, 2, 0] rfl ?_
          exact ih13 _ (xb + 1) (b + 1) (by omega) ((tI_add hb (show (1 : Int32).toInt = 1 from rfl) (by omega)).trans (by omega)) (by omega) (by omega) (TKI_s hI hcb)
    refine E_sub [1, 2, 0] rfl ?_
    exact J13 _ mi (xc + 1) c (Nat.lt_succ_self _) ((tI_add hc (show (1 : Int32).toInt = 1 from rfl) (by omega)).trans (by omega)) (Nat.le_refl c) hcn TKI_0
  · exact absurd (show (0 : Int) ≤ c ∧ (c : Int) < n ∧ (c : Int) < 10 by omega) c_5
set_option maxHeartbeats 1600000 in
set_option maxRecDepth 100000 in
theorem c_X1_shiftAll (l : Launch) (hfl : l.stackTraces = false) (h : Nat) (hd : isD h) (mi : MI) (ml : MJ) (xb : Int32) (n : Nat) (hn : (mi h 5).toInt = (n : Int)) (ln : n ≤ 10) : Ct l yX1_shiftAll (.code yX1_shiftAll cX1_shiftAll 3 none) 2 0 0 [.ref h, .int xb] (wl mi ml) (QV (fun mi9 ml9 => ml = ml9 ∧ ∃ mi1, SHI h xb mi mi1 n ∧ u2 mi1 h 10 0 = mi9)) noX := by
  refine Ct_of (ini := false) pn_X1 hfl (fun h => nomatch h) (Nat.le_of_ble_eq_true rfl) ?_
  show E l RX1 cX1_shiftAll 3 none false [] (rmE 2 0 0) (wl mi ml) (TgM (wl mi ml) 0 0 (QV (fun mi9 ml9 => ml = ml9 ∧ ∃ mi1, SHI h xb mi mi1 n ∧ u2 mi1 h 10 0 = mi9)) noX) 0 0 0 [(0, .ref h), (1, .int xb)] [] (wl mi ml)
  refine E_iconst 0 (by decide) dX1_shiftAll_0 ?_
  refine E_istore_n [(2, .int 0), (0, .ref h), (1, .int xb)] dX1_shiftAll_1 rfl (by decide) rfl ?_
  have J2 : ∀ (Nm : Nat) (mi1 : MI) (xi : Int32) (i : Nat), n - i < Nm → xi.toInt = (i : Int) → i ≤ n → SHI h xb mi mi1 i → E l RX1 cX1_shiftAll 3 none false [] (rmE 2 0 0) (wl mi ml) (TgM (wl mi ml) 0 0 (QV (fun mi9 ml9 => ml = ml9 ∧ ∃ mi1, SHI h xb mi mi1 n ∧ u2 mi1 h 10 0 = mi9)) noX) 0 0 2 [(0, .ref h), (1, .int xb), (2, .int xi)] [] (wl mi1 ml) := by
    intro Nm
    induction Nm with
    | zero => intros; omega
    | succ Nm ih2 =>
      intro mi1 xi i hN2 hi hin hI
      refine E_iload_n 2 dX1_shiftAll_2 rfl rfl ?_
      refine E_aload_n 0 dX1_shiftAll_3 rfl rfl ?_
      refine gf_X1_49 (mi h 5) hd.t rfl (hI.2.1 5 (by decide)) dX1_shiftAll_4 ?_
      refine Z_ge (i : Int) (n : Int) hi hn 33 dX1_shiftAll_7 (by decide) (fun c_7 => ?_) (fun c_7 => ?_)
      · skip
        refine E_aload_n 0 dX1_shiftAll_33 rfl rfl ?_
        refine E_iconst 0 (by decide) dX1_shiftAll_34 ?_
        refine pf_X1_55 hd.t rfl dX1_shiftAll_35 ?_
        refine E_vret rfl (Nat.le_of_ble_eq_true rfl) (Nat.le_of_ble_eq_true rfl) dX1_shiftAll_38 ?_
        obtain rfl : i = n := by omega
        exact okQV ⟨rfl, mi1, hI, rfl⟩
      · skip
        refine E_aload_n 0 dX1_shiftAll_10 rfl rfl ?_
        refine E_iload_n 2 dX1_shiftAll_11 rfl rfl ?_
        refine E_aload_n 0 dX1_shiftAll_12 rfl rfl ?_
        refine E_iload_n 2 dX1_shiftAll_13 rfl rfl ?_
        refine E_callV (c_X1_channelOf l hfl h hd mi1 ml xi i n (hi.trans (by omega)) ((congrArg Int32.toInt (hI.2.1 5 (by decide))).trans hn) (by omega) (by omega)) cw_X1_68 (As := [.int xi]) (st := [.int xi, .ref h]) wi_yX1_channelOf we_yX1_channelOf (ci := 1) (q := (RX1, TX1, 15)) rfl rfl (wl_atO hd.t) rfl ⟨Nat.le_of_ble_eq_true rfl, Nat.le_of_ble_eq_true rfl, Nat.le_of_ble_eq_true rfl, Nat.le_of_ble_eq_true rfl⟩ (Nat.le_of_ble_eq_true rfl) dX1_shiftAll_14 (fun _ _ h => h) rfl (kE ?_)
        refine E_iload_n 1 dX1_shiftAll_17 rfl rfl ?_
        refine E_iadd dX1_shiftAll_18 ?_
        refine E_aload_n 0 dX1_shiftAll_19 rfl rfl ?_
        refine E_iload_n 2 dX1_shiftAll_20 rfl rfl ?_
        refine E_callV (c_X1_levelOf l hfl h hd mi1 ml xi i n (hi.trans (by omega)) ((congrArg Int32.toInt (hI.2.1 5 (by decide))).trans hn) (by omega) (by omega)) cw_X1_76 (As := [.int xi]) (st := [.int ((mi1 (h + 1) i) + xb), .int xi, .ref h]) wi_yX1_levelOf we_yX1_levelOf (ci := 1) (q := (RX1, TX1, 15)) rfl rfl (wl_atO hd.t) rfl ⟨Nat.le_of_ble_eq_true rfl, Nat.le_of_ble_eq_true rfl, Nat.le_of_ble_eq_true rfl, Nat.le_of_ble_eq_true rfl⟩ (Nat.le_of_ble_eq_true rfl) dX1_shiftAll_21 (fun _ _ h => h) rfl (kE ?_)
        refine E_callV (c_X1_setCarrier l hfl h hd mi1 ml xi ((mi1 (h + 1) i) + xb) (mi1 (h + 2) i) i (hi.trans (by omega)) n (((congrArg Int32.toInt (hI.2.1 5 (by decide))).trans hn).trans (by omega)) (by omega) (by omega)) cw_X1_72 (As := [.int xi, .int ((mi1 (h + 1) i) + xb), .int (mi1 (h + 2) i)]) (st := []) wi_yX1_setCarrier we_yX1_setCarrier (ci := 1) (q := (RX1, TX1, 15)) rfl rfl (wl_atO hd.t) rfl ⟨Nat.le_of_ble_eq_true rfl, Nat.le_of_ble_eq_true rfl, Nat.le_of_ble_eq_true rfl, Nat.le_of_ble_eq_true rfl⟩ (Nat.le_of_ble_eq_true rfl) dX1_shiftAll_24 (fun _ _ h => h) rfl (kE0 ?_)
        refine E_iinc 2 (xi + 1) [(2, .int (xi + 1)), (0, .ref h), (1, .int xb)] dX1_shiftAll_27 rfl rfl (by decide) rfl ?_
        refine E_goto 2 dX1_shiftAll_30 (by decide) ?_
        refine E_sub [1, 2, 0] rfl ?_
        exact ih2 _ (xi + 1) (i + 1) (by omega) ((tI_add hi (show (1 : Int32).toInt = 1 from rfl) (by omega)).trans (by omega)) (by omega) (SHI_s hI)
  refine E_sub [1, 2, 0] rfl ?_
  exact J2 _ mi 0 0 (Nat.lt_succ_self _) (show (0 : Int32).toInt = 0 from rfl) (Nat.zero_le _) SHI_0
set_option maxHeartbeats 1600000 in
set_option maxRecDepth 100000 in
theorem c_X1_putTest (l : Launch) (hfl : l.stackTraces = false) (h : Nat) (hd : isD h) (mi : MI) (ml : MJ) (a c xb u : Int32) (P : Prop) (hxb : xb = bI P) (t : Nat) (ht : (mi h 10).toInt = (t : Int)) (lt : t ≤ 16) (hlt : t < 16) : Ct l yX1_putTest (.code yX1_putTest cX1_putTest 5 none) 0 0 0 [.ref h, .int a, .int c, .int (bI (P)), .int u] (wl mi ml) (QP none (wl (u2 (u2 (u2 (u2 (u2 mi (h + 4) t a) (h + 5) t c) (h + 6) t (bI P)) (h + 7) t u) h 10 (mi h 10 + 1)) ml)) noX := by
  subst hxb
  refine Ct_of (ini := false) pn_X1 hfl (fun h => nomatch h) (Nat.le_of_ble_eq_true rfl) ?_
  show E l RX1 cX1_putTest 5 none false [] (rmE 0 0 0) (wl mi ml) (TgM (wl mi ml) 0 0 (QP none (wl (u2 (u2 (u2 (u2 (u2 mi (h + 4) t a) (h + 5) t c) (h + 6) t (bI P)) (h + 7) t u) h 10 (mi h 10 + 1)) ml)) noX) 0 0 0 [(0, .ref h), (1, .int a), (2, .int c), (3, .int (bI (P))), (4, .int u)] [] (wl mi ml)
  refine E_aload_n 0 dX1_putTest_0 rfl rfl ?_
  refine gf_X1_55 (mi h 10) hd.t rfl rfl dX1_putTest_1 ?_
  refine Y_lt (t : Int) ht 75 dX1_putTest_4 (by decide) (fun c_4 => ?_) (fun c_4 => ?_)
  · exact absurd c_4 (by omega)
  · skip
    refine E_aload_n 0 dX1_putTest_7 rfl rfl ?_
    refine gf_X1_55 (mi h 10) hd.t rfl rfl dX1_putTest_8 ?_
    refine E_bipush 16 (by decide) dX1_putTest_11 ?_
    refine Z_ge (t : Int) 16 ht (show (16 : Int32).toInt = 16 from rfl) 75 dX1_putTest_13 (by decide) (fun c_13 => ?_) (fun c_13 => ?_)
    · exact absurd c_13 (by omega)
    · skip
      refine E_aload_n 0 dX1_putTest_16 rfl rfl ?_
      refine gf_X1_37 hd.t rfl dX1_putTest_17 ?_
      refine E_aload_n 0 dX1_putTest_20 rfl rfl ?_
      refine gf_X1_55 (mi h 10) hd.t rfl rfl dX1_putTest_21 ?_
      refine E_iload_n 1 dX1_putTest_24 rfl rfl ?_
      refine S_iast t hd.a4 (ht.trans (by omega)) (by omega) dX1_putTest_25 ?_
      refine E_aload_n 0 dX1_putTest_26 rfl rfl ?_
      refine gf_X1_40 hd.t rfl dX1_putTest_27 ?_
      refine E_aload_n 0 dX1_putTest_30 rfl rfl ?_
      refine gf_X1_55 (mi h 10) hd.t rfl ((u2_n (by omega)).trans rfl) dX1_putTest_31 ?_
      refine E_iload_n 2 dX1_putTest_34 rfl rfl ?_
      refine S_iast t hd.a5 (ht.trans (by omega)) (by omega) dX1_putTest_35 ?_
      refine E_aload_n 0 dX1_putTest_36 rfl rfl ?_
      refine gf_X1_43 hd.t rfl dX1_putTest_37 ?_
      refine E_aload_n 0 dX1_putTest_40 rfl rfl ?_
      refine gf_X1_55 (mi h 10) hd.t rfl ((u2_n (by omega)).trans ((u2_n (by omega)).trans rfl)) dX1_putTest_41 ?_
      refine E_iload_n 3 dX1_putTest_44 rfl rfl ?_
      refine B_eq 52 dX1_putTest_45 (by decide) (fun c_45 => ?_) (fun c_45 => ?_)
      · skip
        refine E_iconst 0 (by decide) dX1_putTest_52 ?_
        refine S_iast t hd.a6 (ht.trans (by omega)) (by omega) dX1_putTest_53 ?_
        refine E_aload_n 0 dX1_putTest_54 rfl rfl ?_
        refine gf_X1_46 hd.t rfl dX1_putTest_55 ?_
        refine E_aload_n 0 dX1_putTest_58 rfl rfl ?_
        refine gf_X1_55 (mi h 10) hd.t rfl ((u2_n (by omega)).trans ((u2_n (by omega)).trans ((u2_n (by omega)).trans rfl))) dX1_putTest_59 ?_
        refine E_iload 4 dX1_putTest_62 rfl ?_
        refine S_iast t hd.a7 (ht.trans (by omega)) (by omega) dX1_putTest_64 ?_
        refine E_aload_n 0 dX1_putTest_65 rfl rfl ?_
        refine E_dup rfl dX1_putTest_66 ?_
        refine gf_X1_55 (mi h 10) hd.t rfl ((u2_n (by omega)).trans ((u2_n (by omega)).trans ((u2_n (by omega)).trans ((u2_n (by omega)).trans rfl)))) dX1_putTest_67 ?_
        refine E_iconst 1 (by decide) dX1_putTest_70 ?_
        refine E_iadd dX1_putTest_71 ?_
        refine pf_X1_55 hd.t rfl dX1_putTest_72 ?_
        refine E_vret rfl (Nat.le_of_ble_eq_true rfl) (Nat.le_of_ble_eq_true rfl) dX1_putTest_75 ?_
        exact ⟨rfl, by rw [bI_f c_45]⟩
      · skip
        refine E_iconst 1 (by decide) dX1_putTest_48 ?_
        refine E_goto 53 dX1_putTest_49 (by decide) ?_
        refine S_iast t hd.a6 (ht.trans (by omega)) (by omega) dX1_putTest_53 ?_
        refine E_aload_n 0 dX1_putTest_54 rfl rfl ?_
        refine gf_X1_46 hd.t rfl dX1_putTest_55 ?_
        refine E_aload_n 0 dX1_putTest_58 rfl rfl ?_
        refine gf_X1_55 (mi h 10) hd.t rfl ((u2_n (by omega)).trans ((u2_n (by omega)).trans ((u2_n (by omega)).trans rfl))) dX1_putTest_59 ?_
        refine E_iload 4 dX1_putTest_62 rfl ?_
        refine S_iast t hd.a7 (ht.trans (by omega)) (by omega) dX1_putTest_64 ?_
        refine E_aload_n 0 dX1_putTest_65 rfl rfl ?_
        refine E_dup rfl dX1_putTest_66 ?_
        refine gf_X1_55 (mi h 10) hd.t rfl ((u2_n (by omega)).trans ((u2_n (by omega)).trans ((u2_n (by omega)).trans ((u2_n (by omega)).trans rfl)))) dX1_putTest_67 ?_
        refine E_iconst 1 (by decide) dX1_putTest_70 ?_
        refine E_iadd dX1_putTest_71 ?_
        refine pf_X1_55 hd.t rfl dX1_putTest_72 ?_
        refine E_vret rfl (Nat.le_of_ble_eq_true rfl) (Nat.le_of_ble_eq_true rfl) dX1_putTest_75 ?_
        exact ⟨rfl, by rw [bI_t c_45]⟩
set_option maxHeartbeats 1600000 in
set_option maxRecDepth 100000 in
theorem c_X1_testFact (l : Launch) (hfl : l.stackTraces = false) (h : Nat) (hd : isD h) (mi : MI) (ml : MJ) (xj w : Int32) (j : Nat) (hj : xj.toInt = (j : Int)) (W : Int) (hw : w.toInt = W) (t : Nat) (ht : (mi h 10).toInt = (t : Int)) (lt : t ≤ 16) (hjt : j < t) : Ct l yX1_testFact (.code yX1_testFact cX1_testFact 3 (some .int)) 1 0 0 [.ref h, .int xj, .int w] (wl mi ml) (QP (some (.int (if W = 0 then mi (h + 4) j else if W = 1 then mi (h + 5) j else mi (h + 6) j))) (wl mi ml)) noX := by
  refine Ct_of (ini := false) pn_X1 hfl (fun h => nomatch h) (Nat.le_of_ble_eq_true rfl) ?_
  show E l RX1 cX1_testFact 3 (some .int) false [] (rmE 1 0 0) (wl mi ml) (TgM (wl mi ml) 0 0 (QP (some (.int (if W = 0 then mi (h + 4) j else if W = 1 then mi (h + 5) j else mi (h + 6) j))) (wl mi ml)) noX) 0 0 0 [(0, .ref h), (1, .int xj), (2, .int w)] [] (wl mi ml)
  refine E_aload_n 0 dX1_testFact_0 rfl rfl ?_
  refine E_iload_n 1 dX1_testFact_1 rfl rfl ?_
  refine E_callV (c_X1_hasTest l hfl h hd mi ml xj (j : Int) (t : Int) hj ht) cw_X1_89 (As := [.int xj]) (st := []) wi_yX1_hasTest we_yX1_hasTest (ci := 1) (q := (RX1, TX1, 15)) rfl rfl (wl_atO hd.t) rfl ⟨Nat.le_of_ble_eq_true rfl, Nat.le_of_ble_eq_true rfl, Nat.le_of_ble_eq_true rfl, Nat.le_of_ble_eq_true rfl⟩ (Nat.le_of_ble_eq_true rfl) dX1_testFact_2 (fun _ _ h => h) rfl (kE ?_)
  refine B_ne 10 dX1_testFact_5 (by decide) (fun c_5 => ?_) (fun c_5 => ?_)
  · skip
    refine E_iload_n 2 dX1_testFact_10 rfl rfl ?_
    refine E_look01 W hw 36 43 50 dX1_testFact_11 (by decide) (by decide) (by decide) (fun c_11 => ?_) (fun c_11 => ?_) (fun c_11 => ?_)
    · skip
      refine E_aload_n 0 dX1_testFact_36 rfl rfl ?_
      refine gf_X1_37 hd.t rfl dX1_testFact_37 ?_
      refine E_iload_n 1 dX1_testFact_40 rfl rfl ?_
      refine S_iald j (mi (h + 4) j) hd.a4 (hj.trans (by omega)) (by omega) rfl dX1_testFact_41 ?_
      refine E_iret rfl (Nat.le_of_ble_eq_true rfl) (Nat.le_of_ble_eq_true rfl) dX1_testFact_42 ?_
      exact okP (by rw [if_pos c_11])
    · skip
      refine E_aload_n 0 dX1_testFact_43 rfl rfl ?_
      refine gf_X1_40 hd.t rfl dX1_testFact_44 ?_
      refine E_iload_n 1 dX1_testFact_47 rfl rfl ?_
      refine S_iald j (mi (h + 5) j) hd.a5 (hj.trans (by omega)) (by omega) rfl dX1_testFact_48 ?_
      refine E_iret rfl (Nat.le_of_ble_eq_true rfl) (Nat.le_of_ble_eq_true rfl) dX1_testFact_49 ?_
      exact okP (by rw [if_neg (by omega), if_pos c_11])
    · skip
      refine E_aload_n 0 dX1_testFact_50 rfl rfl ?_
      refine gf_X1_43 hd.t rfl dX1_testFact_51 ?_
      refine E_iload_n 1 dX1_testFact_54 rfl rfl ?_
      refine S_iald j (mi (h + 6) j) hd.a6 (hj.trans (by omega)) (by omega) rfl dX1_testFact_55 ?_
      refine E_iret rfl (Nat.le_of_ble_eq_true rfl) (Nat.le_of_ble_eq_true rfl) dX1_testFact_56 ?_
      exact okP (by rw [if_neg c_11.1, if_neg c_11.2])
  · exact absurd (show (0 : Int) ≤ j ∧ (j : Int) < t ∧ (j : Int) < 16 by omega) c_5
def fitD (h : Nat) (mi : MI) (bad : Int32) (t : Nat) : Prop := ∀ j, j < t → ((bad &&& mi (h + 7) j) ≠ 0 ↔ mi (h + 6) j = 1)
theorem ft_1 {x y : Int32} (h1 : x.toInt ≠ 0) (h2 : y.toInt = 1) : x ≠ 0 ↔ y = 1 := ⟨fun _ => Int32.toInt_inj.mp h2, fun _ q => h1 (by rw [q]; rfl)⟩
theorem ft_2 {x y : Int32} (h1 : x.toInt = 0) (h2 : y.toInt ≠ 1) : x ≠ 0 ↔ y = 1 := ⟨fun q => absurd (Int32.toInt_inj.mp h1) q, fun q => absurd (by rw [q]; rfl) h2⟩
theorem ft_3 {x y : Int32} (h1 : x.toInt ≠ 0) (h2 : y.toInt ≠ 1) : ¬ (x ≠ 0 ↔ y = 1) := fun q => h2 (by rw [q.mp (fun z => h1 (by rw [z]; rfl))]; rfl)
theorem ft_4 {x y : Int32} (h1 : x.toInt = 0) (h2 : y.toInt = 1) : ¬ (x ≠ 0 ↔ y = 1) := fun q => q.mpr (Int32.toInt_inj.mp h2) (Int32.toInt_inj.mp h1)
set_option maxHeartbeats 1600000 in
set_option maxRecDepth 100000 in
theorem c_X1_fitsTests (l : Launch) (hfl : l.stackTraces = false) (h : Nat) (hd : isD h) (mi : MI) (ml : MJ) (bad : Int32) (t : Nat) (ht : (mi h 10).toInt = (t : Int)) (lt : t ≤ 16) : Ct l yX1_fitsTests (.code yX1_fitsTests cX1_fitsTests 4 (some .boolean)) 0 0 0 [.ref h, .int bad] (wl mi ml) (QP (some (.int (bI (fitD h mi bad t)))) (wl mi ml)) noX := by
  refine Ct_of (ini := false) pn_X1 hfl (fun h => nomatch h) (Nat.le_of_ble_eq_true rfl) ?_
  show E l RX1 cX1_fitsTests 4 (some .boolean) false [] (rmE 0 0 0) (wl mi ml) (TgM (wl mi ml) 0 0 (QP (some (.int (bI (fitD h mi bad t)))) (wl mi ml)) noX) 0 0 0 [(0, .ref h), (1, .int bad)] [] (wl mi ml)
  refine E_iconst 0 (by decide) dX1_fitsTests_0 ?_
  refine E_istore_n [(2, .int 0), (0, .ref h), (1, .int bad)] dX1_fitsTests_1 rfl (by decide) rfl ?_
  have J2 : ∀ (Nm : Nat) (xi : Int32) (i : Nat), t - i < Nm → xi.toInt = (i : Int) → i ≤ t → (fitD h mi bad i) → E l RX1 cX1_fitsTests 4 (some .boolean) false [] (rmE 0 0 0) (wl mi ml) (TgM (wl mi ml) 0 0 (QP (some (.int (bI (fitD h mi bad t)))) (wl mi ml)) noX) 0 0 2 [(0, .ref h), (1, .int bad), (2, .int xi)] [] (wl mi ml) := by
    intro Nm
    induction Nm with
    | zero => intros; omega
    | succ Nm ih2 =>
      intro xi i hN2 hi hit hF
      refine E_iload_n 2 dX1_fitsTests_2 rfl rfl ?_
      refine E_aload_n 0 dX1_fitsTests_3 rfl rfl ?_
      refine gf_X1_55 (mi h 10) hd.t rfl rfl dX1_fitsTests_4 ?_
      refine Z_ge (i : Int) (t : Int) hi ht 60 dX1_fitsTests_7 (by decide) (fun c_7 => ?_) (fun c_7 => ?_)
      · skip
        refine E_iconst 1 (by decide) dX1_fitsTests_60 ?_
        refine E_zret rfl rfl (Nat.le_of_ble_eq_true rfl) (Nat.le_of_ble_eq_true rfl) dX1_fitsTests_61 ?_
        obtain rfl : i = t := by omega
        exact okP (b1 hF)
      · skip
        refine E_iload_n 2 dX1_fitsTests_10 rfl rfl ?_
        refine E_bipush 16 (by decide) dX1_fitsTests_11 ?_
        refine Z_ge (i : Int) 16 hi (show (16 : Int32).toInt = 16 from rfl) 60 dX1_fitsTests_13 (by decide) (fun c_13 => ?_) (fun c_13 => ?_)
        · skip
          refine E_iconst 1 (by decide) dX1_fitsTests_60 ?_
          refine E_zret rfl rfl (Nat.le_of_ble_eq_true rfl) (Nat.le_of_ble_eq_true rfl) dX1_fitsTests_61 ?_
          obtain rfl : i = t := by omega
          exact okP (b1 hF)
        · skip
          refine E_iload_n 1 dX1_fitsTests_16 rfl rfl ?_
          refine E_aload_n 0 dX1_fitsTests_17 rfl rfl ?_
          refine gf_X1_46 hd.t rfl dX1_fitsTests_18 ?_
          refine E_iload_n 2 dX1_fitsTests_21 rfl rfl ?_
          refine S_iald i (mi (h + 7) i) hd.a7 (hi.trans (by omega)) (by omega) rfl dX1_fitsTests_22 ?_
          refine E_iand dX1_fitsTests_23 ?_
          refine Y_eq ((bad &&& (mi (h + 7) i)).toInt) rfl 31 dX1_fitsTests_24 (by decide) (fun c_24 => ?_) (fun c_24 => ?_)
          · skip
            refine E_iconst 0 (by decide) dX1_fitsTests_31 ?_
            refine E_istore_n [(3, .int 0), (0, .ref h), (1, .int bad), (2, .int xi)] dX1_fitsTests_32 rfl (by decide) rfl ?_
            refine E_iload_n 0 dX1_fitsTests_33 rfl rfl ?_
            refine E_aload_n 1 dX1_fitsTests_34 rfl rfl ?_
            refine gf_X1_43 hd.t rfl dX1_fitsTests_35 ?_
            refine E_iload_n 3 dX1_fitsTests_38 rfl rfl ?_
            refine S_iald i (mi (h + 6) i) hd.a6 (hi.trans (by omega)) (by omega) rfl dX1_fitsTests_39 ?_
            refine E_iconst 1 (by decide) dX1_fitsTests_40 ?_
            refine Z_ne ((mi (h + 6) i).toInt) 1 rfl (show (1 : Int32).toInt = 1 from rfl) 48 dX1_fitsTests_41 (by decide) (fun c_41 => ?_) (fun c_41 => ?_)
            · skip
              refine E_iconst 0 (by decide) dX1_fitsTests_48 ?_
              refine Z_eq 0 0 (show (0 : Int32).toInt = 0 from rfl) (show (0 : Int32).toInt = 0 from rfl) 54 dX1_fitsTests_49 (by decide) (fun c_49 => ?_) (fun c_49 => ?_)
              · skip
                refine E_iinc 3 (xi + 1) [(2, .int (xi + 1)), (3, .int 0), (0, .ref h), (1, .int bad)] dX1_fitsTests_54 rfl rfl (by decide) rfl ?_
                refine E_goto 2 dX1_fitsTests_57 (by decide) ?_
                refine E_sub [2, 3, 0] rfl ?_
                exact ih2 (xi + 1) (i + 1) (by omega) ((tI_add hi (show (1 : Int32).toInt = 1 from rfl) (by omega)).trans (by omega)) (by omega) (lt_s hF (by first | exact ft_1 c_24 c_41 | exact ft_2 c_24 c_41))
              · exact absurd c_49 (by decide)
            · skip
              refine E_iconst 1 (by decide) dX1_fitsTests_44 ?_
              refine E_goto 49 dX1_fitsTests_45 (by decide) ?_
              refine Z_eq 0 1 (show (0 : Int32).toInt = 0 from rfl) (show (1 : Int32).toInt = 1 from rfl) 54 dX1_fitsTests_49 (by decide) (fun c_49 => ?_) (fun c_49 => ?_)
              · exact absurd c_49 (by decide)
              · skip
                refine E_iconst 0 (by decide) dX1_fitsTests_52 ?_
                refine E_zret rfl rfl (Nat.le_of_ble_eq_true rfl) (Nat.le_of_ble_eq_true rfl) dX1_fitsTests_53 ?_
                exact okP (b0 (fun q => absurd (q i (by omega)) (by first | exact ft_3 c_24 c_41 | exact ft_4 c_24 c_41)))
          · skip
            refine E_iconst 1 (by decide) dX1_fitsTests_27 ?_
            refine E_goto 32 dX1_fitsTests_28 (by decide) ?_
            refine E_istore_n [(3, .int 1), (0, .ref h), (1, .int bad), (2, .int xi)] dX1_fitsTests_32 rfl (by decide) rfl ?_
            refine E_iload_n 0 dX1_fitsTests_33 rfl rfl ?_
            refine E_aload_n 1 dX1_fitsTests_34 rfl rfl ?_
            refine gf_X1_43 hd.t rfl dX1_fitsTests_35 ?_
            refine E_iload_n 3 dX1_fitsTests_38 rfl rfl ?_
            refine S_iald i (mi (h + 6) i) hd.a6 (hi.trans (by omega)) (by omega) rfl dX1_fitsTests_39 ?_
            refine E_iconst 1 (by decide) dX1_fitsTests_40 ?_
            refine Z_ne ((mi (h + 6) i).toInt) 1 rfl (show (1 : Int32).toInt = 1 from rfl) 48 dX1_fitsTests_41 (by decide) (fun c_41 => ?_) (fun c_41 => ?_)
            · skip
              refine E_iconst 0 (by decide) dX1_fitsTests_48 ?_
              refine Z_eq 1 0 (show (1 : Int32).toInt = 1 from rfl) (show (0 : Int32).toInt = 0 from rfl) 54 dX1_fitsTests_49 (by decide) (fun c_49 => ?_) (fun c_49 => ?_)
              · exact absurd c_49 (by decide)
              · skip
                refine E_iconst 0 (by decide) dX1_fitsTests_52 ?_
                refine E_zret rfl rfl (Nat.le_of_ble_eq_true rfl) (Nat.le_of_ble_eq_true rfl) dX1_fitsTests_53 ?_
                exact okP (b0 (fun q => absurd (q i (by omega)) (by first | exact ft_3 c_24 c_41 | exact ft_4 c_24 c_41)))
            · skip
              refine E_iconst 1 (by decide) dX1_fitsTests_44 ?_
              refine E_goto 49 dX1_fitsTests_45 (by decide) ?_
              refine Z_eq 1 1 (show (1 : Int32).toInt = 1 from rfl) (show (1 : Int32).toInt = 1 from rfl) 54 dX1_fitsTests_49 (by decide) (fun c_49 => ?_) (fun c_49 => ?_)
              · skip
                refine E_iinc 3 (xi + 1) [(2, .int (xi + 1)), (3, .int 1), (0, .ref h), (1, .int bad)] dX1_fitsTests_54 rfl rfl (by decide) rfl ?_
                refine E_goto 2 dX1_fitsTests_57 (by decide) ?_
                refine E_sub [2, 3, 0] rfl ?_
                exact ih2 (xi + 1) (i + 1) (by omega) ((tI_add hi (show (1 : Int32).toInt = 1 from rfl) (by omega)).trans (by omega)) (by omega) (lt_s hF (by first | exact ft_1 c_24 c_41 | exact ft_2 c_24 c_41))
              · exact absurd c_49 (by decide)
  refine E_sub [1, 2, 0] rfl ?_
  exact J2 _ 0 0 (Nat.lt_succ_self _) (show (0 : Int32).toInt = 0 from rfl) (Nat.zero_le _) (fun j h => absurd h (Nat.not_lt_zero j))
end DS3
