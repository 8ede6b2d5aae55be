section START4
theorem xxN_nm {h N : Nat} (hN : h + 61 ≤ N) : ∀ e ∈ xxN h, nmE N e := by
  refine List.forall_mem_cons.mpr ⟨?_, List.forall_mem_append.mpr ⟨dkN_nm (by omega), List.forall_mem_append.mpr ⟨dkN_nm (by omega), List.forall_mem_append.mpr ⟨hiN_nm (by omega), List.forall_mem_append.mpr ⟨miN_nm (by omega), List.forall_mem_append.mpr ⟨csN_nm (by omega), List.forall_mem_append.mpr ⟨plN_nm (by omega), ?_⟩⟩⟩⟩⟩⟩⟩
  · simp only [nmE, List.forall_mem_cons]
    repeat' (first | exact trivial | exact nmr (by omega) | exact (fun _ h => nomatch h) | apply And.intro)
  · exact List.forall_mem_cons.mpr ⟨trivial, fun _ h => nomatch h⟩
theorem New_L {b L : Nat} {xs : Nat → Int32} {lv : List (Nat × Value)} {st : List Value} {w : AW} (N : Nat) (hN : N < 99) (hl : w.length = N) (ho : ∀ e ∈ w, nmE N e) (hs : ∀ v ∈ st, nm N v) (hv : ∀ x ∈ lv, nm N x.2) : New (LZ b L xs) TgL [] N lv st w :=
  ⟨⟨hl, ho, hs, hv⟩, fun _ _ _ _ _ _ => rfl, fun s ad q h => ⟨(up_n (by omega)).trans h.1, h.2⟩, (fun _ h => nomatch h), Nat.zero_le _⟩
theorem Old_L {b L : Nat} {xs : Nat → Int32} {lv : List (Nat × Value)} {st : List Value} {a c : Nat} (hc : c ≤ 99) (hs : ∀ v ∈ st, nmV a c v) (hv : ∀ x ∈ lv, nmV a c x.2) : Old (LZ b L xs) TgL [] a c lv st :=
  ⟨⟨hs, hv⟩, fun _ _ _ _ _ _ _ => rfl, fun s ad ad' h hz => ⟨(h 99 (Or.inr hc)).trans hz.1, hz.2⟩, (fun _ h => nomatch h), Nat.zero_le _⟩
theorem nmV_ge {a b i : Nat} (h : b ≤ i) : nmV a b (.ref i) := fun N _ h2 => (show i ≠ N by omega)
theorem Pre_0 : Pre [] 0 := ⟨rfl, fun _ h => nomatch h⟩
set_option maxRecDepth 100000 in
theorem lw_pre (l : Launch) (hfl : l.stackTraces = false) {hh : List ExceptionTableEntry} {b L : Nat} {xs : Nat → Int32} (K : LW hh l b L xs 61 4066 8 [(1, .ref 0), (0, .ref 99)] [] ([] ++ xxN 0)) : LW hh l b L xs 0 0 0 [(0, .ref 99)] [] [] := by
  refine EZ_new (N := 0) (ci := 5) (fs := [.null, .null, .null, .null, .null, .null, .null]) (C := RX5) (T := TX5) (M := 7) (New_L 0 (by decide) rfl (fun _ h => nomatch h) (fun _ h => nomatch h) (by simp [nm])) tyX5 tyX5_ok rfl uX5 wcl_L_10 wn_X5 wz_X5 dfX5 (by simp) (Nat.le_of_ble_eq_true rfl) (Nat.le_of_ble_eq_true rfl) dL_law_0 ?_
  refine EZ_dup rfl dL_law_3 ?_
  refine EZ_callN (n_X5 l hfl Pre_0) cw_L_205 wi_yX5_init rfl ⟨Nat.le_of_ble_eq_true rfl, Nat.le_of_ble_eq_true rfl, Nat.le_of_ble_eq_true rfl, Nat.le_of_ble_eq_true rfl⟩ (Nat.le_of_ble_eq_true rfl) dL_law_4 (Old_L (by decide) (List.forall_mem_cons.mpr ⟨nmV_lt (by decide), fun _ h => nomatch h⟩) (List.forall_mem_cons.mpr ⟨nmV_ge (by decide), fun _ h => nomatch h⟩)) ?_
  refine EZ_astore_n [(1, .ref 0), (0, .ref 99)] dL_law_7 rfl (by decide) rfl ?_
  exact K
def dk0 : Nat → Int32 := fun k => if k = 0 then 3 else if k = 2 then 100 else if k = 4 then 1 else 0
def mi0 : MI := fun p => if p = 1 ∨ p = 9 ∨ p = 19 ∨ p = 27 ∨ p = 35 ∨ p = 43 then dk0 else fun _ => 0
def ml0 : MJ := fun _ _ => 0
theorem hs17 : hsF (0 + 17) = svF := by
  funext j
  unfold hsF svF
  by_cases h0 : j = 0
  · subst h0; rfl
  by_cases h1 : j = 1
  · subst h1; rfl
  by_cases h2 : j = 2
  · subst h2; rfl
  by_cases h3 : j = 3
  · subst h3; rfl
  simp [h0, h1, h2, h3]
set_option maxRecDepth 100000 in
theorem wl_0 : [] ++ xxN 0 = wl mi0 ml0 := by
  unfold xxN hiN
  rw [hs17]
  rfl
theorem ST_0 : ST dk0 [] mi0 ml0 := by
  have z5 : (dk0 5).toInt = 0 := rfl
  have z26 : (dk0 26).toInt = 0 := rfl
  have z32 : (dk0 32).toInt = 0 := rfl
  refine ⟨?_, ?_, ?_, rfl, rfl, rfl⟩
  · unfold WFV
    refine ⟨⟨by decide, by decide, by decide, by decide, by decide⟩, ⟨by decide, by decide, by decide⟩, fun c hc => absurd hc (by rw [z5]; omega), fun c d hc => absurd hc (by rw [z5]; omega), fun k hk => absurd hk (by rw [z26]; omega), fun t ht => absurd ht (by rw [z32]; omega)⟩
  · unfold DR
    refine ⟨⟨rfl, rfl, rfl, rfl, rfl⟩, ⟨rfl, rfl, rfl⟩, fun c hc => absurd hc (by rw [z5]; omega), fun k hk => absurd hk (by rw [z26]; omega), fun t ht => absurd ht (by rw [z32]; omega)⟩
  · exact ⟨0, by decide, Nat.zero_le _, rfl, rfl, fun j U hj => by simp at hj⟩
set_option maxRecDepth 100000 in
theorem lw_all (l : Launch) (hfl : l.stackTraces = false) {hh : List ExceptionTableEntry} {b L : Nat} {xs : Nat → Int32} (hL : L ≤ 260) : LW hh l b L xs 0 0 0 [(0, .ref 99)] [] [] := by
  refine lw_pre l hfl ?_
  rw [wl_0]
  exact lw_main l hfl hL ST_0 rfl _ _ (Nat.le_of_ble_eq_true rfl) (Nat.le_of_ble_eq_true rfl)
theorem SR_of {s : State} {A : Array Value} (hts : ∀ w ∈ lw_tbl, w.before A s = true) : SR s := by
  intro own k tx hs
  have h1 : (Cond.stringRef own k tx).before A s = true := hts _ (List.mem_append_right _ hs)
  have hcur : ∃ cur, s.vm.findClass own = some cur := by
    cases hc : s.vm.findClass own with
    | none => simp [Cond.before, Cond.holds, Cond.value, hc] at h1
    | some c => exact ⟨c, rfl⟩
  obtain ⟨cur, hcur⟩ := hcur
  obtain ⟨k9, cf, j, a, hk, -, -, -, hr, hev⟩ := Cond.stringRef_spec hcur h1
  exact ⟨a, vk_R.of h1 hev⟩
theorem K3w {s : State} {A : Array Value} (hts : ∀ w ∈ lw_tbl, w.before A s = true) : ∃ g : Gx, va_K g.1 vwCl (tysG g) s := by
  obtain ⟨c0, i0, k0⟩ := u_known (C := RX0) (T := TX0) (N := 10) (n := 10) hts (fun w h => (uX0 w h).1) (hts _ wn_X0.1)
  obtain ⟨c1, i1, k1⟩ := u_known (C := RX1) (T := TX1) (N := 15) (n := 15) hts (fun w h => (uX1 w h).1) (hts _ wn_X1.1)
  obtain ⟨c2, i2, k2⟩ := u_known (C := RX2) (T := TX2) (N := 3) (n := 3) hts (fun w h => (uX2 w h).1) (hts _ wn_X2.1)
  obtain ⟨c3, i3, k3⟩ := u_known (C := RX3) (T := TX3) (N := 2) (n := 2) hts (fun w h => (uX3 w h).1) (hts _ wn_X3.1)
  obtain ⟨c4, i4, k4⟩ := u_known (C := RX4) (T := TX4) (N := 5) (n := 5) hts (fun w h => (uX4 w h).1) (hts _ wn_X4.1)
  obtain ⟨c5, i5, k5⟩ := u_known (C := RX5) (T := TX5) (N := 7) (n := 7) hts (fun w h => (uX5 w h).1) (hts _ wn_X5.1)
  obtain ⟨cI, kI, pI, a1, a2, a3⟩ := Cond.arrayClass_spec (hts _ wa_I.1)
  obtain ⟨cJ, kJ, pJ, b1, b2, b3⟩ := Cond.arrayClass_spec (hts _ wa_J.1)
  obtain ⟨pD, cD, kD, d1, d2, d3, d4, d5⟩ := Cond.arrayOver_spec (n := "ChannelSpacer$Desk") (hts (.arrayOver (.object "ChannelSpacer$Desk")) (List.mem_of_getElem? (i := 123) (by decide +kernel)))
  refine ⟨((fun k => if k = 0 then c0 else if k = 1 then c1 else if k = 2 then c2 else if k = 3 then c3 else if k = 4 then c4 else c5, fun k => if k = 0 then i0 else if k = 1 then i1 else if k = 2 then i2 else if k = 3 then i3 else if k = 4 then i4 else i5), fun t => if t = 0 then cI else if t = 1 then cJ else cD), ?_, ?_⟩
  · intro k q hq
    match k, hq with
    | 0, hq => cases hq; exact k0
    | 1, hq => cases hq; exact k1
    | 2, hq => cases hq; exact k2
    | 3, hq => cases hq; exact k3
    | 4, hq => cases hq; exact k4
    | 5, hq => cases hq; exact k5
    | k + 6, hq => simp at hq
  · intro k q hq
    match k, hq with
    | 0, hq => cases hq; exact ⟨fun n z => ⟨fun k h => (by cases h), kI, a2, pI, a3⟩, a1⟩
    | 1, hq => cases hq; exact ⟨fun n z => ⟨fun k h => (by cases h), kJ, b2, pJ, b3⟩, b1⟩
    | 2, hq => cases hq; exact ⟨fun n z => ⟨fun k h => (by cases h), kD, d3, pD, d4⟩, kD, pD, d3, d4, d1, d5⟩
    | k + 3, hq => simp [tysG] at hq
/-- YOUR PART: from the entry, for every script of at most 260 ints, the law comes to its end with true ('hflags': the launch's flags, for a law that throws: no stack traces) -/
theorem whole_start {p : Program} {e : Env} {s : State} {m : MethodId} {below : List Frame} {meth : Method} {c : Code} (l : Launch) (hflags : l.flags = flags0) {b L : Nat} {xs : Nat → Int32} (hL : L ≤ 260) (C0 : lw_At p s m meth c b L xs) : W p l e room_1 s m #[Value.ref b] below meth c s.heap [] 0 0 (lw_Z below #[Value.ref b] s) (entryFrame m ([Value.ref b] : List Value).toArray 15) := by
  obtain ⟨hx, hb, hr, hml, hown, hts, hX, hbl, hlocks, hgv⟩ := C0
  have hfl : l.stackTraces = false := by
    unfold Launch.stackTraces
    rw [hflags]
    decide
  have hs := flat_of_before _ hgv
  obtain ⟨g, hK⟩ := K3w hts
  have hTb : Tb s := fun w hw hm => mvW_move hm (State.WarmedH.refl s) (hts w hw)
  have hAO : va_AO "ChannelSpacer$Desk" s := va_AO.of (hts (.arrayOver (.object "ChannelSpacer$Desk")) (List.mem_of_getElem? (i := 123) (by decide +kernel)))
  have hcs : CS g s := ⟨hTb, SR_of hts, hAO, hK⟩
  have hnc : Nc2 s := ⟨va_Nc.of (hs _ (by decide +kernel)), va_Nc.of (hs _ (by decide +kernel))⟩
  have hzq : ZQ (va_A [] s.heap.size) s s.heap := ⟨vx_Zqof (hts _ (by decide +kernel)) (hts _ (by decide +kernel)) (hs _ (by decide +kernel)) (fun a h => vaA_nil h), vx_Zqof (hts _ (by decide +kernel)) (hts _ (by decide +kernel)) (hs _ (by decide +kernel)) (fun a h => vaA_nil h)⟩
  have hl := lv_entry ([.ref b]) (n := 15) (Nat.le_of_ble_eq_true rfl)
  rw [lg_entry_eq]
  exact lw_all (hh := c.exceptionTable.toList) l hfl hL p e s m _ below meth c g (fun i => if i = 99 then b else 0) ⟨rfl, hX, hbl, hnc⟩ s.heap [] _ ⟨hx, hb, hml, hr, hown, hlocks, fun q => (by cases q), rfl, hfl, hcs, hzq⟩ (fun k q h => by simp [cW] at h) ⟨fun i j p q h => by simp [cW] at h, fun k q h => by simp [cW] at h⟩ va_S.rf hl
end START4
