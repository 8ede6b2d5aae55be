section START3
theorem SR_of {s : State} {A : Array Value} (hts : ∀ w ∈ lw_tbl, w.before A s = true) : SR s := by
  intro own k tx hs
  have h1 : (Cond.stringRef own k tx).before A s = true := hts _ (List.mem_append_right _ hs)
  have hcur : ∃ cur, s.vm.findClass own = some cur := by
    cases hc : s.vm.findClass own with
    | none => simp [Cond.before, Cond.holds, Cond.value, hc] at h1
    | some c => exact ⟨c, rfl⟩
  obtain ⟨cur, hcur⟩ := hcur
  obtain ⟨k9, cf, j, a, hk, -, -, -, hr, hev⟩ := Cond.stringRef_spec hcur h1
  exact ⟨a, vk_R.of h1 hev⟩
theorem K3 {s : State} {A : Array Value} (hts : ∀ w ∈ lw_tbl, w.before A s = true) : ∃ g : Gx, va_K g.1 vwCl (tysG g) s := by
  obtain ⟨c0, i0, k0⟩ := u_known (C := RX0) (T := TX0) (N := 10) (n := 10) hts (fun w h => (uX0 w h).1) (hts _ wn_X0.1)
  obtain ⟨c1, i1, k1⟩ := u_known (C := RX1) (T := TX1) (N := 15) (n := 15) hts (fun w h => (uX1 w h).1) (hts _ wn_X1.1)
  obtain ⟨c2, i2, k2⟩ := u_known (C := RX2) (T := TX2) (N := 3) (n := 3) hts (fun w h => (uX2 w h).1) (hts _ wn_X2.1)
  obtain ⟨c3, i3, k3⟩ := u_known (C := RX3) (T := TX3) (N := 2) (n := 2) hts (fun w h => (uX3 w h).1) (hts _ wn_X3.1)
  obtain ⟨c4, i4, k4⟩ := u_known (C := RX4) (T := TX4) (N := 5) (n := 5) hts (fun w h => (uX4 w h).1) (hts _ wn_X4.1)
  obtain ⟨c5, i5, k5⟩ := u_known (C := RX5) (T := TX5) (N := 7) (n := 7) hts (fun w h => (uX5 w h).1) (hts _ wn_X5.1)
  obtain ⟨c6, i6, k6⟩ := u_known (C := RX6) (T := TX6) (N := 23) (n := 23) hts (fun w h => (uX6 w h).1) (hts _ wn_X6.1)
  obtain ⟨cI, kI, pI, a1, a2, a3⟩ := Cond.arrayClass_spec (hts _ wa_I.1)
  obtain ⟨cJ, kJ, pJ, b1, b2, b3⟩ := Cond.arrayClass_spec (hts _ wa_J.1)
  obtain ⟨pD, cD, kD, d1, d2, d3, d4, d5⟩ := Cond.arrayOver_spec (n := "ChannelSpacer$Desk") (hts (.arrayOver (.object "ChannelSpacer$Desk")) (List.mem_of_getElem? (i := 172) (by decide +kernel)))
  refine ⟨((fun k => if k = 0 then c0 else if k = 1 then c1 else if k = 2 then c2 else if k = 3 then c3 else if k = 4 then c4 else if k = 5 then c5 else c6, fun k => if k = 0 then i0 else if k = 1 then i1 else if k = 2 then i2 else if k = 3 then i3 else if k = 4 then i4 else if k = 5 then i5 else i6), fun t => if t = 0 then cI else if t = 1 then cJ else cD), ?_, ?_⟩
  · intro k q hq
    match k, hq with
    | 0, hq => cases hq; exact k0
    | 1, hq => cases hq; exact k1
    | 2, hq => cases hq; exact k2
    | 3, hq => cases hq; exact k3
    | 4, hq => cases hq; exact k4
    | 5, hq => cases hq; exact k5
    | 6, hq => cases hq; exact k6
    | k + 7, hq => simp at hq
  · intro k q hq
    match k, hq with
    | 0, hq => cases hq; exact ⟨fun n z => ⟨fun k h => (by cases h), kI, a2, pI, a3⟩, a1⟩
    | 1, hq => cases hq; exact ⟨fun n z => ⟨fun k h => (by cases h), kJ, b2, pJ, b3⟩, b1⟩
    | 2, hq => cases hq; exact ⟨fun n z => ⟨fun k h => (by cases h), kD, d3, pD, d4⟩, kD, pD, d3, d4, d1, d5⟩
    | k + 3, hq => simp [tysG] at hq
/-- YOUR PART: from the entry, for every script of at most 2048 ints, the law comes to its end with true -/
theorem whole_start {p : Program} {e : Env} {s : State} {m : MethodId} {below : List Frame} {meth : Method} {c : Code} (l : Launch) (hflags : l.flags = flags0) {b L : Nat} {xs : Nat → Int32} (hL : L ≤ 2048) (C0 : lw_At p s m meth c b L xs) : W p l e room_1 s m #[Value.ref b] below meth c s.heap [] 0 0 (lw_Z below #[Value.ref b] s) (entryFrame m ([Value.ref b] : List Value).toArray 8) := by
  obtain ⟨hx, hb, hr, hml, hown, hts, hX, hbl, hlocks, hgv⟩ := C0
  have hfl : l.stackTraces = false := by
    unfold Launch.stackTraces
    rw [hflags]
    decide
  have hs := flat_of_before _ hgv
  obtain ⟨g, hK⟩ := K3 hts
  have hTb : Tb s := fun w hw hm => mvW_move hm (State.WarmedH.refl s) (hts w hw)
  have hAO : va_AO "ChannelSpacer$Desk" s := va_AO.of (hts (.arrayOver (.object "ChannelSpacer$Desk")) (List.mem_of_getElem? (i := 172) (by decide +kernel)))
  have hcs : CS g s := ⟨hTb, SR_of hts, hAO, hK⟩
  have hnc : Nc2 s := ⟨va_Nc.of (hs _ (by decide +kernel)), va_Nc.of (hs _ (by decide +kernel))⟩
  have hzq : ZQ (va_A [] s.heap.size) s s.heap := ⟨vx_Zqof (hts _ (by decide +kernel)) (hts _ (by decide +kernel)) (hs _ (by decide +kernel)) (fun a h => vaA_nil h), vx_Zqof (hts _ (by decide +kernel)) (hts _ (by decide +kernel)) (hs _ (by decide +kernel)) (fun a h => vaA_nil h)⟩
  have hl := lv_entry ([.ref b]) (n := 8) (Nat.le_of_ble_eq_true rfl)
  rw [lg_entry_eq]
  exact lw_all (hh := c.exceptionTable.toList) l hfl hL p e s m _ below meth c g (fun i => if i = 99 then b else 0) ⟨rfl, hX, hbl, hnc⟩ s.heap [] _ ⟨hx, hb, hml, hr, hown, hlocks, fun q => (by cases q), rfl, hfl, hcs, hzq⟩ (fun k q h => by simp [cW] at h) ⟨fun i j p q h => by simp [cW] at h, fun k q h => by simp [cW] at h⟩ va_S.rf hl
end START3
