section MO26
def hF9 (h : Int64) (L : List Int32) : Int64 := L.foldl (fun h v => 31 * h + v.toInt64) h
theorem hF9_add {h x y : Int64} {L : List Int32} {a b : Int32} (hx : x = hF9 h L) (e : a = b) (hy : y = 31 * x + a.toInt64) : y = hF9 h (L ++ [b]) := by
  subst e
  unfold hF9 at hx ⊢
  rw [List.foldl_append, ← hx]; exact hy
theorem mp_s {A : List Int32} {f : Nat → Int32} {k : Nat} : (A ++ (List.range k).map f) ++ [f k] = A ++ (List.range (k + 1)).map f := by rw [List.range_succ, List.map_append, List.append_assoc]; rfl
def FK (ml mk : MJ) : Prop := ∀ p k, (p ≠ 61 ∨ k ≠ 22) → mk p k = ml p k
theorem FK.r {ml : MJ} : FK ml ml := fun _ _ _ => rfl
theorem FK.u {ml mk : MJ} {v : Int64} (h : FK ml mk) : FK ml (u2 mk 61 22 v) := fun p k hp => (u2_n (by omega)).trans (h p k hp)
theorem FK.t {ml mk mn : MJ} (h : FK ml mk) (h2 : FK mk mn) : FK ml mn := fun p k hp => (h2 p k hp).trans (h p k hp)
set_option maxHeartbeats 1600000 in
set_option maxRecDepth 100000 in
theorem c_X6_mix (l : Launch) (hfl : l.stackTraces = false) (mi : MI) (ml : MJ) (a : Int64) : Ct l yX6_mix (.code yX6_mix cX6_mix 3 none) 0 0 0 [.ref 61, .long a] (wl mi ml) (QV (fun mi9 ml9 => mi = mi9 ∧ FK ml ml9 ∧ ml9 61 22 = 31 * ml 61 22 + a)) noX := by
  refine Ct_of (ini := false) pn_X6 hfl (fun h => nomatch h) (Nat.le_of_ble_eq_true rfl) ?_
  show E l RX6 cX6_mix 3 none false [] (rmE 0 0 0) (wl mi ml) (TgM (wl mi ml) 0 0 (QV (fun mi9 ml9 => mi = mi9 ∧ FK ml ml9 ∧ ml9 61 22 = 31 * ml 61 22 + a)) noX) 0 0 0 [(0, .ref 61), (1, .long a)] [] (wl mi ml)
  refine E_aload_n 0 dX6_mix_0 rfl rfl ?_
  refine E_ldc2 wk_X6_215 dX6_mix_1 ?_
  refine E_aload_n 0 dX6_mix_4 rfl rfl ?_
  refine gf_X6_217 (ml 61 22) tw_61 rfl rfl dX6_mix_5 ?_
  refine E_lmul dX6_mix_8 ?_
  refine E_lload_n 1 dX6_mix_9 rfl rfl ?_
  refine E_ladd dX6_mix_10 ?_
  refine pf_X6_217 tw_61 rfl dX6_mix_11 ?_
  refine E_vret rfl (Nat.le_of_ble_eq_true rfl) (Nat.le_of_ble_eq_true rfl) dX6_mix_14 ?_
  exact okQV ⟨rfl, FK.r.u, u2_s _ _ _ _⟩
end MO26
