section MO15
theorem SM.t {mi mj mk : MI} {c : Int32} (h : SM c mi mj) (hF : Fr [61, 65, 66, 67] mj mk) (h61 : ∀ k, k ≠ 9 → mk 61 k = mj 61 k) : SM c mi mk :=
  ⟨h.1.trans hF (fun _ h => h) (by decide), (h61 2 (by decide)).trans h.2.1, (h61 4 (by decide)).trans h.2.2.1, (h61 5 (by decide)).trans h.2.2.2⟩
theorem lsN_c {mi mj : MI} {L : List Nat} (h : lsN mi L) (e : mj 70 = mi 70) : lsN mj L := fun k s hs => by rw [e]; exact h k s hs
theorem bt_y {V : Nat → Int32} {n nm act c : Nat} {L : List Nat} {xl xr xc : Int32} (hl : xl.toInt = ((btS V n nm act L c).2 : Int)) (hr : xr.toInt = (btW V n nm act L c : Int)) (h : xr.toInt < xl.toInt) (hc : xc.toInt = (c : Int)) : xc.toInt = ((btS V n nm act L (c + 1)).1 : Int) ∧ xr.toInt = ((btS V n nm act L (c + 1)).2 : Int) := by
  rw [btS_y (by omega)]
  exact ⟨hc, hr⟩
theorem bt_n {V : Nat → Int32} {n nm act c : Nat} {L : List Nat} {xl xr xb : Int32} (hl : xl.toInt = ((btS V n nm act L c).2 : Int)) (hr : xr.toInt = (btW V n nm act L c : Int)) (h : ¬ xr.toInt < xl.toInt) (hb : xb.toInt = ((btS V n nm act L c).1 : Int)) : xb.toInt = ((btS V n nm act L (c + 1)).1 : Int) ∧ xl.toInt = ((btS V n nm act L (c + 1)).2 : Int) := by
  rw [btS_n (by omega)]
  exact ⟨hb, hl⟩
theorem btW_le (V : Nat → Int32) (n nm act : Nat) (L : List Nat) (c : Nat) : btW V n nm act L c ≤ L.length := by
  have h := cntF_le L (hbS V n act c nm)
  unfold btW
  split <;> omega
theorem btW_y {V : Nat → Int32} {n nm act c : Nat} {L : List Nat} {x : Int32} {k : Nat} (hx : x.toInt = (k : Int)) (hk : k = cntF L (hbS V n act c nm)) (h : (L.length : Int) - (k : Int) < (k : Int)) : x.toInt = (btW V n nm act L c : Int) := by
  subst hk
  have := cntF_le L (hbS V n act c nm)
  unfold btW
  rw [if_pos (by omega)]; exact hx
theorem btW_n {V : Nat → Int32} {n nm act c : Nat} {L : List Nat} {x : Int32} {k : Nat} (hx : x.toInt = (L.length : Int) - (k : Int)) (hk : k = cntF L (hbS V n act c nm)) (h : ¬ (L.length : Int) - (k : Int) < (k : Int)) : x.toInt = (btW V n nm act L c : Int) := by
  subst hk
  have := cntF_le L (hbS V n act c nm)
  unfold btW
  rw [if_neg (by omega)]; omega
end MO15
