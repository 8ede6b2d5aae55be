section CLN
/-- the bits of a long -/
def Bt (r : Int64) (P : Nat → Prop) : Prop := ∀ c, c < 64 → (lb r c = true ↔ P c)
theorem Bt.or {x y : Int64} {P Q : Nat → Prop} (h : Bt x P) (h2 : Bt y Q) : Bt (x ||| y) (fun c => P c ∨ Q c) := by
  intro c hc
  rw [lb_or, Bool.or_eq_true]
  exact or_congr (h c hc) (h2 c hc)
theorem Bt.iff {x : Int64} {P Q : Nat → Prop} (h : Bt x P) (e : ∀ c, c < 64 → (P c ↔ Q c)) : Bt x Q := fun c hc => (h c hc).trans (e c hc)
theorem Bt_0 : Bt 0 (fun _ => False) := fun c _ => by rw [lb_0]; exact ⟨fun h => (by cases h), fun h => h.elim⟩
theorem Bt.z {x : Int64} {P : Nat → Prop} (h : Bt x P) (e : ∀ c, c < 64 → ¬ P c) : x = 0 := lb_ext (fun i hi => by
  rw [lb_0]
  rcases Bool.eq_false_or_eq_true (lb x i) with q | q
  · exact absurd ((h i hi).mp q) (e i hi)
  · exact q)
theorem Bt_one {c : Nat} {x : Int32} (hx : x.toInt = (c : Int)) (hc : c < 64) : Bt ((1 : Int64) <<< (x.toInt64 &&& 63)) (fun i => i = c) := by
  intro i hi
  rw [tI_nIx hx, lb_one hc hi, decide_eq_true_iff]
theorem Bt_and {x y : Int64} {P Q : Nat → Prop} (h : Bt x P) (h2 : Bt y Q) : (x &&& y) = 0 ↔ ∀ c, c < 64 → ¬ (P c ∧ Q c) := by
  constructor
  · intro e c hc z
    have h3 : lb (x &&& y) c = true := by rw [lb_and, (h c hc).mpr z.1, (h2 c hc).mpr z.2]; rfl
    rw [e, lb_0] at h3
    cases h3
  · intro e
    refine lb_ext (fun i hi => ?_)
    rw [lb_and, lb_0]
    rcases Bool.eq_false_or_eq_true (lb x i) with q | q
    · rcases Bool.eq_false_or_eq_true (lb y i) with q2 | q2
      · exact absurd ⟨(h i hi).mp q, (h2 i hi).mp q2⟩ (e i hi)
      · rw [q2, Bool.and_false]
    · rw [q, Bool.false_and]
/-- a strong product on channel x -/
def FX (D : RD) (kd a b c : Nat) (x : Nat) : Prop := Sg D kd a b c ∧ pCh D kd a b c = (x : Int)
def VT (N kd a b c : Nat) : Prop := a < N ∧ b < N ∧ c < N ∧ ((kd = 1 ∧ a < b ∧ c ≠ a ∧ c ≠ b) ∨ ((kd = 0 ∨ kd = 2) ∧ a ≠ b ∧ c = 0))
def Fal (D : RD) (N : Nat) (x : Nat) : Prop := ∃ kd a b c, VT N kd a b c ∧ FX D kd a b c x
def Gud (D : RD) (g : Int) (N : Nat) (x : Nat) : Prop := ∃ k, k < N ∧ (0 - g) ≤ ((x : Int) - D.2.2.2.1 k) ∧ ((x : Int) - D.2.2.2.1 k) ≤ g
def cwP (D : RD) (sp : Int) (a b : Nat) : Prop := (1 - sp) ≤ (D.2.2.2.1 a - D.2.2.2.1 b) ∧ (D.2.2.2.1 a - D.2.2.2.1 b) ≤ (sp - 1)
def Spd (D : RD) (sp : Int) (N : Nat) : Prop := ∀ a b, a < N → b < N → a ≠ b → ¬ cwP D sp a b
theorem ClR_iff {D : RD} {g sp : Int} {N : Nat} : ClR D g sp N ↔ Spd D sp N ∧ ∀ x, x < 64 → ¬ (Gud D g N x ∧ Fal D N x) := by
  constructor
  · intro h
    refine ⟨fun a b ha hb hab => ((h a ha b hb).1 hab).1, fun x hx z => ?_⟩
    obtain ⟨⟨k, hk, hk2⟩, kd, a, b, c, ⟨ha, hb, hc, hv⟩, hS, hp⟩ := z
    have hn : nHt D g N kd a b c := by
      rcases hv with ⟨e, h1, h2, h3⟩ | ⟨e, h1, h2⟩
      · subst e; exact (h a ha b hb).2 c hc h1 h2 h3
      · subst h2
        rcases e with e | e
        · subst e; exact ((h a ha b hb).1 h1).2.1
        · subst e; exact ((h a ha b hb).1 h1).2.2
    exact hn k hk hS (by rw [hp]; exact hk2)
  · rintro ⟨h1, h2⟩
    have hH : ∀ kd a b c, VT N kd a b c → nHt D g N kd a b c := by
      intro kd a b c hv k hk hS hz
      have hr := hS.1
      have e : ((pCh D kd a b c).toNat : Int) = pCh D kd a b c := by omega
      exact h2 (pCh D kd a b c).toNat (by omega) ⟨⟨k, hk, by rw [e]; exact hz⟩, kd, a, b, c, hv, hS, e.symm⟩
    intro a ha b hb
    refine ⟨fun hab => ⟨h1 a b ha hb hab, ?_, ?_⟩, fun c hc h3 h4 h5 => hH 1 a b c ⟨ha, hb, hc, Or.inl ⟨rfl, h3, h4, h5⟩⟩⟩
    · exact hH 0 a b 0 ⟨ha, hb, by omega, Or.inr ⟨Or.inl rfl, hab, rfl⟩⟩
    · exact hH 2 a b 0 ⟨ha, hb, by omega, Or.inr ⟨Or.inr rfl, hab, rfl⟩⟩
theorem Fal_m {D : RD} {N M x : Nat} (h : N ≤ M) : Fal D N x → Fal D M x := by
  rintro ⟨kd, a, b, c, ⟨h1, h2, h3, h4⟩, h5⟩
  exact ⟨kd, a, b, c, ⟨by omega, by omega, by omega, h4⟩, h5⟩
theorem Gud_m {D : RD} {g : Int} {N M x : Nat} (h : N ≤ M) : Gud D g N x → Gud D g M x := by
  rintro ⟨k, h1, h2⟩
  exact ⟨k, by omega, h2⟩
theorem ClR_m {D : RD} {g sp : Int} {N M : Nat} (h : N ≤ M) (hc : ClR D g sp M) : ClR D g sp N := by
  rw [ClR_iff] at hc ⊢
  exact ⟨fun a b ha hb => hc.1 a b (by omega) (by omega), fun x hx z => hc.2 x hx ⟨Gud_m h z.1, Fal_m h z.2⟩⟩
def PX (D : RD) (N i x : Nat) : Prop := (FX D 0 N i 0 x ∨ FX D 0 i N 0 x) ∨ (FX D 2 N i 0 x ∨ FX D 2 i N 0 x)
def TX (D : RD) (N i j x : Nat) : Prop := (FX D 1 i N j x ∨ FX D 1 j N i x) ∨ FX D 1 j i N x
theorem Fal_s {D : RD} {N x : Nat} : Fal D (N + 1) x ↔ (Fal D N x ∨ ∃ i, i < N ∧ PX D N i x) ∨ ∃ i, i < N ∧ ∃ j, j < i ∧ TX D N i j x := by
  constructor
  · rintro ⟨kd, a, b, c, ⟨ha, hb, hc, hv⟩, hf⟩
    rcases hv with ⟨e, h1, h2, h3⟩ | ⟨e, h1, h2⟩
    · subst e
      rcases Nat.lt_or_ge b N with qb | qb
      · rcases Nat.lt_or_ge c N with qc | qc
        · exact Or.inl (Or.inl ⟨1, a, b, c, ⟨by omega, qb, qc, Or.inl ⟨rfl, h1, h2, h3⟩⟩, hf⟩)
        · obtain rfl : c = N := by omega
          exact Or.inr ⟨b, qb, a, h1, Or.inr hf⟩
      · obtain rfl : b = N := by omega
        rcases Nat.lt_or_ge c a with qc | qc
        · exact Or.inr ⟨a, h1, c, qc, Or.inl (Or.inl hf)⟩
        · exact Or.inr ⟨c, by omega, a, by omega, Or.inl (Or.inr hf)⟩
    · subst h2
      rcases Nat.lt_or_ge a N with qa | qa
      · rcases Nat.lt_or_ge b N with qb | qb
        · exact Or.inl (Or.inl ⟨kd, a, b, 0, ⟨qa, qb, by omega, Or.inr ⟨e, h1, rfl⟩⟩, hf⟩)
        · obtain rfl : b = N := by omega
          refine Or.inl (Or.inr ⟨a, qa, ?_⟩)
          rcases e with e | e <;> subst e
          · exact Or.inl (Or.inr hf)
          · exact Or.inr (Or.inr hf)
      · obtain rfl : a = N := by omega
        refine Or.inl (Or.inr ⟨b, by omega, ?_⟩)
        rcases e with e | e <;> subst e
        · exact Or.inl (Or.inl hf)
        · exact Or.inr (Or.inl hf)
  · rintro ((h | ⟨i, hi, h⟩) | ⟨i, hi, j, hj, h⟩)
    · exact Fal_m (Nat.le_succ N) h
    · rcases h with (h | h) | (h | h)
      · exact ⟨0, N, i, 0, ⟨by omega, by omega, by omega, Or.inr ⟨Or.inl rfl, by omega, rfl⟩⟩, h⟩
      · exact ⟨0, i, N, 0, ⟨by omega, by omega, by omega, Or.inr ⟨Or.inl rfl, by omega, rfl⟩⟩, h⟩
      · exact ⟨2, N, i, 0, ⟨by omega, by omega, by omega, Or.inr ⟨Or.inr rfl, by omega, rfl⟩⟩, h⟩
      · exact ⟨2, i, N, 0, ⟨by omega, by omega, by omega, Or.inr ⟨Or.inr rfl, by omega, rfl⟩⟩, h⟩
    · rcases h with (h | h) | h
      · exact ⟨1, i, N, j, ⟨by omega, by omega, by omega, Or.inl ⟨rfl, hi, by omega, by omega⟩⟩, h⟩
      · exact ⟨1, j, N, i, ⟨by omega, by omega, by omega, Or.inl ⟨rfl, by omega, by omega, by omega⟩⟩, h⟩
      · exact ⟨1, j, i, N, ⟨by omega, by omega, by omega, Or.inl ⟨rfl, hj, by omega, by omega⟩⟩, h⟩
theorem Gud_s {D : RD} {g : Int} {N x : Nat} : Gud D g (N + 1) x ↔ Gud D g N x ∨ ((0 - g) ≤ ((x : Int) - D.2.2.2.1 N) ∧ ((x : Int) - D.2.2.2.1 N) ≤ g) := by
  constructor
  · rintro ⟨k, hk, h⟩
    rcases Nat.lt_or_ge k N with q | q
    · exact Or.inl ⟨k, q, h⟩
    · obtain rfl : k = N := by omega
      exact Or.inr h
  · rintro (⟨k, hk, h⟩ | h)
    · exact ⟨k, by omega, h⟩
    · exact ⟨N, by omega, h⟩
theorem Spd_s {D : RD} {sp : Int} {N : Nat} : Spd D sp (N + 1) ↔ Spd D sp N ∧ ¬ ∃ i, i < N ∧ cwP D sp i N := by
  constructor
  · intro h
    exact ⟨fun a b ha hb => h a b (by omega) (by omega), fun ⟨i, hi, z⟩ => h i N (by omega) (by omega) (by omega) z⟩
  · rintro ⟨h1, h2⟩ a b ha hb hab z
    rcases Nat.lt_or_ge a N with qa | qa
    · rcases Nat.lt_or_ge b N with qb | qb
      · exact h1 a b qa qb hab z
      · obtain rfl : b = N := by omega
        exact h2 ⟨a, qa, z⟩
    · obtain rfl : a = N := by omega
      exact h2 ⟨b, by omega, by unfold cwP at z ⊢; omega⟩
/-- the ranges -/
def RgD (D : RD) (g sp : Int) (N : Nat) : Prop := (D.1 < 8 ∧ (0 ≤ D.2.1 ∧ D.2.1 ≤ 300) ∧ (0 ≤ D.2.2.1 ∧ D.2.2.1 ≤ 300) ∧ (0 ≤ g ∧ g ≤ 5) ∧ (1 ≤ sp ∧ sp ≤ 10)) ∧ ∀ k, k < N → (0 ≤ D.2.2.2.1 k ∧ D.2.2.2.1 k ≤ 63) ∧ (0 ≤ D.2.2.2.2 k ∧ D.2.2.2.2 k ≤ 60)
/-- the clean set holds the first N carriers of D -/
def CSI (mi : MI) (ml : MJ) (D : RD) (g sp : Int) (N : Nat) : Prop :=
  ((mi 53 4).toInt = (N : Int) ∧ N ≤ 11) ∧ ((mi 53 5).toInt = (D.1 : Int) ∧ (mi 53 6).toInt = D.2.1 ∧ (mi 53 7).toInt = D.2.2.1 ∧ (mi 53 8).toInt = g ∧ (mi 53 9).toInt = sp) ∧
  (∀ k, k < N → (mi 54 k).toInt = D.2.2.2.1 k ∧ (mi 55 k).toInt = D.2.2.2.2 k) ∧ (∀ k, k ≤ N → Bt (ml 56 k) (Gud D g k) ∧ Bt (ml 57 k) (Fal D k)) ∧ ClR D g sp N
def FLc (ml ml9 : MJ) : Prop := ∀ p, p ≠ 56 → p ≠ 57 → ml9 p = ml p
theorem FLc_r {ml : MJ} : FLc ml ml := fun _ _ _ => rfl
theorem FLc.trans {a b c : MJ} (h : FLc a b) (h2 : FLc b c) : FLc a c := fun p h3 h4 => (h2 p h3 h4).trans (h p h3 h4)
theorem CSI.z {mi : MI} {ml : MJ} {D : RD} {g sp : Int} {N : Nat} (h : CSI mi ml D g sp N) : ml 56 0 = 0 ∧ ml 57 0 = 0 := by
  have h1 := h.2.2.2.1 0 (Nat.zero_le N)
  refine ⟨h1.1.z (fun c _ z => ?_), h1.2.z (fun c _ z => ?_)⟩
  · obtain ⟨k, hk, _⟩ := z; omega
  · obtain ⟨kd, a, b, c, hv, _⟩ := z; exact absurd hv.1 (Nat.not_lt_zero a)
theorem CSI.c {mi mj : MI} {ml mk : MJ} {D : RD} {g sp : Int} {N : Nat} (h : CSI mi ml D g sp N) (e3 : mj 53 = mi 53) (e4 : mj 54 = mi 54) (e5 : mj 55 = mi 55) (e6 : mk 56 = ml 56) (e7 : mk 57 = ml 57) : CSI mj mk D g sp N := by
  unfold CSI at h ⊢
  rw [e3, e4, e5, e6, e7]; exact h
theorem VT_c {N kd a b c : Nat} (h : VT N kd a b c) : a < N ∧ b < N ∧ c < N := ⟨h.1, h.2.1, h.2.2.1⟩
theorem eqD.Fal {n N x : Nat} {D D' : RD} (h : eqD n D D') (hN : N ≤ n) : Fal D' N x ↔ Fal D N x := by
  constructor
  · rintro ⟨kd, a, b, c, hv, h1, h2⟩
    have h3 := VT_c hv
    exact ⟨kd, a, b, c, hv, by rw [← h.sg (by omega) (by omega) (by omega)]; exact h1, by rw [← h.ch (by omega) (by omega) (by omega)]; exact h2⟩
  · rintro ⟨kd, a, b, c, hv, h1, h2⟩
    have h3 := VT_c hv
    exact ⟨kd, a, b, c, hv, by rw [h.sg (by omega) (by omega) (by omega)]; exact h1, by rw [h.ch (by omega) (by omega) (by omega)]; exact h2⟩
theorem eqD.Gud {n N x : Nat} {D D' : RD} {g : Int} (h : eqD n D D') (hN : N ≤ n) : Gud D' g N x ↔ Gud D g N x := by
  constructor
  · rintro ⟨k, hk, h1⟩
    exact ⟨k, hk, by rw [← (h.2.2.2 k (by omega)).1]; exact h1⟩
  · rintro ⟨k, hk, h1⟩
    exact ⟨k, hk, by rw [(h.2.2.2 k (by omega)).1]; exact h1⟩
theorem eqD.Cl {n N : Nat} {D D' : RD} {g sp : Int} (h : eqD n D D') (hN : N ≤ n) : ClR D' g sp N ↔ ClR D g sp N := by
  rw [ClR_iff, ClR_iff]
  have e1 : Spd D' sp N ↔ Spd D sp N := by
    unfold Spd cwP
    constructor
    · intro z a b ha hb hab q; exact z a b ha hb hab (by rw [(h.2.2.2 a (by omega)).1, (h.2.2.2 b (by omega)).1]; exact q)
    · intro z a b ha hb hab q; exact z a b ha hb hab (by rw [← (h.2.2.2 a (by omega)).1, ← (h.2.2.2 b (by omega)).1]; exact q)
  rw [e1]
  constructor
  · rintro ⟨z1, z2⟩
    exact ⟨z1, fun x hx q => z2 x hx ⟨(h.Gud hN).mpr q.1, (h.Fal hN).mpr q.2⟩⟩
  · rintro ⟨z1, z2⟩
    exact ⟨z1, fun x hx q => z2 x hx ⟨(h.Gud hN).mp q.1, (h.Fal hN).mp q.2⟩⟩
theorem CSI.d {mi : MI} {ml : MJ} {D D' : RD} {g sp : Int} {N : Nat} (h : CSI mi ml D g sp N) (e : eqD N D D') : CSI mi ml D' g sp N := by
  obtain ⟨h1, h2, h3, h4, h5⟩ := h
  refine ⟨h1, ?_, fun k hk => ?_, fun k hk => ⟨?_, ?_⟩, (e.Cl (Nat.le_refl N)).mpr h5⟩
  · rw [e.1, e.2.1, e.2.2.1]; exact h2
  · rw [(e.2.2.2 k hk).1, (e.2.2.2 k hk).2]; exact h3 k hk
  · exact (h4 k hk).1.iff (fun c _ => (e.Gud hk).symm)
  · exact (h4 k hk).2.iff (fun c _ => (e.Fal hk).symm)
theorem CSI.le {mi mj : MI} {ml : MJ} {D : RD} {g sp : Int} {N M : Nat} (h : CSI mi ml D g sp M) (hN : N ≤ M) (e3 : ∀ k, k ≠ 4 → mj 53 k = mi 53 k) (e4 : mj 54 = mi 54) (e5 : mj 55 = mi 55) (e : (mj 53 4).toInt = (N : Int)) : CSI mj ml D g sp N := by
  obtain ⟨h1, h2, h3, h4, h5⟩ := h
  refine ⟨⟨e, by omega⟩, ?_, fun k hk => ?_, fun k hk => h4 k (by omega), ClR_m hN h5⟩
  · rw [e3 5 (by decide), e3 6 (by decide), e3 7 (by decide), e3 8 (by decide), e3 9 (by decide)]; exact h2
  · rw [e4, e5]; exact h3 k (by omega)
theorem FX_iff {D : RD} {kd a b c x : Nat} {X Y : Int} (hb : D.1.testBit kd = true) (hX : X = pCh D kd a b c) (hY : Y = pLv D kd a b c) (hx : x < 64) : (X = (x : Int) ∧ 0 ≤ Y) ↔ FX D kd a b c x := by
  subst hX hY
  constructor
  · rintro ⟨h1, h2⟩; exact ⟨⟨⟨by omega, by omega⟩, hb, h2⟩, h1⟩
  · rintro ⟨h1, h2⟩; exact ⟨h2, h1.2.2⟩
theorem FX_off {D : RD} {kd a b c x : Nat} (hb : D.1.testBit kd = false) : ¬ FX D kd a b c x := fun h => by
  have := h.1.2.1
  rw [hb] at this; cases this
theorem kb_D {x : Int32} {k : Nat} (hx : x.toInt = (k : Int)) (hk : k < 8) : (((x &&& 1).toInt = 0 ↔ k.testBit 0 = false) ∧ ((x &&& 2).toInt = 0 ↔ k.testBit 1 = false) ∧ ((x &&& 4).toInt = 0 ↔ k.testBit 2 = false)) := by
  rw [tI_nIx hx]; exact kb_t k hk
theorem Bt.two {D : RD} {kd a b c a2 b2 c2 : Nat} {v r1 r2 : Int64} {P : Nat → Prop} {X1 Y1 X2 Y2 : Int} (hv : Bt v P) (h1 : Bt r1 (fun x => X1 = (x : Int) ∧ 0 ≤ Y1)) (h2 : Bt r2 (fun x => X2 = (x : Int) ∧ 0 ≤ Y2)) (hb : D.1.testBit kd = true) (e1 : X1 = pCh D kd a b c) (f1 : Y1 = pLv D kd a b c) (e2 : X2 = pCh D kd a2 b2 c2) (f2 : Y2 = pLv D kd a2 b2 c2) : Bt ((v ||| r1) ||| r2) (fun x => P x ∨ (FX D kd a b c x ∨ FX D kd a2 b2 c2 x)) :=
  ((hv.or h1).or h2).iff (fun x hx => by
    rw [or_assoc]
    exact or_congr Iff.rfl (or_congr (FX_iff hb e1 f1 hx) (FX_iff hb e2 f2 hx)))
theorem Bt.off2 {D : RD} {kd a b c a2 b2 c2 : Nat} {v : Int64} {P : Nat → Prop} (hv : Bt v P) (hb : D.1.testBit kd = false) : Bt v (fun x => P x ∨ (FX D kd a b c x ∨ FX D kd a2 b2 c2 x)) :=
  hv.iff (fun x hx => ⟨Or.inl, fun z => z.elim id (fun z => z.elim (fun q => absurd q (FX_off hb)) (fun q => absurd q (FX_off hb)))⟩)
theorem Bt.three {D : RD} {a b c a2 b2 c2 a3 b3 c3 : Nat} {v r1 r2 r3 : Int64} {P : Nat → Prop} {X1 Y1 X2 Y2 X3 Y3 : Int} (hv : Bt v P) (h1 : Bt r1 (fun x => X1 = (x : Int) ∧ 0 ≤ Y1)) (h2 : Bt r2 (fun x => X2 = (x : Int) ∧ 0 ≤ Y2)) (h3 : Bt r3 (fun x => X3 = (x : Int) ∧ 0 ≤ Y3)) (hb : D.1.testBit 1 = true) (e1 : X1 = pCh D 1 a b c) (f1 : Y1 = pLv D 1 a b c) (e2 : X2 = pCh D 1 a2 b2 c2) (f2 : Y2 = pLv D 1 a2 b2 c2) (e3 : X3 = pCh D 1 a3 b3 c3) (f3 : Y3 = pLv D 1 a3 b3 c3) : Bt (v ||| ((r1 ||| r2) ||| r3)) (fun x => P x ∨ ((FX D 1 a b c x ∨ FX D 1 a2 b2 c2 x) ∨ FX D 1 a3 b3 c3 x)) :=
  (hv.or ((h1.or h2).or h3)).iff (fun x hx => or_congr Iff.rfl (or_congr (or_congr (FX_iff hb e1 f1 hx) (FX_iff hb e2 f2 hx)) (FX_iff hb e3 f3 hx)))
theorem ex_s {i : Nat} {P : Nat → Prop} {A : Prop} (h : A ↔ P i) : ((∃ k, k < i ∧ P k) ∨ A) ↔ ∃ k, k < i + 1 ∧ P k := by
  constructor
  · rintro (⟨k, h1, h2⟩ | h1)
    · exact ⟨k, by omega, h2⟩
    · exact ⟨i, by omega, h.mp h1⟩
  · rintro ⟨k, h1, h2⟩
    rcases Nat.lt_or_ge k i with q | q
    · exact Or.inl ⟨k, q, h2⟩
    · obtain rfl : k = i := by omega
      exact Or.inr (h.mpr h2)
theorem run_b : ∀ g, g < 6 → ∀ i, i < 64 → lb (((1 : Int64) <<< ((((2 : Int32) * nI g) + 1).toInt64 &&& 63)) - 1) i = decide (i ≤ 2 * g) := by decide +kernel
theorem run_n : ∀ g, g < 6 → ∀ x, x < g → ∀ i, i < 64 → lb ((((((1 : Int64) <<< ((((2 : Int32) * nI g) + 1).toInt64 &&& 63)) - 1).toUInt64 >>> (((0 : Int32) - (nI x - nI g)).toInt64.toUInt64 &&& Int64.toUInt64 63)).toInt64)) i = decide (i ≤ x + g) := by decide +kernel
theorem gb_p {x v : Int32} {X g : Int} (hx : x.toInt = X) (hv : v.toInt = g) (hX : 0 ≤ X ∧ X ≤ 63) (hg : 0 ≤ g ∧ g ≤ 5) (h : 0 ≤ X - g) : Bt ((((1 : Int64) <<< (((2 * v) + 1).toInt64 &&& 63)) - 1) <<< ((x - v).toInt64 &&& 63)) (fun i => (0 - g) ≤ ((i : Int) - X) ∧ ((i : Int) - X) ≤ g) := by
  intro i hi
  have e1 : x - v = nI (X - g).toNat := tI_nIx ((tI_sub hx hv (by omega)).trans (by omega))
  have e2 : v = nI g.toNat := tI_nIx (by omega)
  rw [e1, lb_shl (X - g).toNat (by omega) _ hi, e2, Bool.and_eq_true, decide_eq_true_iff]
  rcases Nat.lt_or_ge i (X - g).toNat with q | q
  · exact ⟨fun z => absurd z.1 (by omega), fun z => absurd z.1 (by omega)⟩
  · rw [run_b g.toNat (by omega) _ (by omega), decide_eq_true_iff]
    omega
theorem gb_n {x v : Int32} {X g : Int} (hx : x.toInt = X) (hv : v.toInt = g) (hX : 0 ≤ X ∧ X ≤ 63) (hg : 0 ≤ g ∧ g ≤ 5) (h : X - g < 0) : Bt (((((1 : Int64) <<< (((2 * v) + 1).toInt64 &&& 63)) - 1).toUInt64 >>> ((0 - (x - v)).toInt64.toUInt64 &&& Int64.toUInt64 63)).toInt64) (fun i => (0 - g) ≤ ((i : Int) - X) ∧ ((i : Int) - X) ≤ g) := by
  intro i hi
  have e1 : x = nI X.toNat := tI_nIx (by omega)
  have e2 : v = nI g.toNat := tI_nIx (by omega)
  rw [e1, e2, run_n g.toNat (by omega) X.toNat (by omega) i hi, decide_eq_true_iff]
  omega
theorem CSI_0 {mj : MI} {ml : MJ} {V : Nat → Int32} {D : RD} (hw : WFV V) (hz : ml 56 0 = 0 ∧ ml 57 0 = 0) (hD : D.1 = (V 0).toInt.toNat ∧ D.2.1 = (V 1).toInt ∧ D.2.2.1 = (V 2).toInt) (e4 : mj 53 4 = 0) (e5 : mj 53 5 = V 0) (e6 : mj 53 6 = V 1) (e7 : mj 53 7 = V 2) (e8 : mj 53 8 = V 3) (e9 : mj 53 9 = V 4) : CSI mj ml D (V 3).toInt (V 4).toInt 0 := by
  have h1 := hw.1.1
  refine ⟨⟨by rw [e4]; rfl, by decide⟩, ?_, fun k hk => absurd hk (Nat.not_lt_zero k), fun k hk => ?_, ClR_0⟩
  · rw [e5, e6, e7, e8, e9, hD.1, hD.2.1, hD.2.2]
    exact ⟨by omega, rfl, rfl, rfl, rfl⟩
  · obtain rfl : k = 0 := by omega
    rw [hz.1, hz.2]
    exact ⟨Bt_0.iff (fun c _ => ⟨fun z => z.elim, fun ⟨k, h, _⟩ => absurd h (Nat.not_lt_zero k)⟩), Bt_0.iff (fun c _ => ⟨fun z => z.elim, fun ⟨kd, a, b, c, hv, _⟩ => absurd hv.1 (Nat.not_lt_zero a)⟩)⟩
theorem CSI_j {mi : MI} {ml : MJ} {D : RD} {g sp : Int} {N : Nat} {x xl s : Int32} {ng nf : Int64} (h : CSI mi ml D g sp N) (hN : N < 11) (hx : x.toInt = D.2.2.2.1 N) (hl : xl.toInt = D.2.2.2.2 N) (hs : s.toInt = ((N + 1 : Nat) : Int)) (hg : Bt ng (Gud D g (N + 1))) (hf : Bt nf (Fal D (N + 1))) (hc : ClR D g sp (N + 1)) : CSI (u2 (u2 (u2 mi 54 N x) 55 N xl) 53 4 s) (u2 (u2 ml 56 (N + 1) ng) 57 (N + 1) nf) D g sp (N + 1) := by
  obtain ⟨h1, h2, h3, h4, h5⟩ := h
  refine ⟨⟨by rw [u2_s]; exact hs, by omega⟩, ?_, fun k hk => ?_, fun k hk => ?_, hc⟩
  · have e : ∀ k, k ≠ 4 → (u2 (u2 (u2 mi 54 N x) 55 N xl) 53 4 s) 53 k = mi 53 k := fun k hk => by rw [u2_n (Or.inr hk), u2_p (by decide), u2_p (by decide)]
    rw [e 5 (by decide), e 6 (by decide), e 7 (by decide), e 8 (by decide), e 9 (by decide)]
    exact h2
  · rw [u2_p (by decide), u2_p (show (55 : Nat) ≠ 53 by decide), u2_p (by decide)]
    rcases Nat.lt_or_ge k N with q | q
    · rw [u2_n (Or.inr (by omega)), u2_n (Or.inr (by omega)), u2_p (by decide)]
      exact h3 k q
    · obtain rfl : k = N := by omega
      rw [u2_s, u2_s]
      exact ⟨hx, hl⟩
  · rw [u2_p (show (56 : Nat) ≠ 57 by decide)]
    rcases Nat.lt_or_ge k (N + 1) with q | q
    · rw [u2_n (Or.inr (by omega)), u2_n (Or.inr (by omega)), u2_p (by decide)]
      exact h4 k (by omega)
    · obtain rfl : k = N + 1 := by omega
      rw [u2_s, u2_s]
      exact ⟨hg, hf⟩
end CLN
