section HIS
theorem tI_mx {a b : Int32} {x y : Int} (ha : a.toInt = x) (hb : b.toInt = y) : (if a < b then b else a).toInt = max x y := by
  subst ha hb
  rcases Decidable.em (a < b) with h | h
  · rw [if_pos h]
    have := Int32.lt_iff_toInt_lt.mp h
    omega
  · rw [if_neg h]
    have := Int32.le_iff_toInt_le.mp (Int32.not_lt.mp h)
    omega
theorem tI_mn {a b : Int32} {x y : Int} (ha : a.toInt = x) (hb : b.toInt = y) : (if b < a then b else a).toInt = min x y := by
  subst ha hb
  rcases Decidable.em (b < a) with h | h
  · rw [if_pos h]
    have := Int32.lt_iff_toInt_lt.mp h
    omega
  · rw [if_neg h]
    have := Int32.le_iff_toInt_le.mp (Int32.not_lt.mp h)
    omega
theorem tI_abs {a : Int32} {x : Int} (ha : a.toInt = x) (hx : -2147483648 < x) : (if 0 ≤ a then a else 0 - a).toInt = if 0 ≤ x then x else 0 - x := by
  have h2 := tI_rng a
  rcases Decidable.em (0 ≤ a) with h | h
  · have := Int32.le_iff_toInt_le.mp h
    have e0 : (0 : Int32).toInt = 0 := rfl
    rw [if_pos h, if_pos (by omega)]
    exact ha
  · have := Int32.lt_iff_toInt_lt.mp (Int32.not_le.mp h)
    have e0 : (0 : Int32).toInt = 0 := rfl
    rw [if_neg h, if_neg (by omega)]
    exact tI_neg ha (by omega)
theorem S_copyR {l : Launch} {own : String} {cc : ByteArray} {nL : Nat} {ret : Option FieldType} {ini : Bool} {hh : List ExceptionTableEntry} {R : Room} {w0 : AW} {Tg : TgT} {k n pc : Nat} {lv : List (Nat × Value)} {st : List Value} {mi : MI} {ml : MJ} {idx i0 i1 z0 z1 : Nat} {f0 f1 : Nat → Int32} {q : Int32} (qn : Nat) (ra rb : Nat → Int32) (ha : mi i0 = ra) (hb : mi i1 = rb) (hlk : Wd (.methodLink own idx arraycopyName)) (ht0 : twl[i0]? = some (.inl (0, z0, .inl f0))) (ht1 : twl[i1]? = some (.inl (0, z1, .inl f1))) (hq : q.toInt = (qn : Int)) (h4 : qn ≤ z0) (h5 : qn ≤ z1)
    (hR : 1 ≤ R.frames ∧ (st.map fun v => v.category).sum + (nativeFrameWords "java/lang/System" "arraycopy" 5 + 11) ≤ R.locals) (hd : decode cc pc = .ok (.invokestatic idx, 3))
    (kk : E l own cc nL ret ini hh R w0 Tg k n (pc + 3) lv st (wl (uR mi i1 (cpR ra rb qn)) ml)) : E l own cc nL ret ini hh R w0 Tg k n pc lv (.int q :: .int 0 :: .ref i1 :: .int 0 :: .ref i0 :: st) (wl mi ml) := by
  subst ha hb
  exact S_copyi qn hlk ht0 ht1 hq h4 h5 hR hd kk
/-- the desk at h is that at g -/
def TFS (h g : Nat) (mi mi9 : MI) : Prop := Fr [h, h + 1, h + 2, h + 3, h + 4, h + 5, h + 6, h + 7] mi mi9 ∧ (∀ k, k < 6 ∨ k = 8 ∨ k = 10 → mi9 h k = mi g k) ∧ (∀ j, j < 10 → mi9 (h + 1) j = mi (g + 1) j ∧ mi9 (h + 2) j = mi (g + 2) j) ∧ (∀ j, j < 5 → mi9 (h + 3) j = mi (g + 3) j) ∧ (∀ j, j < 16 → mi9 (h + 4) j = mi (g + 4) j ∧ mi9 (h + 5) j = mi (g + 5) j ∧ mi9 (h + 6) j = mi (g + 6) j ∧ mi9 (h + 7) j = mi (g + 7) j)
theorem TFS_i {h g : Nat} {mi m64 mi9 : MI} (hg : h + 8 ≤ g ∨ g + 8 ≤ h)
    (e64 : u2 (u2 (u2 (u2 (u2 (u2 (u2 (u2 mi h 0 (mi g 0)) h 1 (mi g 1)) h 2 (mi g 2)) h 3 (mi g 3)) h 4 (mi g 4)) h 5 (mi g 5)) h 8 (mi g 8)) h 10 (mi g 10) = m64)
    (e9 : uR (uR (uR (uR (uR (uR (uR m64 (h + 1) (cpR (m64 (g + 1)) (m64 (h + 1)) 10)) (h + 2) (cpR (m64 (g + 2)) (m64 (h + 2)) 10)) (h + 3) (cpR (m64 (g + 3)) (m64 (h + 3)) 5)) (h + 4) (cpR (m64 (g + 4)) (m64 (h + 4)) 16)) (h + 5) (cpR (m64 (g + 5)) (m64 (h + 5)) 16)) (h + 6) (cpR (m64 (g + 6)) (m64 (h + 6)) 16)) (h + 7) (cpR (m64 (g + 7)) (m64 (h + 7)) 16) = mi9) : TFS h g mi mi9 := by
  have r : ∀ q, q ≠ h → m64 q = mi q := by
    intro q hq
    rw [← e64, u2_p hq, u2_p hq, u2_p hq, u2_p hq, u2_p hq, u2_p hq, u2_p hq, u2_p hq]
  have n : ∀ q, q ≠ h + 1 → q ≠ h + 2 → q ≠ h + 3 → q ≠ h + 4 → q ≠ h + 5 → q ≠ h + 6 → q ≠ h + 7 → mi9 q = m64 q := by
    intro q h1 h2 h3 h4 h5 h6 h7
    rw [← e9, uR_n h7, uR_n h6, uR_n h5, uR_n h4, uR_n h3, uR_n h2, uR_n h1]
  have b1 : mi9 (h + 1) = cpR (m64 (g + 1)) (m64 (h + 1)) 10 := by
    rw [← e9, uR_n (by omega), uR_n (by omega), uR_n (by omega), uR_n (by omega), uR_n (by omega), uR_n (by omega), uR_s]
  have b2 : mi9 (h + 2) = cpR (m64 (g + 2)) (m64 (h + 2)) 10 := by
    rw [← e9, uR_n (by omega), uR_n (by omega), uR_n (by omega), uR_n (by omega), uR_n (by omega), uR_s]
  have b3 : mi9 (h + 3) = cpR (m64 (g + 3)) (m64 (h + 3)) 5 := by
    rw [← e9, uR_n (by omega), uR_n (by omega), uR_n (by omega), uR_n (by omega), uR_s]
  have b4 : mi9 (h + 4) = cpR (m64 (g + 4)) (m64 (h + 4)) 16 := by
    rw [← e9, uR_n (by omega), uR_n (by omega), uR_n (by omega), uR_s]
  have b5 : mi9 (h + 5) = cpR (m64 (g + 5)) (m64 (h + 5)) 16 := by
    rw [← e9, uR_n (by omega), uR_n (by omega), uR_s]
  have b6 : mi9 (h + 6) = cpR (m64 (g + 6)) (m64 (h + 6)) 16 := by
    rw [← e9, uR_n (by omega), uR_s]
  have b7 : mi9 (h + 7) = cpR (m64 (g + 7)) (m64 (h + 7)) 16 := by
    rw [← e9, uR_s]
  refine ⟨fun p hp => ?_, fun k hk => ?_, fun j hj => ?_, fun j hj => ?_, fun j hj => ?_⟩
  · simp only [List.mem_cons, List.not_mem_nil, or_false, not_or] at hp
    rw [n p hp.2.1 hp.2.2.1 hp.2.2.2.1 hp.2.2.2.2.1 hp.2.2.2.2.2.1 hp.2.2.2.2.2.2.1 hp.2.2.2.2.2.2.2, r p hp.1]
  · rw [n h (by omega) (by omega) (by omega) (by omega) (by omega) (by omega) (by omega), ← e64]
    rcases (show k = 0 ∨ k = 1 ∨ k = 2 ∨ k = 3 ∨ k = 4 ∨ k = 5 ∨ k = 8 ∨ k = 10 by omega) with q | q | q | q | q | q | q | q <;> subst q <;> simp [u2]
  · rw [b1, b2, cpR_y hj, cpR_y hj, r _ (by omega), r _ (by omega)]
    exact ⟨rfl, rfl⟩
  · rw [b3, cpR_y hj, r _ (by omega)]
  · rw [b4, b5, b6, b7, cpR_y hj, cpR_y hj, cpR_y hj, cpR_y hj, r _ (by omega), r _ (by omega), r _ (by omega), r _ (by omega)]
    exact ⟨rfl, rfl, rfl, rfl⟩
set_option maxHeartbeats 1600000 in
set_option maxRecDepth 100000 in
theorem c_X1_takeFrom (l : Launch) (hfl : l.stackTraces = false) (h g : Nat) (hd : isD h) (gd : isD g) (hg : h + 8 ≤ g ∨ g + 8 ≤ h) (mi : MI) (ml : MJ) : Ct l yX1_takeFrom (.code yX1_takeFrom cX1_takeFrom 2 none) 0 0 0 [.ref h, .ref g] (wl mi ml) (QV (fun mi9 ml9 => ml = ml9 ∧ TFS h g mi mi9)) noX := by
  refine Ct_of (ini := false) pn_X1 hfl (fun h => nomatch h) (Nat.le_of_ble_eq_true rfl) ?_
  show E l RX1 cX1_takeFrom 2 none false [] (rmE 0 0 0) (wl mi ml) (TgM (wl mi ml) 0 0 (QV (fun mi9 ml9 => ml = ml9 ∧ TFS h g mi mi9)) noX) 0 0 0 [(0, .ref h), (1, .ref g)] [] (wl mi ml)
  refine E_aload_n 0 dX1_takeFrom_0 rfl rfl ?_
  refine E_aload_n 1 dX1_takeFrom_1 rfl rfl ?_
  refine gf_X1_9 (mi g 0) gd.t rfl rfl dX1_takeFrom_2 ?_
  refine pf_X1_9 hd.t rfl dX1_takeFrom_5 ?_
  refine E_aload_n 0 dX1_takeFrom_8 rfl rfl ?_
  refine E_aload_n 1 dX1_takeFrom_9 rfl rfl ?_
  refine gf_X1_15 (mi g 1) gd.t rfl ((u2_n (by omega)).trans rfl) dX1_takeFrom_10 ?_
  refine pf_X1_15 hd.t rfl dX1_takeFrom_13 ?_
  refine E_aload_n 0 dX1_takeFrom_16 rfl rfl ?_
  refine E_aload_n 1 dX1_takeFrom_17 rfl rfl ?_
  refine gf_X1_18 (mi g 2) gd.t rfl ((u2_n (by omega)).trans ((u2_n (by omega)).trans rfl)) dX1_takeFrom_18 ?_
  refine pf_X1_18 hd.t rfl dX1_takeFrom_21 ?_
  refine E_aload_n 0 dX1_takeFrom_24 rfl rfl ?_
  refine E_aload_n 1 dX1_takeFrom_25 rfl rfl ?_
  refine gf_X1_21 (mi g 3) gd.t rfl ((u2_n (by omega)).trans ((u2_n (by omega)).trans ((u2_n (by omega)).trans rfl))) dX1_takeFrom_26 ?_
  refine pf_X1_21 hd.t rfl dX1_takeFrom_29 ?_
  refine E_aload_n 0 dX1_takeFrom_32 rfl rfl ?_
  refine E_aload_n 1 dX1_takeFrom_33 rfl rfl ?_
  refine gf_X1_24 (mi g 4) gd.t rfl ((u2_n (by omega)).trans ((u2_n (by omega)).trans ((u2_n (by omega)).trans ((u2_n (by omega)).trans rfl)))) dX1_takeFrom_34 ?_
  refine pf_X1_24 hd.t rfl dX1_takeFrom_37 ?_
  refine E_aload_n 0 dX1_takeFrom_40 rfl rfl ?_
  refine E_aload_n 1 dX1_takeFrom_41 rfl rfl ?_
  refine gf_X1_49 (mi g 5) gd.t rfl ((u2_n (by omega)).trans ((u2_n (by omega)).trans ((u2_n (by omega)).trans ((u2_n (by omega)).trans ((u2_n (by omega)).trans rfl))))) dX1_takeFrom_42 ?_
  refine pf_X1_49 hd.t rfl dX1_takeFrom_45 ?_
  refine E_aload_n 0 dX1_takeFrom_48 rfl rfl ?_
  refine E_aload_n 1 dX1_takeFrom_49 rfl rfl ?_
  refine gf_X1_52 (mi g 8) gd.t rfl ((u2_n (by omega)).trans ((u2_n (by omega)).trans ((u2_n (by omega)).trans ((u2_n (by omega)).trans ((u2_n (by omega)).trans ((u2_n (by omega)).trans rfl)))))) dX1_takeFrom_50 ?_
  refine pf_X1_52 hd.t rfl dX1_takeFrom_53 ?_
  refine E_aload_n 0 dX1_takeFrom_56 rfl rfl ?_
  refine E_aload_n 1 dX1_takeFrom_57 rfl rfl ?_
  refine gf_X1_55 (mi g 10) gd.t rfl ((u2_n (by omega)).trans ((u2_n (by omega)).trans ((u2_n (by omega)).trans ((u2_n (by omega)).trans ((u2_n (by omega)).trans ((u2_n (by omega)).trans ((u2_n (by omega)).trans rfl))))))) dX1_takeFrom_58 ?_
  refine pf_X1_55 hd.t rfl dX1_takeFrom_61 ?_
  generalize e64 : (u2 (u2 (u2 (u2 (u2 (u2 (u2 (u2 mi h 0 (mi g 0)) h 1 (mi g 1)) h 2 (mi g 2)) h 3 (mi g 3)) h 4 (mi g 4)) h 5 (mi g 5)) h 8 (mi g 8)) h 10 (mi g 10)) = m64
  refine E_aload_n 1 dX1_takeFrom_64 rfl rfl ?_
  refine gf_X1_27 gd.t rfl dX1_takeFrom_65 ?_
  refine E_iconst 0 (by decide) dX1_takeFrom_68 ?_
  refine E_aload_n 0 dX1_takeFrom_69 rfl rfl ?_
  refine gf_X1_27 hd.t rfl dX1_takeFrom_70 ?_
  refine E_iconst 0 (by decide) dX1_takeFrom_73 ?_
  refine E_bipush 10 (by decide) dX1_takeFrom_74 ?_
  refine S_copyR 10 (m64 (g + 1)) (m64 (h + 1)) rfl rfl wl_X1_58 gd.a1 hd.a1 rfl (by decide) (by decide) ⟨Nat.le_of_ble_eq_true rfl, Nat.le_of_ble_eq_true rfl⟩ dX1_takeFrom_76 ?_
  refine E_aload_n 1 dX1_takeFrom_79 rfl rfl ?_
  refine gf_X1_31 gd.t rfl dX1_takeFrom_80 ?_
  refine E_iconst 0 (by decide) dX1_takeFrom_83 ?_
  refine E_aload_n 0 dX1_takeFrom_84 rfl rfl ?_
  refine gf_X1_31 hd.t rfl dX1_takeFrom_85 ?_
  refine E_iconst 0 (by decide) dX1_takeFrom_88 ?_
  refine E_bipush 10 (by decide) dX1_takeFrom_89 ?_
  refine S_copyR 10 (m64 (g + 2)) (m64 (h + 2)) (uR_n (by omega)) (uR_n (by omega)) wl_X1_58 gd.a2 hd.a2 rfl (by decide) (by decide) ⟨Nat.le_of_ble_eq_true rfl, Nat.le_of_ble_eq_true rfl⟩ dX1_takeFrom_91 ?_
  refine E_aload_n 1 dX1_takeFrom_94 rfl rfl ?_
  refine gf_X1_34 gd.t rfl dX1_takeFrom_95 ?_
  refine E_iconst 0 (by decide) dX1_takeFrom_98 ?_
  refine E_aload_n 0 dX1_takeFrom_99 rfl rfl ?_
  refine gf_X1_34 hd.t rfl dX1_takeFrom_100 ?_
  refine E_iconst 0 (by decide) dX1_takeFrom_103 ?_
  refine E_iconst 5 (by decide) dX1_takeFrom_104 ?_
  refine S_copyR 5 (m64 (g + 3)) (m64 (h + 3)) ((uR_n (by omega)).trans (uR_n (by omega))) ((uR_n (by omega)).trans (uR_n (by omega))) wl_X1_58 gd.a3 hd.a3 rfl (by decide) (by decide) ⟨Nat.le_of_ble_eq_true rfl, Nat.le_of_ble_eq_true rfl⟩ dX1_takeFrom_105 ?_
  refine E_aload_n 1 dX1_takeFrom_108 rfl rfl ?_
  refine gf_X1_37 gd.t rfl dX1_takeFrom_109 ?_
  refine E_iconst 0 (by decide) dX1_takeFrom_112 ?_
  refine E_aload_n 0 dX1_takeFrom_113 rfl rfl ?_
  refine gf_X1_37 hd.t rfl dX1_takeFrom_114 ?_
  refine E_iconst 0 (by decide) dX1_takeFrom_117 ?_
  refine E_bipush 16 (by decide) dX1_takeFrom_118 ?_
  refine S_copyR 16 (m64 (g + 4)) (m64 (h + 4)) ((uR_n (by omega)).trans ((uR_n (by omega)).trans (uR_n (by omega)))) ((uR_n (by omega)).trans ((uR_n (by omega)).trans (uR_n (by omega)))) wl_X1_58 gd.a4 hd.a4 rfl (by decide) (by decide) ⟨Nat.le_of_ble_eq_true rfl, Nat.le_of_ble_eq_true rfl⟩ dX1_takeFrom_120 ?_
  refine E_aload_n 1 dX1_takeFrom_123 rfl rfl ?_
  refine gf_X1_40 gd.t rfl dX1_takeFrom_124 ?_
  refine E_iconst 0 (by decide) dX1_takeFrom_127 ?_
  refine E_aload_n 0 dX1_takeFrom_128 rfl rfl ?_
  refine gf_X1_40 hd.t rfl dX1_takeFrom_129 ?_
  refine E_iconst 0 (by decide) dX1_takeFrom_132 ?_
  refine E_bipush 16 (by decide) dX1_takeFrom_133 ?_
  refine S_copyR 16 (m64 (g + 5)) (m64 (h + 5)) ((uR_n (by omega)).trans ((uR_n (by omega)).trans ((uR_n (by omega)).trans (uR_n (by omega))))) ((uR_n (by omega)).trans ((uR_n (by omega)).trans ((uR_n (by omega)).trans (uR_n (by omega))))) wl_X1_58 gd.a5 hd.a5 rfl (by decide) (by decide) ⟨Nat.le_of_ble_eq_true rfl, Nat.le_of_ble_eq_true rfl⟩ dX1_takeFrom_135 ?_
  refine E_aload_n 1 dX1_takeFrom_138 rfl rfl ?_
  refine gf_X1_43 gd.t rfl dX1_takeFrom_139 ?_
  refine E_iconst 0 (by decide) dX1_takeFrom_142 ?_
  refine E_aload_n 0 dX1_takeFrom_143 rfl rfl ?_
  refine gf_X1_43 hd.t rfl dX1_takeFrom_144 ?_
  refine E_iconst 0 (by decide) dX1_takeFrom_147 ?_
  refine E_bipush 16 (by decide) dX1_takeFrom_148 ?_
  refine S_copyR 16 (m64 (g + 6)) (m64 (h + 6)) ((uR_n (by omega)).trans ((uR_n (by omega)).trans ((uR_n (by omega)).trans ((uR_n (by omega)).trans (uR_n (by omega)))))) ((uR_n (by omega)).trans ((uR_n (by omega)).trans ((uR_n (by omega)).trans ((uR_n (by omega)).trans (uR_n (by omega)))))) wl_X1_58 gd.a6 hd.a6 rfl (by decide) (by decide) ⟨Nat.le_of_ble_eq_true rfl, Nat.le_of_ble_eq_true rfl⟩ dX1_takeFrom_150 ?_
  refine E_aload_n 1 dX1_takeFrom_153 rfl rfl ?_
  refine gf_X1_46 gd.t rfl dX1_takeFrom_154 ?_
  refine E_iconst 0 (by decide) dX1_takeFrom_157 ?_
  refine E_aload_n 0 dX1_takeFrom_158 rfl rfl ?_
  refine gf_X1_46 hd.t rfl dX1_takeFrom_159 ?_
  refine E_iconst 0 (by decide) dX1_takeFrom_162 ?_
  refine E_bipush 16 (by decide) dX1_takeFrom_163 ?_
  refine S_copyR 16 (m64 (g + 7)) (m64 (h + 7)) ((uR_n (by omega)).trans ((uR_n (by omega)).trans ((uR_n (by omega)).trans ((uR_n (by omega)).trans ((uR_n (by omega)).trans (uR_n (by omega))))))) ((uR_n (by omega)).trans ((uR_n (by omega)).trans ((uR_n (by omega)).trans ((uR_n (by omega)).trans ((uR_n (by omega)).trans (uR_n (by omega))))))) wl_X1_58 gd.a7 hd.a7 rfl (by decide) (by decide) ⟨Nat.le_of_ble_eq_true rfl, Nat.le_of_ble_eq_true rfl⟩ dX1_takeFrom_165 ?_
  refine E_vret rfl (Nat.le_of_ble_eq_true rfl) (Nat.le_of_ble_eq_true rfl) dX1_takeFrom_168 ?_
  exact okQV ⟨rfl, TFS_i hg e64 rfl⟩
/-- the desk at h shows the block V -/
def DR (h : Nat) (mi : MI) (V : Nat → Int32) : Prop :=
  (mi h 0 = V 0 ∧ mi h 1 = V 1 ∧ mi h 2 = V 2 ∧ mi h 3 = V 3 ∧ mi h 4 = V 4) ∧ (mi h 5 = V 5 ∧ mi h 8 = V 26 ∧ mi h 10 = V 32) ∧
  (∀ c : Nat, (c : Int) < (V 5).toInt → mi (h + 1) c = V (6 + 2 * c) ∧ mi (h + 2) c = V (7 + 2 * c)) ∧
  (∀ k : Nat, (k : Int) < (V 26).toInt → mi (h + 3) k = V (27 + k)) ∧
  (∀ t : Nat, (t : Int) < (V 32).toInt → mi (h + 4) t = V (33 + 3 * t) ∧ mi (h + 5) t = V (34 + 3 * t) ∧ mi (h + 6) t = V (35 + 3 * t) ∧ (mi (h + 7) t).toInt = (hbS V (V 5).toInt.toNat (tA V t) (tC V t) (V 26).toInt.toNat : Int))
theorem DR.fr {h : Nat} {mi mi9 : MI} {V : Nat → Int32} (H : DR h mi V) (e : ∀ q, q < 8 → mi9 (h + q) = mi (h + q)) : DR h mi9 V := by
  have e0 : mi9 h = mi h := e 0 (by decide)
  unfold DR at H ⊢
  rw [e0, e 1 (by decide), e 2 (by decide), e 3 (by decide), e 4 (by decide), e 5 (by decide), e 6 (by decide), e 7 (by decide)]
  exact H
theorem DR.take {h g : Nat} {mi mi9 : MI} {V : Nat → Int32} (H : DR g mi V) (hw : WFV V) (T : TFS h g mi mi9) : DR h mi9 V := by
  obtain ⟨a1, a2, a3, a4, a5⟩ := H
  obtain ⟨_, t1, t2, t3, t4⟩ := T
  have h1 := hw.2.1
  refine ⟨?_, ?_, fun c hc => ?_, fun k hk => ?_, fun t ht => ?_⟩
  · rw [t1 0 (by omega), t1 1 (by omega), t1 2 (by omega), t1 3 (by omega), t1 4 (by omega)]
    exact a1
  · rw [t1 5 (by omega), t1 8 (by omega), t1 10 (by omega)]
    exact a2
  · rw [(t2 c (by omega)).1, (t2 c (by omega)).2]
    exact a3 c hc
  · rw [t3 k (by omega)]
    exact a4 k hk
  · have h2 := t4 t (by omega)
    rw [h2.1, h2.2.1, h2.2.2.1, h2.2.2.2]
    exact a5 t ht
theorem tw18 {i : Nat} (h : i < 4) : svF i = some (19 + 8 * i) := by
  rcases (show i = 0 ∨ i = 1 ∨ i = 2 ∨ i = 3 by omega) with q | q | q | q <;> subst q <;> rfl
theorem isD_s {i : Nat} (h : i < 4) : isD (19 + 8 * i) := by unfold isD; omega
theorem TFS.far {h g : Nat} {mi mi9 : MI} (T : TFS h g mi mi9) {q : Nat} (hq : q < h ∨ h + 8 ≤ q) : mi9 q = mi q := T.1 q (by simp only [List.mem_cons, List.not_mem_nil, or_false, not_or]; omega)
def PUS (p sz : Nat) (mi mi9 : MI) : Prop := (∀ g, g ≠ 17 → (g < 19 + 8 * ((p + 1) % 4) ∨ 27 + 8 * ((p + 1) % 4) ≤ g) → mi9 g = mi g) ∧ (mi9 17 1).toInt = (((p + 1) % 4 : Nat) : Int) ∧ (mi9 17 2).toInt = (min (sz + 1) 4 : Nat) ∧ ∀ V, WFV V → DR 1 mi V → DR (19 + 8 * ((p + 1) % 4)) mi9 V
def POS (p sz : Nat) (mi mi9 : MI) : Prop := (∀ g, g ≠ 17 → (g < 1 ∨ 9 ≤ g) → mi9 g = mi g) ∧ (mi9 17 1).toInt = (((p + 3) % 4 : Nat) : Int) ∧ (mi9 17 2).toInt = (sz - 1 : Nat) ∧ ∀ V, WFV V → DR (19 + 8 * p) mi V → DR 1 mi9 V
theorem PUS_i {p sz i h : Nat} {mi mk : MI} {x y : Int32} (hp4 : p < 4) (hi : i = (p + 1) % 4) (hh : 19 + 8 * i = h) (hx : x.toInt = (i : Int)) (T : TFS h 1 (u2 mi 17 1 x) mk) (hy : y.toInt = ((min (sz + 1) 4 : Nat) : Int)) : PUS p sz mi (u2 mk 17 2 y) := by
  subst hh hi
  refine ⟨fun g h1 h2 => ?_, ?_, ?_, fun V hw hD => ?_⟩
  · rw [u2_p h1, T.far (by omega), u2_p h1]
  · rw [u2_n (by omega), T.far (by omega), u2_s]
    exact hx
  · rw [u2_s]
    exact hy
  · exact ((hD.fr (mi9 := u2 mi 17 1 x) (fun q hq => u2_p (by omega))).take hw T).fr (fun q hq => u2_p (by omega))
theorem POS_i {p sz h : Nat} {mi mk : MI} {x y : Int32} (hp4 : p < 4) (hh : 19 + 8 * p = h) (T : TFS 1 h mi mk) (hx : x.toInt = (((p + 3) % 4 : Nat) : Int)) (hy : y.toInt = ((sz - 1 : Nat) : Int)) : POS p sz mi (u2 (u2 mk 17 1 x) 17 2 y) := by
  subst hh
  refine ⟨fun g h1 h2 => ?_, ?_, ?_, fun V hw hD => ?_⟩
  · rw [u2_p h1, u2_p h1, T.far (by omega)]
  · rw [u2_n (by omega), u2_s]
    exact hx
  · rw [u2_s]
    exact hy
  · exact (hD.take hw T).fr (fun q hq => by rw [u2_p (by omega), u2_p (by omega)])
set_option maxHeartbeats 1600000 in
set_option maxRecDepth 100000 in
theorem c_X2_deskAt (l : Launch) (hfl : l.stackTraces = false) (mi : MI) (ml : MJ) (xi : Int32) (i : Nat) (hi : xi.toInt = (i : Int)) (h4 : i < 4) (h : Nat) (hh : 19 + 8 * i = h) : Ct l yX2_deskAt (.code yX2_deskAt cX2_deskAt 2 (some (.object "ChannelSpacer$Desk"))) 0 0 0 [.ref 17, .int xi] (wl mi ml) (QP (some (.ref h)) (wl mi ml)) noX := by
  refine Ct_of (ini := false) pn_X2 hfl (fun h => nomatch h) (Nat.le_of_ble_eq_true rfl) ?_
  show E l RX2 cX2_deskAt 2 (some (.object "ChannelSpacer$Desk")) false [] (rmE 0 0 0) (wl mi ml) (TgM (wl mi ml) 0 0 (QP (some (.ref h)) (wl mi ml)) noX) 0 0 0 [(0, .ref 17), (1, .int xi)] [] (wl mi ml)
  refine E_iload_n 1 dX2_deskAt_0 rfl rfl ?_
  refine Y_lt (i : Int) hi 18 dX2_deskAt_1 (by decide) (fun c_1 => ?_) (fun c_1 => ?_)
  · exact absurd c_1 (by omega)
  · skip
    refine E_iload_n 1 dX2_deskAt_4 rfl rfl ?_
    refine E_iconst 4 (by decide) dX2_deskAt_5 ?_
    refine Z_ge (i : Int) 4 hi (show (4 : Int32).toInt = 4 from rfl) 18 dX2_deskAt_6 (by decide) (fun c_6 => ?_) (fun c_6 => ?_)
    · exact absurd c_6 (by omega)
    · skip
      refine E_aload_n 0 dX2_deskAt_9 rfl rfl ?_
      refine gf_X2_11 tw_17 rfl dX2_deskAt_10 ?_
      refine E_iload_n 1 dX2_deskAt_13 rfl rfl ?_
      refine S_aald i tw_18 hi h4 ((tw18 h4).trans (congrArg some hh)) dX2_deskAt_14 ?_
      refine E_goto 19 dX2_deskAt_15 (by decide) ?_
      refine E_aret rfl (Nat.le_of_ble_eq_true rfl) (Nat.le_of_ble_eq_true rfl) dX2_deskAt_19 ?_
      exact ⟨rfl, rfl⟩
set_option maxHeartbeats 1600000 in
set_option maxRecDepth 100000 in
theorem c_X2_push (l : Launch) (hfl : l.stackTraces = false) (mi : MI) (ml : MJ) (p sz : Nat) (hp : (mi 17 1).toInt = (p : Int)) (hp4 : p < 4) (hsz : (mi 17 2).toInt = (sz : Int)) (hs4 : sz ≤ 4) : Ct l yX2_push (.code yX2_push cX2_push 3 none) 1 0 0 [.ref 17, .ref 1] (wl mi ml) (QV (fun mi9 ml9 => ml = ml9 ∧ PUS p sz mi mi9)) noX := by
  refine Ct_of (ini := false) pn_X2 hfl (fun h => nomatch h) (Nat.le_of_ble_eq_true rfl) ?_
  show E l RX2 cX2_push 3 none false [] (rmE 1 0 0) (wl mi ml) (TgM (wl mi ml) 0 0 (QV (fun mi9 ml9 => ml = ml9 ∧ PUS p sz mi mi9)) noX) 0 0 0 [(0, .ref 17), (1, .ref 1)] [] (wl mi ml)
  refine E_aload_n 0 dX2_push_0 rfl rfl ?_
  refine E_aload_n 0 dX2_push_1 rfl rfl ?_
  refine gf_X2_18 (mi 17 1) tw_17 rfl rfl dX2_push_2 ?_
  refine E_iconst 1 (by decide) dX2_push_5 ?_
  refine E_iadd dX2_push_6 ?_
  refine E_iconst 4 (by decide) dX2_push_7 ?_
  refine Z_ge ((p : Int) + 1) 4 (tI_add hp (show (1 : Int32).toInt = 1 from rfl) (by omega)) (show (4 : Int32).toInt = 4 from rfl) 20 dX2_push_8 (by decide) (fun c_8 => ?_) (fun c_8 => ?_)
  · skip
    refine E_iconst 0 (by decide) dX2_push_20 ?_
    refine pf_X2_18 tw_17 rfl dX2_push_21 ?_
    refine E_aload_n 0 dX2_push_24 rfl rfl ?_
    refine E_aload_n 0 dX2_push_25 rfl rfl ?_
    refine gf_X2_18 0 tw_17 rfl (u2_s _ _ _ _) dX2_push_26 ?_
    obtain ⟨h, eh⟩ : ∃ h, 19 + 8 * 0 = h := ⟨_, rfl⟩
    have hd : isD h := eh ▸ isD_s (i := 0) (by omega)
    refine E_callV (c_X2_deskAt l hfl (u2 mi 17 1 0) ml 0 0 ((show (0 : Int32).toInt = 0 from rfl).trans (by omega)) (by omega) h eh) cw_X2_22 (As := [.int 0]) (st := []) wi_yX2_deskAt we_yX2_deskAt (ci := 2) (q := (RX2, TX2, 3)) rfl rfl (wl_atO tw_17) rfl ⟨Nat.le_of_ble_eq_true rfl, Nat.le_of_ble_eq_true rfl, Nat.le_of_ble_eq_true rfl, Nat.le_of_ble_eq_true rfl⟩ (Nat.le_of_ble_eq_true rfl) dX2_push_29 (fun _ _ h => h) rfl (kE ?_)
    refine E_astore_n [(2, .ref h), (0, .ref 17), (1, .ref 1)] dX2_push_32 rfl (by decide) rfl ?_
    refine E_aload_n 0 dX2_push_33 rfl rfl ?_
    refine E_ifnull_ref dX2_push_34 ?_
    refine E_aload_n 0 dX2_push_37 rfl rfl ?_
    refine E_aload_n 2 dX2_push_38 rfl rfl ?_
    refine E_callV (c_X1_takeFrom l hfl h 1 hd isD_1 (by omega) (u2 mi 17 1 0) ml) cw_X2_26 (As := [.ref 1]) (st := []) wi_yX1_takeFrom we_yX1_takeFrom (ci := 1) (q := (RX1, TX1, 15)) rfl rfl (wl_atO hd.t) rfl ⟨Nat.le_of_ble_eq_true rfl, Nat.le_of_ble_eq_true rfl, Nat.le_of_ble_eq_true rfl, Nat.le_of_ble_eq_true rfl⟩ (Nat.le_of_ble_eq_true rfl) dX2_push_39 (fun _ _ h => h) rfl (kV (fun mi_39 ml_39 h_39 => ?_))
    obtain ⟨rfl, h_39⟩ := h_39
    refine E_aload_n 1 dX2_push_42 rfl rfl ?_
    refine E_aload_n 1 dX2_push_43 rfl rfl ?_
    refine gf_X2_30 (mi 17 2) tw_17 rfl ((congrFun (h_39.far (by omega)) 2).trans ((u2_n (by omega)).trans rfl)) dX2_push_44 ?_
    refine E_iconst 1 (by decide) dX2_push_47 ?_
    refine E_iadd dX2_push_48 ?_
    refine E_iconst 4 (by decide) dX2_push_49 ?_
    refine E_min wl_X2_33 ws_min wz_Math wc_min ⟨Nat.le_of_ble_eq_true rfl, Nat.le_of_ble_eq_true rfl, Nat.le_of_ble_eq_true rfl, Nat.le_of_ble_eq_true rfl⟩ dX2_push_50 ?_
    refine pf_X2_30 tw_17 rfl dX2_push_53 ?_
    refine E_vret rfl (Nat.le_of_ble_eq_true rfl) (Nat.le_of_ble_eq_true rfl) dX2_push_56 ?_
    exact okQV ⟨rfl, PUS_i (i := 0) hp4 (by omega) eh ((show (0 : Int32).toInt = 0 from rfl).trans (by omega)) h_39 ((tI_mn (tI_add hsz (show (1 : Int32).toInt = 1 from rfl) (by omega)) (show (4 : Int32).toInt = 4 from rfl)).trans (by omega))⟩
  · skip
    refine E_aload_n 0 dX2_push_11 rfl rfl ?_
    refine gf_X2_18 (mi 17 1) tw_17 rfl rfl dX2_push_12 ?_
    refine E_iconst 1 (by decide) dX2_push_15 ?_
    refine E_iadd dX2_push_16 ?_
    refine E_goto 21 dX2_push_17 (by decide) ?_
    refine pf_X2_18 tw_17 rfl dX2_push_21 ?_
    refine E_aload_n 0 dX2_push_24 rfl rfl ?_
    refine E_aload_n 0 dX2_push_25 rfl rfl ?_
    refine gf_X2_18 ((mi 17 1) + 1) tw_17 rfl (u2_s _ _ _ _) dX2_push_26 ?_
    obtain ⟨h, eh⟩ : ∃ h, 19 + 8 * (p + 1) = h := ⟨_, rfl⟩
    have hd : isD h := eh ▸ isD_s (i := (p + 1)) (by omega)
    refine E_callV (c_X2_deskAt l hfl (u2 mi 17 1 ((mi 17 1) + 1)) ml ((mi 17 1) + 1) (p + 1) ((tI_add hp (show (1 : Int32).toInt = 1 from rfl) (by omega)).trans (by omega)) (by omega) h eh) cw_X2_22 (As := [.int ((mi 17 1) + 1)]) (st := []) wi_yX2_deskAt we_yX2_deskAt (ci := 2) (q := (RX2, TX2, 3)) rfl rfl (wl_atO tw_17) rfl ⟨Nat.le_of_ble_eq_true rfl, Nat.le_of_ble_eq_true rfl, Nat.le_of_ble_eq_true rfl, Nat.le_of_ble_eq_true rfl⟩ (Nat.le_of_ble_eq_true rfl) dX2_push_29 (fun _ _ h => h) rfl (kE ?_)
    refine E_astore_n [(2, .ref h), (0, .ref 17), (1, .ref 1)] dX2_push_32 rfl (by decide) rfl ?_
    refine E_aload_n 0 dX2_push_33 rfl rfl ?_
    refine E_ifnull_ref dX2_push_34 ?_
    refine E_aload_n 0 dX2_push_37 rfl rfl ?_
    refine E_aload_n 2 dX2_push_38 rfl rfl ?_
    refine E_callV (c_X1_takeFrom l hfl h 1 hd isD_1 (by omega) (u2 mi 17 1 ((mi 17 1) + 1)) ml) cw_X2_26 (As := [.ref 1]) (st := []) wi_yX1_takeFrom we_yX1_takeFrom (ci := 1) (q := (RX1, TX1, 15)) rfl rfl (wl_atO hd.t) rfl ⟨Nat.le_of_ble_eq_true rfl, Nat.le_of_ble_eq_true rfl, Nat.le_of_ble_eq_true rfl, Nat.le_of_ble_eq_true rfl⟩ (Nat.le_of_ble_eq_true rfl) dX2_push_39 (fun _ _ h => h) rfl (kV (fun mi_39 ml_39 h_39 => ?_))
    obtain ⟨rfl, h_39⟩ := h_39
    refine E_aload_n 1 dX2_push_42 rfl rfl ?_
    refine E_aload_n 1 dX2_push_43 rfl rfl ?_
    refine gf_X2_30 (mi 17 2) tw_17 rfl ((congrFun (h_39.far (by omega)) 2).trans ((u2_n (by omega)).trans rfl)) dX2_push_44 ?_
    refine E_iconst 1 (by decide) dX2_push_47 ?_
    refine E_iadd dX2_push_48 ?_
    refine E_iconst 4 (by decide) dX2_push_49 ?_
    refine E_min wl_X2_33 ws_min wz_Math wc_min ⟨Nat.le_of_ble_eq_true rfl, Nat.le_of_ble_eq_true rfl, Nat.le_of_ble_eq_true rfl, Nat.le_of_ble_eq_true rfl⟩ dX2_push_50 ?_
    refine pf_X2_30 tw_17 rfl dX2_push_53 ?_
    refine E_vret rfl (Nat.le_of_ble_eq_true rfl) (Nat.le_of_ble_eq_true rfl) dX2_push_56 ?_
    exact okQV ⟨rfl, PUS_i (i := (p + 1)) hp4 (by omega) eh ((tI_add hp (show (1 : Int32).toInt = 1 from rfl) (by omega)).trans (by omega)) h_39 ((tI_mn (tI_add hsz (show (1 : Int32).toInt = 1 from rfl) (by omega)) (show (4 : Int32).toInt = 4 from rfl)).trans (by omega))⟩
set_option maxHeartbeats 1600000 in
set_option maxRecDepth 100000 in
theorem c_X2_popInto (l : Launch) (hfl : l.stackTraces = false) (mi : MI) (ml : MJ) (p sz : Nat) (hp : (mi 17 1).toInt = (p : Int)) (hp4 : p < 4) (hsz : (mi 17 2).toInt = (sz : Int)) (hs4 : sz ≤ 4) (h : Nat) (eh : 19 + 8 * p = h) : Ct l yX2_popInto (.code yX2_popInto cX2_popInto 3 none) 1 0 0 [.ref 17, .ref 1] (wl mi ml) (QV (fun mi9 ml9 => ml = ml9 ∧ POS p sz mi mi9)) noX := by
  refine Ct_of (ini := false) pn_X2 hfl (fun h => nomatch h) (Nat.le_of_ble_eq_true rfl) ?_
  show E l RX2 cX2_popInto 3 none false [] (rmE 1 0 0) (wl mi ml) (TgM (wl mi ml) 0 0 (QV (fun mi9 ml9 => ml = ml9 ∧ POS p sz mi mi9)) noX) 0 0 0 [(0, .ref 17), (1, .ref 1)] [] (wl mi ml)
  refine E_aload_n 0 dX2_popInto_0 rfl rfl ?_
  refine E_aload_n 0 dX2_popInto_1 rfl rfl ?_
  refine gf_X2_18 (mi 17 1) tw_17 rfl rfl dX2_popInto_2 ?_
  have hd : isD h := eh ▸ isD_s (i := p) (by omega)
  refine E_callV (c_X2_deskAt l hfl mi ml (mi 17 1) p (hp.trans (by omega)) (by omega) h eh) cw_X2_22 (As := [.int (mi 17 1)]) (st := []) wi_yX2_deskAt we_yX2_deskAt (ci := 2) (q := (RX2, TX2, 3)) rfl rfl (wl_atO tw_17) rfl ⟨Nat.le_of_ble_eq_true rfl, Nat.le_of_ble_eq_true rfl, Nat.le_of_ble_eq_true rfl, Nat.le_of_ble_eq_true rfl⟩ (Nat.le_of_ble_eq_true rfl) dX2_popInto_5 (fun _ _ h => h) rfl (kE ?_)
  refine E_astore_n [(2, .ref h), (0, .ref 17), (1, .ref 1)] dX2_popInto_8 rfl (by decide) rfl ?_
  refine E_aload_n 0 dX2_popInto_9 rfl rfl ?_
  refine E_ifnull_ref dX2_popInto_10 ?_
  refine E_aload_n 2 dX2_popInto_13 rfl rfl ?_
  refine E_aload_n 0 dX2_popInto_14 rfl rfl ?_
  refine E_callV (c_X1_takeFrom l hfl 1 h isD_1 hd (by omega) mi ml) cw_X2_26 (As := [.ref h]) (st := []) wi_yX1_takeFrom we_yX1_takeFrom (ci := 1) (q := (RX1, TX1, 15)) rfl rfl (wl_atO isD_1.t) rfl ⟨Nat.le_of_ble_eq_true rfl, Nat.le_of_ble_eq_true rfl, Nat.le_of_ble_eq_true rfl, Nat.le_of_ble_eq_true rfl⟩ (Nat.le_of_ble_eq_true rfl) dX2_popInto_15 (fun _ _ h => h) rfl (kV (fun mi_15 ml_15 h_15 => ?_))
  obtain ⟨rfl, h_15⟩ := h_15
  refine E_aload_n 1 dX2_popInto_18 rfl rfl ?_
  refine E_aload_n 1 dX2_popInto_19 rfl rfl ?_
  refine gf_X2_18 (mi 17 1) tw_17 rfl (congrFun (h_15.far (by omega)) 1) dX2_popInto_20 ?_
  refine Y_le (p : Int) hp 35 dX2_popInto_23 (by decide) (fun c_23 => ?_) (fun c_23 => ?_)
  · skip
    refine E_iconst 3 (by decide) dX2_popInto_35 ?_
    refine pf_X2_18 tw_17 rfl dX2_popInto_36 ?_
    refine E_aload_n 1 dX2_popInto_39 rfl rfl ?_
    refine E_aload_n 1 dX2_popInto_40 rfl rfl ?_
    refine gf_X2_30 (mi 17 2) tw_17 rfl ((u2_n (by omega)).trans (congrFun (h_15.far (by omega)) 2)) dX2_popInto_41 ?_
    refine E_iconst 1 (by decide) dX2_popInto_44 ?_
    refine E_isub dX2_popInto_45 ?_
    refine E_iconst 0 (by decide) dX2_popInto_46 ?_
    refine E_max wl_X2_39 ws_max wz_Math wc_max ⟨Nat.le_of_ble_eq_true rfl, Nat.le_of_ble_eq_true rfl, Nat.le_of_ble_eq_true rfl, Nat.le_of_ble_eq_true rfl⟩ dX2_popInto_47 ?_
    refine pf_X2_30 tw_17 rfl dX2_popInto_50 ?_
    refine E_vret rfl (Nat.le_of_ble_eq_true rfl) (Nat.le_of_ble_eq_true rfl) dX2_popInto_53 ?_
    exact okQV ⟨rfl, POS_i hp4 eh h_15 ((show (3 : Int32).toInt = 3 from rfl).trans (by omega)) ((tI_mx (tI_sub hsz (show (1 : Int32).toInt = 1 from rfl) (by omega)) (show (0 : Int32).toInt = 0 from rfl)).trans (by omega))⟩
  · skip
    refine E_aload_n 1 dX2_popInto_26 rfl rfl ?_
    refine gf_X2_18 (mi 17 1) tw_17 rfl (congrFun (h_15.far (by omega)) 1) dX2_popInto_27 ?_
    refine E_iconst 1 (by decide) dX2_popInto_30 ?_
    refine E_isub dX2_popInto_31 ?_
    refine E_goto 36 dX2_popInto_32 (by decide) ?_
    refine pf_X2_18 tw_17 rfl dX2_popInto_36 ?_
    refine E_aload_n 1 dX2_popInto_39 rfl rfl ?_
    refine E_aload_n 1 dX2_popInto_40 rfl rfl ?_
    refine gf_X2_30 (mi 17 2) tw_17 rfl ((u2_n (by omega)).trans (congrFun (h_15.far (by omega)) 2)) dX2_popInto_41 ?_
    refine E_iconst 1 (by decide) dX2_popInto_44 ?_
    refine E_isub dX2_popInto_45 ?_
    refine E_iconst 0 (by decide) dX2_popInto_46 ?_
    refine E_max wl_X2_39 ws_max wz_Math wc_max ⟨Nat.le_of_ble_eq_true rfl, Nat.le_of_ble_eq_true rfl, Nat.le_of_ble_eq_true rfl, Nat.le_of_ble_eq_true rfl⟩ dX2_popInto_47 ?_
    refine pf_X2_30 tw_17 rfl dX2_popInto_50 ?_
    refine E_vret rfl (Nat.le_of_ble_eq_true rfl) (Nat.le_of_ble_eq_true rfl) dX2_popInto_53 ?_
    exact okQV ⟨rfl, POS_i hp4 eh h_15 ((tI_sub hp (show (1 : Int32).toInt = 1 from rfl) (by omega)).trans (by omega)) ((tI_mx (tI_sub hsz (show (1 : Int32).toInt = 1 from rfl) (by omega)) (show (0 : Int32).toInt = 0 from rfl)).trans (by omega))⟩
end HIS
