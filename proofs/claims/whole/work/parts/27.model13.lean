section MO13
/-- the tests: carriers, channel -/
def tA (V : Nat → Int32) (t : Nat) : Nat := (V (33 + 3 * t)).toInt.toNat
def tC (V : Nat → Int32) (t : Nat) : Nat := (V (34 + 3 * t)).toInt.toNat
theorem WFV_t {V : Nat → Int32} {n t : Nat} (h : WFV V) (hn : (V 5).toInt = (n : Int)) (h10 : n ≤ 10) (ht : (t : Int) < (V 32).toInt) : (V (33 + 3 * t)).toInt = (tA V t : Int) ∧ tA V t < 1024 ∧ (V (34 + 3 * t)).toInt = (tC V t : Int) ∧ tC V t < 64 ∧ (V (35 + 3 * t) = 0 ∨ V (35 + 3 * t) = 1) := by
  have h1 := h.2.2.2.2.2 t ht
  have h2 := Nat.pow_le_pow_right (show 0 < 2 by omega) h10
  have h3 : (V 5).toInt.toNat = n := by omega
  rw [h3] at h1
  unfold tA tC
  exact ⟨by omega, by omega, by omega, by omega, h1.2.2⟩
def fitT (V : Nat → Int32) (n nm s t : Nat) : Prop := (hbS V n (tA V t) (tC V t) nm &&& s) ≠ 0 ↔ V (35 + 3 * t) = 1
def fitN (V : Nat → Int32) (n nm s k : Nat) : Prop := ∀ t, t < k → fitT V n nm s t
def fxP (V : Nat → Int32) (n nm s k : Nat) (x : Int32) : Prop := (x = 1 ∧ fitN V n nm s k) ∨ (x = 0 ∧ ¬ fitN V n nm s k)
theorem fx_0 {V : Nat → Int32} {n nm s k : Nat} {x : Int32} (h : fxP V n nm s k x) (c : x.toInt = 0) : fxP V n nm s (k + 1) 0 := by
  rcases h with h | h
  · rw [h.1] at c; exact absurd c (by decide)
  · exact Or.inr ⟨rfl, fun q => h.2 (fun t ht => q t (by omega))⟩
theorem fx_n {V : Nat → Int32} {n nm s k : Nat} (h : ¬ fitT V n nm s k) : fxP V n nm s (k + 1) 0 := Or.inr ⟨rfl, fun q => h (q k (by omega))⟩
theorem fx_y {V : Nat → Int32} {n nm s k : Nat} {x : Int32} (h : fxP V n nm s k x) (c : x.toInt ≠ 0) (hT : fitT V n nm s k) : fxP V n nm s (k + 1) 1 := by
  rcases h with h | h
  · exact Or.inl ⟨rfl, fun t ht => by
      rcases Nat.lt_or_ge t k with q | q
      · exact h.2 t q
      · have e : t = k := by omega
        rw [e]; exact hT⟩
  · rw [h.1] at c; exact absurd (show (0 : Int32).toInt = 0 from rfl) c
theorem fx_1 {V : Nat → Int32} {n nm s k : Nat} {x : Int32} (h : fxP V n nm s k x) (c : x.toInt ≠ 0) : fitN V n nm s k := by
  rcases h with q | q
  · exact q.2
  · exact absurd (show x.toInt = 0 by rw [q.1]; rfl) c
theorem fx_2 {V : Nat → Int32} {n nm s k : Nat} {x : Int32} (h : fxP V n nm s k x) (c : x.toInt = 0) : ¬ fitN V n nm s k := by
  rcases h with q | q
  · rw [q.1] at c; exact absurd c (by decide)
  · exact q.2
theorem tI_1 {x : Int32} (h : x.toInt = 1) : x = 1 := Int32.toInt_inj.mp h
theorem fT_pp {q : Nat} {v : Int32} (a : (q : Int) ≠ 0) (b : v.toInt = 1) : q ≠ 0 ↔ v = 1 := ⟨fun _ => tI_1 b, fun _ => by omega⟩
theorem fT_nn {q : Nat} {v : Int32} (a : (q : Int) = 0) (b : v.toInt ≠ 1) : q ≠ 0 ↔ v = 1 := ⟨fun h => absurd a (by omega), fun h => absurd (by rw [h]; rfl) b⟩
theorem fT_pn {q : Nat} {v : Int32} (a : (q : Int) ≠ 0) (b : v.toInt ≠ 1) : ¬ (q ≠ 0 ↔ v = 1) := fun h => b (by rw [h.mp (by omega)]; rfl)
theorem fT_np {q : Nat} {v : Int32} (a : (q : Int) = 0) (b : v.toInt = 1) : ¬ (q ≠ 0 ↔ v = 1) := fun h => h.mpr (tI_1 b) (by omega)
/-- the diagnoses -/
noncomputable def fitL (V : Nat → Int32) (n nm nt : Nat) : Nat → List Nat
  | 0 => []
  | s + 1 => fitL V n nm nt s ++ ifp (fitN V n nm s nt) [s] []
theorem fitL_y {V : Nat → Int32} {n nm nt s : Nat} (h : fitN V n nm s nt) : fitL V n nm nt (s + 1) = fitL V n nm nt s ++ [s] := by rw [fitL, ifp_t h]
theorem fitL_n {V : Nat → Int32} {n nm nt s : Nat} (h : ¬ fitN V n nm s nt) : fitL V n nm nt (s + 1) = fitL V n nm nt s := by rw [fitL, ifp_f h, List.append_nil]
theorem fitL_len (V : Nat → Int32) (n nm nt : Nat) : ∀ s, (fitL V n nm nt s).length ≤ s
  | 0 => Nat.le_refl _
  | s + 1 => by
    have ih := fitL_len V n nm nt s
    rcases Classical.em (fitN V n nm s nt) with h | h
    · rw [fitL_y h, List.length_append]; simp only [List.length_cons, List.length_nil]; omega
    · rw [fitL_n h]; omega
theorem fitL_lt {V : Nat → Int32} {n nm nt : Nat} : ∀ s x, x ∈ fitL V n nm nt s → x < s
  | 0, x, h => by cases h
  | s + 1, x, h => by
    rcases Classical.em (fitN V n nm s nt) with q | q
    · rw [fitL_y q] at h
      rcases List.mem_append.mp h with h | h
      · have := fitL_lt s x h; omega
      · have := List.mem_singleton.mp h; omega
    · rw [fitL_n q] at h
      have := fitL_lt s x h; omega
def lsN (mi : MI) (L : List Nat) : Prop := ∀ k s, L[k]? = some s → mi 70 k = nI s
theorem lsN_add {mi : MI} {L : List Nat} {s : Nat} {v : Int32} (hv : v.toInt = (s : Int)) (h : lsN mi L) : lsN (u2 mi 70 L.length v) (L ++ [s]) := by
  intro k x hx
  rcases Nat.lt_or_ge k L.length with hl | hl
  · rw [List.getElem?_append_left hl] at hx
    rw [u2_n (by omega)]
    exact h k x hx
  · rw [List.getElem?_append_right hl] at hx
    have h1 : k - L.length < 1 := (List.getElem?_eq_some_iff.mp hx).1
    have h2 : k = L.length := by omega
    subst h2
    rw [Nat.sub_self] at hx
    cases hx
    rw [u2_s]
    exact tI_nIx hv
theorem lsN_u {mi : MI} {L : List Nat} {p k : Nat} {v : Int32} (hp : p ≠ 70) (h : lsN mi L) : lsN (u2 mi p k v) L := fun j s hs => (u2_n (Or.inl (fun e => hp e.symm))).trans (h j s hs)
theorem pw_nI : ∀ k, k < 6 → ((1 : Int32) <<< (nI k &&& 31)) = nI (2 ^ k) := by decide +kernel
theorem pw_x {x : Int32} {k : Nat} (h : x.toInt = (k : Int)) (hk : k ≤ 5) : ((1 : Int32) <<< (x &&& 31)) = nI (2 ^ k) := by rw [tI_nIx h]; exact pw_nI k (by omega)
/-- what diagnose leaves -/
def DgS (mi mj : MI) (n nm nt : Nat) : Prop := Fr [61, 65, 66, 67, 69, 70] mi mj ∧ (∀ k, k ≠ 9 → k ≠ 14 → mj 61 k = mi 61 k) ∧ (mj 61 14).toInt = ((fitL (mi 62) n nm nt (2 ^ nm)).length : Int) ∧ lsN mj (fitL (mi 62) n nm nt (2 ^ nm))
def hdS (mi mj : MI) (n nm k : Nat) : Prop := ∀ t, t < k → (mj 69 t).toInt = (hbS (mi 62) n (tA (mi 62) t) (tC (mi 62) t) nm : Int)
theorem hdS_s {mi mj : MI} {n nm k : Nat} {v : Int32} (h : hdS mi mj n nm k) (hv : v.toInt = (hbS (mi 62) n (tA (mi 62) k) (tC (mi 62) k) nm : Int)) : hdS mi (u2 mj 69 k v) n nm (k + 1) := fun t ht => by
  rcases Nat.lt_or_ge t k with q | q
  · rw [u2_n (by omega)]; exact h t q
  · have e : t = k := by omega
    subst e
    rw [u2_s]; exact hv
theorem hdS_c {mi mj mk : MI} {n nm k : Nat} (h : hdS mi mj n nm k) (e : mk 69 = mj 69) : hdS mi mk n nm k := fun t ht => by rw [e]; exact h t ht
set_option maxHeartbeats 1600000 in
set_option maxRecDepth 100000 in
theorem c_X6_diagnose (l : Launch) (hfl : l.stackTraces = false) (mi : MI) (ml : MJ) (n : Nat) (hn : (mi 62 5).toInt = (n : Int)) (h10 : n ≤ 10) (hwf : WFV (mi 62)) (nm : Nat) (hnm : (mi 62 26).toInt = (nm : Int)) (hm5 : nm ≤ 5) (nt : Nat) (hnt : (mi 62 32).toInt = (nt : Int)) : Ct l yX6_diagnose (.code yX6_diagnose cX6_diagnose 4 none) 7 0 0 [.ref 61] (wl mi ml) (QV (fun mi9 ml9 => ml = ml9 ∧ DgS mi mi9 n nm nt)) noX := by
  refine Ct_of (ini := false) pn_X6 hfl (fun h => nomatch h) (Nat.le_of_ble_eq_true rfl) ?_
  show E l RX6 cX6_diagnose 4 none false [] (rmE 7 0 0) (wl mi ml) (TgM (wl mi ml) 0 0 (QV (fun mi9 ml9 => ml = ml9 ∧ DgS mi mi9 n nm nt)) noX) 0 0 0 [(0, .ref 61)] [] (wl mi ml)
  have h32 := p2_5 hm5
  have hb16 := hwf.2.1.2.2
  refine E_iconst 0 (by decide) dX6_diagnose_0 ?_
  refine E_istore_n [(1, .int 0), (0, .ref 61)] dX6_diagnose_1 rfl (by decide) rfl ?_
  have J2 : ∀ (Nm : Nat) (xi : Int32) (i : Nat) (mj : MI), nt - i < Nm → xi.toInt = (i : Int) → i ≤ nt → Fr [61, 65, 66, 67, 69, 70] mi mj → (∀ k, k ≠ 9 → k ≠ 14 → mj 61 k = mi 61 k) → hdS mi mj n nm i → E l RX6 cX6_diagnose 4 none false [] (rmE 7 0 0) (wl mi ml) (TgM (wl mi ml) 0 0 (QV (fun mi9 ml9 => ml = ml9 ∧ DgS mi mi9 n nm nt)) noX) 0 0 2 [(0, .ref 61), (1, .int xi)] [] (wl mj ml) := by
    intro Nm
    induction Nm with
    | zero => intros; omega
    | succ Nm ih2 =>
      intro xi i mj hN2 hxi hi hF h61 hd
      refine E_iload_n 1 dX6_diagnose_2 rfl rfl ?_
      refine E_aload_n 0 dX6_diagnose_3 rfl rfl ?_
      refine gf_X6_7 tw_61 rfl dX6_diagnose_4 ?_
      refine E_bipush 32 (by decide) dX6_diagnose_7 ?_
      refine S_iald 32 (mi 62 32) tw_62 rfl (by decide) (congrFun (hF 62 (by decide)) 32) dX6_diagnose_9 ?_
      refine Z_ge (i : Int) (nt : Int) hxi hnt 53 dX6_diagnose_10 (by decide) (fun c_10 => ?_) (fun c_10 => ?_)
      · skip
        refine E_aload_n 0 dX6_diagnose_53 rfl rfl ?_
        refine E_iconst 0 (by decide) dX6_diagnose_54 ?_
        refine pf_X6_165 tw_61 rfl dX6_diagnose_55 ?_
        refine E_iconst 0 (by decide) dX6_diagnose_58 ?_
        refine E_istore_n [(1, .int 0), (0, .ref 61)] dX6_diagnose_59 rfl (by decide) rfl ?_
        have J60 : ∀ (Nm : Nat) (xs : Int32) (s : Nat) (mk : MI), 2 ^ nm - s < Nm → xs.toInt = (s : Int) → s ≤ 2 ^ nm → Fr [61, 65, 66, 67, 69, 70] mi mk → (∀ k, k ≠ 9 → k ≠ 14 → mk 61 k = mi 61 k) → hdS mi mk n nm nt → (mk 61 14).toInt = ((fitL (mi 62) n nm nt s).length : Int) → lsN mk (fitL (mi 62) n nm nt s) → E l RX6 cX6_diagnose 4 none false [] (rmE 7 0 0) (wl mi ml) (TgM (wl mi ml) 0 0 (QV (fun mi9 ml9 => ml = ml9 ∧ DgS mi mi9 n nm nt)) noX) 0 0 60 [(0, .ref 61), (1, .int xs)] [] (wl mk ml) := by
          intro Nm
          induction Nm with
          | zero => intros; omega
          | succ Nm ih60 =>
            intro xs s mk hN60 hxs hs hF2 h612 hd2 hft hls
            refine E_iload_n 1 dX6_diagnose_60 rfl rfl ?_
            refine E_iconst 1 (by decide) dX6_diagnose_61 ?_
            refine E_aload_n 0 dX6_diagnose_62 rfl rfl ?_
            refine gf_X6_7 tw_61 rfl dX6_diagnose_63 ?_
            refine E_bipush 26 (by decide) dX6_diagnose_66 ?_
            refine S_iald 26 (mi 62 26) tw_62 rfl (by decide) (congrFun (hF2 62 (by decide)) 26) dX6_diagnose_68 ?_
            refine E_ishl dX6_diagnose_69 ?_
            rw [show ((1 : Int32) <<< ((mi 62 26) &&& 31)) = (nI (2 ^ nm)) from (pw_x hnm hm5)]
            refine Z_ge (s : Int) ((2 ^ nm : Nat) : Int) hxs (tI_nI (by omega)) 175 dX6_diagnose_70 (by decide) (fun c_70 => ?_) (fun c_70 => ?_)
            · skip
              refine E_vret rfl (Nat.le_of_ble_eq_true rfl) (Nat.le_of_ble_eq_true rfl) dX6_diagnose_175 ?_
              exact okQV ⟨rfl, hF2, h612, by rw [← show s = 2 ^ nm by omega]; exact hft, by rw [← show s = 2 ^ nm by omega]; exact hls⟩
            · skip
              have hs32 : s < 32 := by omega
              have hfl9 := fitL_len (mi 62) n nm nt s
              refine E_iconst 1 (by decide) dX6_diagnose_73 ?_
              refine E_istore_n [(2, .int 1), (0, .ref 61), (1, .int xs)] dX6_diagnose_74 rfl (by decide) rfl ?_
              refine E_iconst 0 (by decide) dX6_diagnose_75 ?_
              refine E_istore_n [(3, .int 0), (2, .int 1), (0, .ref 61), (1, .int xs)] dX6_diagnose_76 rfl (by decide) rfl ?_
              have J77 : ∀ (Nm : Nat) (xf xt : Int32) (t : Nat), nt - t < Nm → xt.toInt = (t : Int) → t ≤ nt → fxP (mi 62) n nm s t xf → E l RX6 cX6_diagnose 4 none false [] (rmE 7 0 0) (wl mi ml) (TgM (wl mi ml) 0 0 (QV (fun mi9 ml9 => ml = ml9 ∧ DgS mi mi9 n nm nt)) noX) 0 0 77 [(0, .ref 61), (1, .int xs), (2, .int xf), (3, .int xt)] [] (wl mk ml) := by
                intro Nm
                induction Nm with
                | zero => intros; omega
                | succ Nm ih77 =>
                  intro xf xt t hN77 hxt ht hfx
                  refine E_iload_n 3 dX6_diagnose_77 rfl rfl ?_
                  refine E_aload_n 0 dX6_diagnose_78 rfl rfl ?_
                  refine gf_X6_7 tw_61 rfl dX6_diagnose_79 ?_
                  refine E_bipush 32 (by decide) dX6_diagnose_82 ?_
                  refine S_iald 32 (mi 62 32) tw_62 rfl (by decide) (congrFun (hF2 62 (by decide)) 32) dX6_diagnose_84 ?_
                  refine Z_ge (t : Int) (nt : Int) hxt hnt 145 dX6_diagnose_85 (by decide) (fun c_85 => ?_) (fun c_85 => ?_)
                  · skip
                    refine E_iload_n 2 dX6_diagnose_145 rfl rfl ?_
                    refine Y_eq xf.toInt rfl 169 dX6_diagnose_146 (by decide) (fun c_146 => ?_) (fun c_146 => ?_)
                    · skip
                      have hfn : ¬ fitN (mi 62) n nm s nt := fx_2 (by rw [← show t = nt by omega]; exact hfx) c_146
                      refine E_iinc 1 (xs + 1) [(1, .int (xs + 1)), (0, .ref 61), (2, .int xf), (3, .int xt)] dX6_diagnose_169 rfl rfl (by decide) rfl ?_
                      refine E_goto 60 dX6_diagnose_172 (by decide) ?_
                      refine E_sub [1, 0] rfl ?_
                      exact ih60 (xs + 1) (s + 1) mk (by omega) ((tI_add hxs (show (1 : Int32).toInt = 1 from rfl) (by omega)).trans (by omega)) (by omega) hF2 h612 hd2 (by rw [fitL_n hfn]; exact hft) (by rw [fitL_n hfn]; exact hls)
                    · skip
                      have hfy : fitN (mi 62) n nm s nt := fx_1 (by rw [← show t = nt by omega]; exact hfx) c_146
                      refine E_aload_n 0 dX6_diagnose_149 rfl rfl ?_
                      refine gf_X6_34 tw_61 rfl dX6_diagnose_150 ?_
                      refine E_aload_n 0 dX6_diagnose_153 rfl rfl ?_
                      refine gf_X6_165 (mk 61 14) tw_61 rfl rfl dX6_diagnose_154 ?_
                      refine E_iload_n 1 dX6_diagnose_157 rfl rfl ?_
                      refine S_iast ((fitL (mi 62) n nm nt s).length) tw_70 hft (by omega) dX6_diagnose_158 ?_
                      refine E_aload_n 0 dX6_diagnose_159 rfl rfl ?_
                      refine E_dup rfl dX6_diagnose_160 ?_
                      refine gf_X6_165 (mk 61 14) tw_61 rfl ((u2_n (by omega)).trans rfl) dX6_diagnose_161 ?_
                      refine E_iconst 1 (by decide) dX6_diagnose_164 ?_
                      refine E_iadd dX6_diagnose_165 ?_
                      refine pf_X6_165 tw_61 rfl dX6_diagnose_166 ?_
                      refine E_iinc 1 (xs + 1) [(1, .int (xs + 1)), (0, .ref 61), (2, .int xf), (3, .int xt)] dX6_diagnose_169 rfl rfl (by decide) rfl ?_
                      refine E_goto 60 dX6_diagnose_172 (by decide) ?_
                      refine E_sub [1, 0] rfl ?_
                      exact ih60 (xs + 1) (s + 1) (u2 (u2 mk 70 ((fitL (mi 62) n nm nt s).length) xs) 61 14 ((mk 61 14) + 1)) (by omega) ((tI_add hxs (show (1 : Int32).toInt = 1 from rfl) (by omega)).trans (by omega)) (by omega) ((hF2.u (by decide)).u (by decide)) (fun k hk hk2 => (u2_n (by omega)).trans ((u2_n (by omega)).trans (h612 k hk hk2))) (hdS_c hd2 ((u2_p (by decide)).trans (u2_p (by decide)))) (by rw [fitL_y hfy, u2_s, List.length_append]; exact (tI_add hft (show (1 : Int32).toInt = 1 from rfl) (by omega)).trans (by simp)) (by rw [fitL_y hfy]; exact lsN_u (by decide) (lsN_add hxs hls))
                  · skip
                    refine E_iload_n 2 dX6_diagnose_88 rfl rfl ?_
                    refine Y_eq xf.toInt rfl 137 dX6_diagnose_89 (by decide) (fun c_89 => ?_) (fun c_89 => ?_)
                    · skip
                      refine E_iconst 0 (by decide) dX6_diagnose_137 ?_
                      refine E_istore_n [(2, .int 0), (0, .ref 61), (1, .int xs), (3, .int xt)] dX6_diagnose_138 rfl (by decide) rfl ?_
                      refine E_iinc 3 (xt + 1) [(3, .int (xt + 1)), (2, .int 0), (0, .ref 61), (1, .int xs)] dX6_diagnose_139 rfl rfl (by decide) rfl ?_
                      refine E_goto 77 dX6_diagnose_142 (by decide) ?_
                      refine E_sub [2, 3, 1, 0] rfl ?_
                      exact ih77 0 (xt + 1) (t + 1) (by omega) ((tI_add hxt (show (1 : Int32).toInt = 1 from rfl) (by omega)).trans (by omega)) (by omega) (by first | exact fx_0 hfx c_89 | exact absurd c_130 (by decide) | exact fx_y hfx c_89 (fT_pp c_100 c_122) | exact fx_y hfx c_89 (fT_nn c_100 c_122) | exact fx_n (fT_pn c_100 c_122) | exact fx_n (fT_np c_100 c_122))
                    · skip
                      have hh9 := hd2 t (by omega)
                      have hbl := hbS_lt (mi 62) n (tA (mi 62) t) (tC (mi 62) t) nm
                      refine E_aload_n 0 dX6_diagnose_92 rfl rfl ?_
                      refine gf_X6_31 tw_61 rfl dX6_diagnose_93 ?_
                      refine E_iload_n 3 dX6_diagnose_96 rfl rfl ?_
                      refine S_iald t (mk 69 t) tw_69 (hxt.trans (by omega)) (by omega) rfl dX6_diagnose_97 ?_
                      refine E_iload_n 1 dX6_diagnose_98 rfl rfl ?_
                      refine E_iand dX6_diagnose_99 ?_
                      rw [show ((mk 69 t) &&& xs) = (nI (hbS (mi 62) n (tA (mi 62) t) (tC (mi 62) t) nm &&& s)) from (by rw [tI_nIx hh9, tI_nIx hxs]; exact nx_and _ _)]
                      refine Y_eq ((hbS (mi 62) n (tA (mi 62) t) (tC (mi 62) t) nm &&& s : Nat) : Int) (tI_nI (Nat.lt_of_le_of_lt Nat.and_le_left (by omega))) 107 dX6_diagnose_100 (by decide) (fun c_100 => ?_) (fun c_100 => ?_)
                      · skip
                        refine E_iconst 0 (by decide) dX6_diagnose_107 ?_
                        refine E_aload_n 0 dX6_diagnose_108 rfl rfl ?_
                        refine gf_X6_7 tw_61 rfl dX6_diagnose_109 ?_
                        refine E_bipush 33 (by decide) dX6_diagnose_112 ?_
                        refine E_iconst 3 (by decide) dX6_diagnose_114 ?_
                        refine E_iload_n 3 dX6_diagnose_115 rfl rfl ?_
                        refine E_imul dX6_diagnose_116 ?_
                        refine E_iadd dX6_diagnose_117 ?_
                        refine E_iconst 2 (by decide) dX6_diagnose_118 ?_
                        refine E_iadd dX6_diagnose_119 ?_
                        refine S_iald (35 + 3 * t) (mi 62 (35 + 3 * t)) tw_62 ((tI_add (tI_add (show (33 : Int32).toInt = 33 from rfl) (tI_mul (show (3 : Int32).toInt = 3 from rfl) hxt (by omega)) (by omega)) (show (2 : Int32).toInt = 2 from rfl) (by omega)).trans (by omega)) (by omega) (congrFun (hF2 62 (by decide)) (35 + 3 * t)) dX6_diagnose_120 ?_
                        refine E_iconst 1 (by decide) dX6_diagnose_121 ?_
                        refine Z_ne ((mi 62 (35 + 3 * t)).toInt) 1 rfl (show (1 : Int32).toInt = 1 from rfl) 129 dX6_diagnose_122 (by decide) (fun c_122 => ?_) (fun c_122 => ?_)
                        · skip
                          refine E_iconst 0 (by decide) dX6_diagnose_129 ?_
                          refine Z_ne 0 0 (show (0 : Int32).toInt = 0 from rfl) (show (0 : Int32).toInt = 0 from rfl) 137 dX6_diagnose_130 (by decide) (fun c_130 => ?_) (fun c_130 => ?_)
                          · skip
                            refine E_iconst 0 (by decide) dX6_diagnose_137 ?_
                            refine E_istore_n [(2, .int 0), (0, .ref 61), (1, .int xs), (3, .int xt)] dX6_diagnose_138 rfl (by decide) rfl ?_
                            refine E_iinc 3 (xt + 1) [(3, .int (xt + 1)), (2, .int 0), (0, .ref 61), (1, .int xs)] dX6_diagnose_139 rfl rfl (by decide) rfl ?_
                            refine E_goto 77 dX6_diagnose_142 (by decide) ?_
                            refine E_sub [2, 3, 1, 0] rfl ?_
                            exact ih77 0 (xt + 1) (t + 1) (by omega) ((tI_add hxt (show (1 : Int32).toInt = 1 from rfl) (by omega)).trans (by omega)) (by omega) (by first | exact fx_0 hfx c_89 | exact absurd c_130 (by decide) | exact fx_y hfx c_89 (fT_pp c_100 c_122) | exact fx_y hfx c_89 (fT_nn c_100 c_122) | exact fx_n (fT_pn c_100 c_122) | exact fx_n (fT_np c_100 c_122))
                          · skip
                            refine E_iconst 1 (by decide) dX6_diagnose_133 ?_
                            refine E_goto 138 dX6_diagnose_134 (by decide) ?_
                            refine E_istore_n [(2, .int 1), (0, .ref 61), (1, .int xs), (3, .int xt)] dX6_diagnose_138 rfl (by decide) rfl ?_
                            refine E_iinc 3 (xt + 1) [(3, .int (xt + 1)), (2, .int 1), (0, .ref 61), (1, .int xs)] dX6_diagnose_139 rfl rfl (by decide) rfl ?_
                            refine E_goto 77 dX6_diagnose_142 (by decide) ?_
                            refine E_sub [2, 3, 1, 0] rfl ?_
                            exact ih77 1 (xt + 1) (t + 1) (by omega) ((tI_add hxt (show (1 : Int32).toInt = 1 from rfl) (by omega)).trans (by omega)) (by omega) (by first | exact fx_0 hfx c_89 | exact absurd c_130 (by decide) | exact fx_y hfx c_89 (fT_pp c_100 c_122) | exact fx_y hfx c_89 (fT_nn c_100 c_122) | exact fx_n (fT_pn c_100 c_122) | exact fx_n (fT_np c_100 c_122))
                        · skip
                          refine E_iconst 1 (by decide) dX6_diagnose_125 ?_
                          refine E_goto 130 dX6_diagnose_126 (by decide) ?_
                          refine Z_ne 0 1 (show (0 : Int32).toInt = 0 from rfl) (show (1 : Int32).toInt = 1 from rfl) 137 dX6_diagnose_130 (by decide) (fun c_130 => ?_) (fun c_130 => ?_)
                          · skip
                            refine E_iconst 0 (by decide) dX6_diagnose_137 ?_
                            refine E_istore_n [(2, .int 0), (0, .ref 61), (1, .int xs), (3, .int xt)] dX6_diagnose_138 rfl (by decide) rfl ?_
                            refine E_iinc 3 (xt + 1) [(3, .int (xt + 1)), (2, .int 0), (0, .ref 61), (1, .int xs)] dX6_diagnose_139 rfl rfl (by decide) rfl ?_
                            refine E_goto 77 dX6_diagnose_142 (by decide) ?_
                            refine E_sub [2, 3, 1, 0] rfl ?_
                            exact ih77 0 (xt + 1) (t + 1) (by omega) ((tI_add hxt (show (1 : Int32).toInt = 1 from rfl) (by omega)).trans (by omega)) (by omega) (by first | exact fx_0 hfx c_89 | exact absurd c_130 (by decide) | exact fx_y hfx c_89 (fT_pp c_100 c_122) | exact fx_y hfx c_89 (fT_nn c_100 c_122) | exact fx_n (fT_pn c_100 c_122) | exact fx_n (fT_np c_100 c_122))
                          · skip
                            refine E_iconst 1 (by decide) dX6_diagnose_133 ?_
                            refine E_goto 138 dX6_diagnose_134 (by decide) ?_
                            refine E_istore_n [(2, .int 1), (0, .ref 61), (1, .int xs), (3, .int xt)] dX6_diagnose_138 rfl (by decide) rfl ?_
                            refine E_iinc 3 (xt + 1) [(3, .int (xt + 1)), (2, .int 1), (0, .ref 61), (1, .int xs)] dX6_diagnose_139 rfl rfl (by decide) rfl ?_
                            refine E_goto 77 dX6_diagnose_142 (by decide) ?_
                            refine E_sub [2, 3, 1, 0] rfl ?_
                            exact ih77 1 (xt + 1) (t + 1) (by omega) ((tI_add hxt (show (1 : Int32).toInt = 1 from rfl) (by omega)).trans (by omega)) (by omega) (by first | exact fx_0 hfx c_89 | exact absurd c_130 (by decide) | exact fx_y hfx c_89 (fT_pp c_100 c_122) | exact fx_y hfx c_89 (fT_nn c_100 c_122) | exact fx_n (fT_pn c_100 c_122) | exact fx_n (fT_np c_100 c_122))
                      · skip
                        refine E_iconst 1 (by decide) dX6_diagnose_103 ?_
                        refine E_goto 108 dX6_diagnose_104 (by decide) ?_
                        refine E_aload_n 0 dX6_diagnose_108 rfl rfl ?_
                        refine gf_X6_7 tw_61 rfl dX6_diagnose_109 ?_
                        refine E_bipush 33 (by decide) dX6_diagnose_112 ?_
                        refine E_iconst 3 (by decide) dX6_diagnose_114 ?_
                        refine E_iload_n 3 dX6_diagnose_115 rfl rfl ?_
                        refine E_imul dX6_diagnose_116 ?_
                        refine E_iadd dX6_diagnose_117 ?_
                        refine E_iconst 2 (by decide) dX6_diagnose_118 ?_
                        refine E_iadd dX6_diagnose_119 ?_
                        refine S_iald (35 + 3 * t) (mi 62 (35 + 3 * t)) tw_62 ((tI_add (tI_add (show (33 : Int32).toInt = 33 from rfl) (tI_mul (show (3 : Int32).toInt = 3 from rfl) hxt (by omega)) (by omega)) (show (2 : Int32).toInt = 2 from rfl) (by omega)).trans (by omega)) (by omega) (congrFun (hF2 62 (by decide)) (35 + 3 * t)) dX6_diagnose_120 ?_
                        refine E_iconst 1 (by decide) dX6_diagnose_121 ?_
                        refine Z_ne ((mi 62 (35 + 3 * t)).toInt) 1 rfl (show (1 : Int32).toInt = 1 from rfl) 129 dX6_diagnose_122 (by decide) (fun c_122 => ?_) (fun c_122 => ?_)
                        · skip
                          refine E_iconst 0 (by decide) dX6_diagnose_129 ?_
                          refine Z_ne 1 0 (show (1 : Int32).toInt = 1 from rfl) (show (0 : Int32).toInt = 0 from rfl) 137 dX6_diagnose_130 (by decide) (fun c_130 => ?_) (fun c_130 => ?_)
                          · skip
                            refine E_iconst 0 (by decide) dX6_diagnose_137 ?_
                            refine E_istore_n [(2, .int 0), (0, .ref 61), (1, .int xs), (3, .int xt)] dX6_diagnose_138 rfl (by decide) rfl ?_
                            refine E_iinc 3 (xt + 1) [(3, .int (xt + 1)), (2, .int 0), (0, .ref 61), (1, .int xs)] dX6_diagnose_139 rfl rfl (by decide) rfl ?_
                            refine E_goto 77 dX6_diagnose_142 (by decide) ?_
                            refine E_sub [2, 3, 1, 0] rfl ?_
                            exact ih77 0 (xt + 1) (t + 1) (by omega) ((tI_add hxt (show (1 : Int32).toInt = 1 from rfl) (by omega)).trans (by omega)) (by omega) (by first | exact fx_0 hfx c_89 | exact absurd c_130 (by decide) | exact fx_y hfx c_89 (fT_pp c_100 c_122) | exact fx_y hfx c_89 (fT_nn c_100 c_122) | exact fx_n (fT_pn c_100 c_122) | exact fx_n (fT_np c_100 c_122))
                          · skip
                            refine E_iconst 1 (by decide) dX6_diagnose_133 ?_
                            refine E_goto 138 dX6_diagnose_134 (by decide) ?_
                            refine E_istore_n [(2, .int 1), (0, .ref 61), (1, .int xs), (3, .int xt)] dX6_diagnose_138 rfl (by decide) rfl ?_
                            refine E_iinc 3 (xt + 1) [(3, .int (xt + 1)), (2, .int 1), (0, .ref 61), (1, .int xs)] dX6_diagnose_139 rfl rfl (by decide) rfl ?_
                            refine E_goto 77 dX6_diagnose_142 (by decide) ?_
                            refine E_sub [2, 3, 1, 0] rfl ?_
                            exact ih77 1 (xt + 1) (t + 1) (by omega) ((tI_add hxt (show (1 : Int32).toInt = 1 from rfl) (by omega)).trans (by omega)) (by omega) (by first | exact fx_0 hfx c_89 | exact absurd c_130 (by decide) | exact fx_y hfx c_89 (fT_pp c_100 c_122) | exact fx_y hfx c_89 (fT_nn c_100 c_122) | exact fx_n (fT_pn c_100 c_122) | exact fx_n (fT_np c_100 c_122))
                        · skip
                          refine E_iconst 1 (by decide) dX6_diagnose_125 ?_
                          refine E_goto 130 dX6_diagnose_126 (by decide) ?_
                          refine Z_ne 1 1 (show (1 : Int32).toInt = 1 from rfl) (show (1 : Int32).toInt = 1 from rfl) 137 dX6_diagnose_130 (by decide) (fun c_130 => ?_) (fun c_130 => ?_)
                          · skip
                            refine E_iconst 0 (by decide) dX6_diagnose_137 ?_
                            refine E_istore_n [(2, .int 0), (0, .ref 61), (1, .int xs), (3, .int xt)] dX6_diagnose_138 rfl (by decide) rfl ?_
                            refine E_iinc 3 (xt + 1) [(3, .int (xt + 1)), (2, .int 0), (0, .ref 61), (1, .int xs)] dX6_diagnose_139 rfl rfl (by decide) rfl ?_
                            refine E_goto 77 dX6_diagnose_142 (by decide) ?_
                            refine E_sub [2, 3, 1, 0] rfl ?_
                            exact ih77 0 (xt + 1) (t + 1) (by omega) ((tI_add hxt (show (1 : Int32).toInt = 1 from rfl) (by omega)).trans (by omega)) (by omega) (by first | exact fx_0 hfx c_89 | exact absurd c_130 (by decide) | exact fx_y hfx c_89 (fT_pp c_100 c_122) | exact fx_y hfx c_89 (fT_nn c_100 c_122) | exact fx_n (fT_pn c_100 c_122) | exact fx_n (fT_np c_100 c_122))
                          · skip
                            refine E_iconst 1 (by decide) dX6_diagnose_133 ?_
                            refine E_goto 138 dX6_diagnose_134 (by decide) ?_
                            refine E_istore_n [(2, .int 1), (0, .ref 61), (1, .int xs), (3, .int xt)] dX6_diagnose_138 rfl (by decide) rfl ?_
                            refine E_iinc 3 (xt + 1) [(3, .int (xt + 1)), (2, .int 1), (0, .ref 61), (1, .int xs)] dX6_diagnose_139 rfl rfl (by decide) rfl ?_
                            refine E_goto 77 dX6_diagnose_142 (by decide) ?_
                            refine E_sub [2, 3, 1, 0] rfl ?_
                            exact ih77 1 (xt + 1) (t + 1) (by omega) ((tI_add hxt (show (1 : Int32).toInt = 1 from rfl) (by omega)).trans (by omega)) (by omega) (by first | exact fx_0 hfx c_89 | exact absurd c_130 (by decide) | exact fx_y hfx c_89 (fT_pp c_100 c_122) | exact fx_y hfx c_89 (fT_nn c_100 c_122) | exact fx_n (fT_pn c_100 c_122) | exact fx_n (fT_np c_100 c_122))
              refine E_sub [2, 3, 1, 0] rfl ?_
              exact J77 _ 1 0 0 (Nat.lt_succ_self _) (show (0 : Int32).toInt = 0 from rfl) (Nat.zero_le _) (Or.inl ⟨rfl, fun t h => absurd h (Nat.not_lt_zero t)⟩)
        refine E_sub [1, 0] rfl ?_
        exact J60 _ 0 0 (u2 mj 61 14 0) (Nat.lt_succ_self _) (show (0 : Int32).toInt = 0 from rfl) (Nat.zero_le _) (hF.u (by decide)) (fun k hk hk2 => (u2_n (by omega)).trans (h61 k hk hk2)) (hdS_c (by rw [show nt = i by omega]; exact hd) (u2_p (by decide))) (by rw [u2_s]; rfl) (fun k s h => by simp [fitL] at h)
      · skip
        obtain ⟨ta1, ta2, ta3, ta4, ta5⟩ := WFV_t hwf hn h10 (t := i) (by omega)
        refine E_aload_n 0 dX6_diagnose_13 rfl rfl ?_
        refine gf_X6_31 tw_61 rfl dX6_diagnose_14 ?_
        refine E_iload_n 1 dX6_diagnose_17 rfl rfl ?_
        refine E_aload_n 0 dX6_diagnose_18 rfl rfl ?_
        refine E_aload_n 0 dX6_diagnose_19 rfl rfl ?_
        refine gf_X6_7 tw_61 rfl dX6_diagnose_20 ?_
        refine E_bipush 33 (by decide) dX6_diagnose_23 ?_
        refine E_iconst 3 (by decide) dX6_diagnose_25 ?_
        refine E_iload_n 1 dX6_diagnose_26 rfl rfl ?_
        refine E_imul dX6_diagnose_27 ?_
        refine E_iadd dX6_diagnose_28 ?_
        refine S_iald (33 + 3 * i) (mi 62 (33 + 3 * i)) tw_62 ((tI_add (show (33 : Int32).toInt = 33 from rfl) (tI_mul (show (3 : Int32).toInt = 3 from rfl) hxi (by omega)) (by omega)).trans (by omega)) (by omega) (congrFun (hF 62 (by decide)) (33 + 3 * i)) dX6_diagnose_29 ?_
        refine E_aload_n 0 dX6_diagnose_30 rfl rfl ?_
        refine gf_X6_7 tw_61 rfl dX6_diagnose_31 ?_
        refine E_bipush 33 (by decide) dX6_diagnose_34 ?_
        refine E_iconst 3 (by decide) dX6_diagnose_36 ?_
        refine E_iload_n 1 dX6_diagnose_37 rfl rfl ?_
        refine E_imul dX6_diagnose_38 ?_
        refine E_iadd dX6_diagnose_39 ?_
        refine E_iconst 1 (by decide) dX6_diagnose_40 ?_
        refine E_iadd dX6_diagnose_41 ?_
        refine S_iald (34 + 3 * i) (mi 62 (34 + 3 * i)) tw_62 ((tI_add (tI_add (show (33 : Int32).toInt = 33 from rfl) (tI_mul (show (3 : Int32).toInt = 3 from rfl) hxi (by omega)) (by omega)) (show (1 : Int32).toInt = 1 from rfl) (by omega)).trans (by omega)) (by omega) (congrFun (hF 62 (by decide)) (34 + 3 * i)) dX6_diagnose_42 ?_
        refine E_callV (c_X6_heardBy l hfl mj ml n ((congrArg Int32.toInt (congrFun (hF 62 (by decide)) 5)).trans hn) (by omega) (by rw [show mj 62 = mi 62 from (hF 62 (by decide))]; exact hwf) nm ((congrArg Int32.toInt (congrFun (hF 62 (by decide)) 26)).trans hnm) (by omega) (mi 62 (33 + 3 * i)) (mi 62 (34 + 3 * i)) (tA (mi 62) i) (tC (mi 62) i) ta1 ta3 ta2 (by omega)) cw_X6_161 (As := [.int (mi 62 (33 + 3 * i)), .int (mi 62 (34 + 3 * i))]) (st := [.int xi, .ref 69]) wi_yX6_heardBy we_yX6_heardBy (ci := 6) (q := (RX6, TX6, 23)) rfl rfl (wl_atO tw_61) rfl ⟨Nat.le_of_ble_eq_true rfl, Nat.le_of_ble_eq_true rfl, Nat.le_of_ble_eq_true rfl, Nat.le_of_ble_eq_true rfl⟩ (Nat.le_of_ble_eq_true rfl) dX6_diagnose_43 (fun _ _ h => h) rfl (kI (fun r_43 mi_43 ml_43 h_43 => ?_))
        obtain ⟨hl9_43, hFr_43, h61_43, hhb_43⟩ := h_43
        subst hl9_43
        rw [show mj 62 = mi 62 from (hF 62 (by decide))] at hhb_43
        refine S_iast i tw_69 (hxi.trans (by omega)) (by omega) dX6_diagnose_46 ?_
        refine E_iinc 1 (xi + 1) [(1, .int (xi + 1)), (0, .ref 61)] dX6_diagnose_47 rfl rfl (by decide) rfl ?_
        refine E_goto 2 dX6_diagnose_50 (by decide) ?_
        refine E_sub [1, 0] rfl ?_
        exact ih2 (xi + 1) (i + 1) (u2 mi_43 69 i r_43) (by omega) ((tI_add hxi (show (1 : Int32).toInt = 1 from rfl) (by omega)).trans (by omega)) (by omega) ((hF.trans hFr_43 (by decide) (by decide)).u (by decide)) (fun k hk hk2 => (u2_n (by omega)).trans ((h61_43 k hk).trans (h61 k hk hk2))) (hdS_s (hdS_c hd (hFr_43 69 (by decide))) hhb_43)
  refine E_sub [1, 0] rfl ?_
  exact J2 _ 0 0 mi (Nat.lt_succ_self _) (show (0 : Int32).toInt = 0 from rfl) (Nat.zero_le _) Fr.rfl' (fun _ _ _ => rfl) (fun t h => absurd h (Nat.not_lt_zero t))
end MO13
