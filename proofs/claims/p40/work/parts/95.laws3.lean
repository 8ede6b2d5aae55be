section LWS3
theorem ls_l {V : Nat → Int32} {i : Nat} {A : Int} {r : Int32} (h : ((1 ≤ A ∧ A ≤ 6) ∧ ∃ m : Nat, A = (m : Int) ∧ LspP V m r.toInt) ∨ (¬ (1 ≤ A ∧ A ≤ 6) ∧ r.toInt = -901)) (e : A = (i : Int)) (h1 : 1 ≤ i) (h6 : i ≤ 6) : LspP V i r.toInt := by
  rcases h with ⟨_, m, h2, h3⟩ | ⟨h2, _⟩
  · rw [show i = m by omega]; exact h3
  · omega
theorem be_l {V : Nat → Int32} {i : Nat} {A : Int} {r : Int64} (h : ((1 ≤ A ∧ A ≤ 6) ∧ ∃ m : Nat, A = (m : Int) ∧ ((r = 0 ∧ ∀ t, t ≤ 40 → skFA V m t = none) ∨ (∃ (s : Nat) (R : List Nat), s ≤ 40 ∧ skFA V m s = some R ∧ (∀ t, t < s → skFA V m t = none) ∧ r = rbF R))) ∨ (¬ (1 ≤ A ∧ A ≤ 6) ∧ r = -901)) (e : A = (i : Int)) (h1 : 1 ≤ i) (h6 : i ≤ 6) : (r = 0 ∧ ∀ t, t ≤ 40 → skFA V i t = none) ∨ (∃ (s : Nat) (R : List Nat), s ≤ 40 ∧ skFA V i s = some R ∧ (∀ t, t < s → skFA V i t = none) ∧ r = rbF R) := by
  rcases h with ⟨_, m, h2, h3⟩ | ⟨h2, _⟩
  · rw [show i = m by omega]; exact h3
  · omega
theorem ru_l {V : Nat → Int32} {i s : Nat} {A B : Int} {r : Int32} (h : (((1 ≤ A ∧ A ≤ 5) ∧ (0 ≤ B ∧ B ≤ 40)) ∧ ∃ m s : Nat, A = (m : Int) ∧ B = (s : Int) ∧ (skFA V m s = none → r.toInt = 0) ∧ (skFA V m s ≠ none → 1 ≤ r.toInt)) ∨ (¬ ((1 ≤ A ∧ A ≤ 5) ∧ (0 ≤ B ∧ B ≤ 40)) ∧ r.toInt = -901)) (e : A = (i : Int)) (e2 : B = (s : Int)) (h1 : 1 ≤ i) (h5 : i ≤ 5) (h40 : s ≤ 40) : (skFA V i s = none → r.toInt = 0) ∧ (skFA V i s ≠ none → 1 ≤ r.toInt) := by
  rcases h with ⟨_, m, s2, h2, h3, h4⟩ | ⟨h2, _⟩
  · obtain rfl : i = m := by omega
    obtain rfl : s = s2 := by omega
    exact h4
  · omega
theorem ls_neg {V : Nat → Int32} {m : Nat} {r : Int} (h : LspP V m r) (hr : r < 0) : ∀ t, t ≤ 40 → skFA V m t = none := by
  rcases h with ⟨s, h1, h2, _⟩ | ⟨_, h2⟩
  · omega
  · exact h2
theorem ls_pos {V : Nat → Int32} {m : Nat} {r : Int} {b : Int64} (h : LspP V m r) (hr : 0 ≤ r) (hb : (b = 0 ∧ ∀ t, t ≤ 40 → skFA V m t = none) ∨ (∃ (s : Nat) (R : List Nat), s ≤ 40 ∧ skFA V m s = some R ∧ (∀ t, t < s → skFA V m t = none) ∧ b = rbF R)) : ∃ (s : Nat) (R : List Nat), r = (s : Int) ∧ s ≤ 40 ∧ skFA V m s = some R ∧ (∀ t, t < s → skFA V m t = none) ∧ b = rbF R := by
  rcases h with ⟨s, h1, h2, h3, h4⟩ | ⟨h2, _⟩
  · rcases hb with ⟨_, h5⟩ | ⟨s2, R, h5, h6, h7, h8⟩
    · exact absurd (h5 s h1) h3
    · rcases Nat.lt_trichotomy s s2 with q | q | q
      · exact absurd (h7 s q) h3
      · subst q; exact ⟨s, R, h2, h1, h6, h4, h8⟩
      · rw [h4 s2 q] at h6; cases h6
  · omega
def BfP (V : Nat → Int32) (i : Nat) (b : Int) : Prop := (i = 1 ∧ b = 0) ∨ (2 ≤ i ∧ LspP V (i - 1) b)
theorem bf_s {V : Nat → Int32} {i : Nat} {b : Int} (h1 : 1 ≤ i) (h : LspP V i b) : BfP V (i + 1) b := Or.inr ⟨by omega, h⟩
theorem bf_0 {V : Nat → Int32} : BfP V 1 0 := Or.inl ⟨rfl, rfl⟩
theorem bf_ok {V : Nat → Int32} {i : Nat} {b r : Int} (h : BfP V i b) (hr : LspP V i r) (h0 : 0 ≤ r) : 0 ≤ b ∧ b ≤ r := by
  rcases h with ⟨e, e2⟩ | ⟨e, e2⟩
  · omega
  · obtain ⟨j, rfl⟩ : ∃ j, i = j + 1 := ⟨i - 1, by omega⟩
    exact (LspP_m (by omega) e2 hr).2 h0
theorem and1_b {x : Int64} (h : lb x 0 = true) : (x &&& 1) = 1 := and1_or x (fun e => by
  have h2 : lb (x &&& 1) 0 = true := by rw [lb_and, h]; rfl
  rw [e, lb_0] at h2
  cases h2)
set_option maxHeartbeats 3200000 in
set_option maxRecDepth 100000 in
theorem z_spans (l : Launch) (hfl : l.stackTraces = false) {V : Nat → Int32} {H : List (Nat → Int32)} {mi : MI} {ml : MJ} (S : ST V H mi ml) : CtH l yL_spans (.code yL_spans cL_spans 6 (some .boolean)) 12 60 360 [.ref 0] (wl mi ml) (QI (fun r mi9 ml9 => ST V H mi9 ml9 ∧ r = 1)) noX := by
  have wn := wf_n S.1
  have wm := wf_m S.1
  have wt := wf_t S.1
  refine CtZ_of pn_L hfl (Nat.le_of_ble_eq_true rfl) ?_
  show EZ (fun s _ => Nc2 s) l RL cL_spans 6 (some .boolean) false [] (rmE 12 60 360) (wl mi ml) (TgM (wl mi ml) 60 360 (QI (fun r mi9 ml9 => ST V H mi9 ml9 ∧ r = 1)) noX) 0 0 0 [(0, .ref 0)] [] (wl mi ml)
  refine EZ_iconst 0 (by decide) dL_spans_0 ?_
  refine EZ_istore_n [(1, .int 0), (0, .ref 0)] dL_spans_1 rfl (by decide) rfl ?_
  refine EZ_iconst 1 (by decide) dL_spans_2 ?_
  refine EZ_istore_n [(2, .int 1), (1, .int 0), (0, .ref 0)] dL_spans_3 rfl (by decide) rfl ?_
  have J4 : ∀ (Nm : Nat) (mj : MI) (mlj : MJ) (xb xk : Int32) (i kk nn : Nat), 7 - i < Nm → ST V H mj mlj → xk.toInt = (i : Int) → 1 ≤ i → i ≤ 6 → BfP V i xb.toInt → kk ≤ 8 * i → nn ≤ 48 * i → EZ (fun s _ => Nc2 s) l RL cL_spans 6 (some .boolean) false [] (rmE 12 60 360) (wl mi ml) (TgM (wl mi ml) 60 360 (QI (fun r mi9 ml9 => ST V H mi9 ml9 ∧ r = 1)) noX) kk nn 4 [(0, .ref 0), (1, .int xb), (2, .int xk)] [] (wl mj mlj) := by
    intro Nm
    induction Nm with
    | zero => intros; omega
    | succ Nm ih4 =>
      intro mj mlj xb xk i kk nn hN4 S4 hk hi1 hi hb hkk hnn
      refine EZ_iload_n 2 dL_spans_4 rfl rfl ?_
      refine EZ_bipush 6 (by decide) dL_spans_5 ?_
      refine ZZ_ge (i : Int) 6 hk (show (6 : Int32).toInt = 6 from rfl) 128 dL_spans_7 (by decide) (fun c_7 => ?_) (fun c_7 => ?_)
      · skip
        refine EZ_aload_n 0 dL_spans_128 rfl rfl ?_
        refine EZ_iconst 1 (by decide) dL_spans_129 ?_
        refine EZ_callH zn1 (k_leastSpan l hfl S4 1) cwH_150 (As := [.ref 0, .int 1]) (st := []) rfl (rok (Nat.le_of_ble_eq_true rfl) (Nat.le_of_ble_eq_true rfl) (by omega) (by omega)) (Nat.le_of_ble_eq_true rfl) dL_spans_130 rfl (zkI (fun r_130 mi_130 ml_130 h_130 => ?_))
        obtain ⟨S_130, h_130⟩ := h_130
        (try rw [show (1 : Int32).toInt = 1 from (show (1 : Int32).toInt = 1 from rfl)] at h_130)
        have n_130 := LspP_1 (ls_l (i := 1) h_130 rfl (by decide) (by decide))
        clear h_130
        refine YZ_ne 0 n_130 140 dL_spans_133 (by decide) (fun c_133 => ?_) (fun c_133 => ?_)
        · exact absurd c_133 (by omega)
        · skip
          refine EZ_iconst 1 (by decide) dL_spans_136 ?_
          refine EZ_goto 141 dL_spans_137 (by decide) ?_
          refine EZ_zret rfl rfl (by omega) (by omega) dL_spans_141 ?_
          exact okQI ⟨S_130, rfl⟩
      · skip
        refine EZ_aload_n 0 dL_spans_10 rfl rfl ?_
        refine EZ_iload_n 2 dL_spans_11 rfl rfl ?_
        refine EZ_callH zn1 (k_leastSpan l hfl S4 xk) cwH_150 (As := [.ref 0, .int xk]) (st := []) rfl (rok (Nat.le_of_ble_eq_true rfl) (Nat.le_of_ble_eq_true rfl) (by omega) (by omega)) (Nat.le_of_ble_eq_true rfl) dL_spans_12 rfl (zkI (fun r_12 mi_12 ml_12 h_12 => ?_))
        obtain ⟨S_12, h_12⟩ := h_12
        (try rw [show xk.toInt = (i : Int) from hk] at h_12)
        have n_12 := ls_l h_12 rfl hi1 (by omega)
        clear h_12
        refine EZ_istore_n [(3, .int r_12), (0, .ref 0), (1, .int xb), (2, .int xk)] dL_spans_15 rfl (by decide) rfl ?_
        refine EZ_aload_n 1 dL_spans_16 rfl rfl ?_
        refine EZ_iload_n 3 dL_spans_17 rfl rfl ?_
        refine EZ_callH zn1 (k_bestRuler l hfl S_12 xk) cwH_152 (As := [.ref 0, .int xk]) (st := []) rfl (rok (Nat.le_of_ble_eq_true rfl) (Nat.le_of_ble_eq_true rfl) (by omega) (by omega)) (Nat.le_of_ble_eq_true rfl) dL_spans_18 rfl (zkJ (fun r_18 mi_18 ml_18 h_18 => ?_))
        obtain ⟨S_18, h_18⟩ := h_18
        (try rw [show xk.toInt = (i : Int) from hk] at h_18)
        have n_18 := be_l h_18 rfl hi1 (by omega)
        clear h_18
        refine EZ_lstore [(4, .long r_18), (3, .int r_12), (0, .ref 0), (1, .int xb), (2, .int xk)] dL_spans_21 (by decide) rfl ?_
        refine EZ_iload_n 1 dL_spans_23 rfl rfl ?_
        refine YZ_ge r_12.toInt rfl 57 dL_spans_24 (by decide) (fun c_24 => ?_) (fun c_24 => ?_)
        · skip
          have n_57 := bf_ok hb n_12 (by omega)
          obtain ⟨s, R, hrs, hs40, hsR, hmin, hbe⟩ := ls_pos n_12 (by omega) n_18
          obtain ⟨u1, u2, u3, u4, u5, _⟩ := rul_spec hi1 hsR
          refine EZ_iload_n 3 dL_spans_57 rfl rfl ?_
          refine YZ_lt xb.toInt rfl 118 dL_spans_58 (by decide) (fun c_58 => ?_) (fun c_58 => ?_)
          · exact absurd c_58 (by omega)
          · skip
            refine EZ_iload_n 1 dL_spans_61 rfl rfl ?_
            refine EZ_iload_n 3 dL_spans_62 rfl rfl ?_
            refine ZZ_lt r_12.toInt xb.toInt rfl rfl 118 dL_spans_63 (by decide) (fun c_63 => ?_) (fun c_63 => ?_)
            · exact absurd c_63 (by omega)
            · skip
              refine EZ_lload 0 dL_spans_66 rfl ?_
              refine EZ_callZ zn1 (z_many l hfl mi_18 ml_18 r_18) cw_L_139 (As := [.long r_18]) (st := []) ws_yL_many rfl (rok (Nat.le_of_ble_eq_true rfl) (Nat.le_of_ble_eq_true rfl) (by omega) (by omega)) (Nat.le_of_ble_eq_true rfl) dL_spans_68 rfl (zkI (fun r_68 mi_68 ml_68 h_68 => ?_))
              obtain ⟨e1_68, e2_68, h_68⟩ := h_68
              subst e1_68; subst e2_68
              have n_68 : r_68.toInt = (i : Int) := by rw [h_68, hbe, rb_pc (fun x hx => by have h9 := u3 x hx; omega) u2, u1]
              refine EZ_iload_n 4 dL_spans_71 rfl rfl ?_
              refine ZZ_ne (i : Int) (i : Int) n_68 hk 118 dL_spans_72 (by decide) (fun c_72 => ?_) (fun c_72 => ?_)
              · exact absurd c_72 (by omega)
              · skip
                refine EZ_lload 0 dL_spans_75 rfl ?_
                refine EZ_callZ zn1 (z_highest l hfl mi_18 ml_18 r_18) cw_L_156 (As := [.long r_18]) (st := []) ws_yL_highest rfl (rok (Nat.le_of_ble_eq_true rfl) (Nat.le_of_ble_eq_true rfl) (by omega) (by omega)) (Nat.le_of_ble_eq_true rfl) dL_spans_77 rfl (zkI (fun r_77 mi_77 ml_77 h_77 => ?_))
                obtain ⟨e1_77, e2_77, h_77⟩ := h_77
                subst e1_77; subst e2_77
                rw [hbe] at h_77
                have n_77 := hi_rb u3 (by omega) u5 h_77
                refine EZ_iload_n 1 dL_spans_80 rfl rfl ?_
                refine ZZ_ne (s : Int) r_12.toInt n_77 rfl 118 dL_spans_81 (by decide) (fun c_81 => ?_) (fun c_81 => ?_)
                · exact absurd c_81 (by omega)
                · skip
                  have n_90 : (r_18 &&& 1) = 1 := and1_b (by rw [hbe]; exact (rb_Bt (fun x hx => by have h9 := u3 x hx; omega) 0 (by decide)).mpr u4)
                  refine EZ_lload 0 dL_spans_84 rfl ?_
                  refine EZ_lconst 1 rfl dL_spans_86 ?_
                  refine EZ_land dL_spans_87 ?_
                  refine EZ_lconst 1 rfl dL_spans_88 ?_
                  refine EZ_lcmp dL_spans_89 ?_
                  refine YZ_ne ((lg_cmp (r_18 &&& 1) 1).toInt) rfl 118 dL_spans_90 (by decide) (fun c_90 => ?_) (fun c_90 => ?_)
                  · exact absurd (lc_z n_90) c_90
                  · skip
                    refine EZ_aload_n 2 dL_spans_93 rfl rfl ?_
                    refine EZ_iload_n 4 dL_spans_94 rfl rfl ?_
                    refine EZ_iload_n 1 dL_spans_95 rfl rfl ?_
                    refine EZ_callH zn1 (k_rulers l hfl S_18 xk r_12) cwH_154 (As := [.ref 0, .int xk, .int r_12]) (st := []) rfl (rok (Nat.le_of_ble_eq_true rfl) (Nat.le_of_ble_eq_true rfl) (by omega) (by omega)) (Nat.le_of_ble_eq_true rfl) dL_spans_96 rfl (zkI (fun r_96 mi_96 ml_96 h_96 => ?_))
                    obtain ⟨S_96, h_96⟩ := h_96
                    (try rw [hk] at h_96)
                    have n_96 := (ru_l (s := s) h_96 rfl hrs hi1 (by omega) hs40).2 (by rw [hsR]; intro z; cases z)
                    clear h_96
                    refine EZ_iconst 1 (by decide) dL_spans_99 ?_
                    refine ZZ_lt r_96.toInt 1 rfl (show (1 : Int32).toInt = 1 from rfl) 118 dL_spans_100 (by decide) (fun c_100 => ?_) (fun c_100 => ?_)
                    · exact absurd c_100 (by omega)
                    · skip
                      refine EZ_iload_n 1 dL_spans_103 rfl rfl ?_
                      refine YZ_le r_12.toInt rfl 120 dL_spans_104 (by decide) (fun c_104 => ?_) (fun c_104 => ?_)
                      · skip
                        refine EZ_iload_n 1 dL_spans_120 rfl rfl ?_
                        refine EZ_istore_n [(1, .int r_12), (4, .long r_18), (3, .int r_12), (0, .ref 0), (2, .int xk)] dL_spans_121 rfl (by decide) rfl ?_
                        refine EZ_iinc 4 (xk + 1) [(2, .int (xk + 1)), (1, .int r_12), (4, .long r_18), (3, .int r_12), (0, .ref 0)] dL_spans_122 rfl rfl (by decide) rfl ?_
                        refine EZ_goto 4 dL_spans_125 (by decide) ?_
                        refine EZ_sub [4, 1, 0] rfl ?_
                        exact ih4 mi_96 ml_96 r_12 (xk + 1) (i + 1) _ _ (by omega) S_96 ((tI_add hk (show (1 : Int32).toInt = 1 from rfl) (by omega)).trans (by omega)) (by omega) (by omega) (bf_s hi1 n_12) (by omega) (by omega)
                      · skip
                        refine EZ_aload_n 2 dL_spans_107 rfl rfl ?_
                        refine EZ_iload_n 4 dL_spans_108 rfl rfl ?_
                        refine EZ_iload_n 1 dL_spans_109 rfl rfl ?_
                        refine EZ_iconst 1 (by decide) dL_spans_110 ?_
                        refine EZ_isub dL_spans_111 ?_
                        refine EZ_callH zn1 (k_rulers l hfl S_96 xk (r_12 - 1)) cwH_154 (As := [.ref 0, .int xk, .int (r_12 - 1)]) (st := []) rfl (rok (Nat.le_of_ble_eq_true rfl) (Nat.le_of_ble_eq_true rfl) (by omega) (by omega)) (Nat.le_of_ble_eq_true rfl) dL_spans_112 rfl (zkI (fun r_112 mi_112 ml_112 h_112 => ?_))
                        obtain ⟨S_112, h_112⟩ := h_112
                        (try rw [show xk.toInt = (i : Int) from hk] at h_112)
                        (try rw [show (r_12 - 1).toInt = (r_12.toInt - 1) from (tI_sub rfl (show (1 : Int32).toInt = 1 from rfl) (by omega))] at h_112)
                        have n_112 := (ru_l (s := s - 1) h_112 rfl (by omega) hi1 (by omega) (by omega)).1 (hmin _ (by omega))
                        clear h_112
                        refine YZ_eq 0 n_112 120 dL_spans_115 (by decide) (fun c_115 => ?_) (fun c_115 => ?_)
                        · skip
                          refine EZ_iload_n 1 dL_spans_120 rfl rfl ?_
                          refine EZ_istore_n [(1, .int r_12), (4, .long r_18), (3, .int r_12), (0, .ref 0), (2, .int xk)] dL_spans_121 rfl (by decide) rfl ?_
                          refine EZ_iinc 4 (xk + 1) [(2, .int (xk + 1)), (1, .int r_12), (4, .long r_18), (3, .int r_12), (0, .ref 0)] dL_spans_122 rfl rfl (by decide) rfl ?_
                          refine EZ_goto 4 dL_spans_125 (by decide) ?_
                          refine EZ_sub [4, 1, 0] rfl ?_
                          exact ih4 mi_112 ml_112 r_12 (xk + 1) (i + 1) _ _ (by omega) S_112 ((tI_add hk (show (1 : Int32).toInt = 1 from rfl) (by omega)).trans (by omega)) (by omega) (by omega) (bf_s hi1 n_12) (by omega) (by omega)
                        · exact absurd c_115 (by omega)
        · skip
          have n_31 : r_18 = 0 := n_18.elim (fun q => q.1) (fun q => by obtain ⟨s, R, q1, q2, _⟩ := q; rw [ls_neg n_12 (by omega) s q1] at q2; cases q2)
          refine EZ_lload 0 dL_spans_27 rfl ?_
          refine EZ_lconst 0 rfl dL_spans_29 ?_
          refine EZ_lcmp dL_spans_30 ?_
          refine YZ_ne ((lg_cmp r_18 0).toInt) rfl 55 dL_spans_31 (by decide) (fun c_31 => ?_) (fun c_31 => ?_)
          · exact absurd (lc_z n_31) c_31
          · skip
            refine EZ_aload_n 2 dL_spans_34 rfl rfl ?_
            refine EZ_iload_n 4 dL_spans_35 rfl rfl ?_
            refine EZ_bipush 40 (by decide) dL_spans_36 ?_
            refine EZ_callH zn1 (k_rulers l hfl S_18 xk 40) cwH_154 (As := [.ref 0, .int xk, .int 40]) (st := []) rfl (rok (Nat.le_of_ble_eq_true rfl) (Nat.le_of_ble_eq_true rfl) (by omega) (by omega)) (Nat.le_of_ble_eq_true rfl) dL_spans_38 rfl (zkI (fun r_38 mi_38 ml_38 h_38 => ?_))
            obtain ⟨S_38, h_38⟩ := h_38
            (try rw [show xk.toInt = (i : Int) from hk] at h_38)
            (try rw [show (40 : Int32).toInt = 40 from (show (40 : Int32).toInt = 40 from rfl)] at h_38)
            have n_38 := (ru_l (s := 40) h_38 rfl rfl hi1 (by omega) (by omega)).1 (ls_neg n_12 (by omega) 40 (Nat.le_refl _))
            clear h_38
            refine YZ_ne 0 n_38 55 dL_spans_41 (by decide) (fun c_41 => ?_) (fun c_41 => ?_)
            · exact absurd c_41 (by omega)
            · skip
              refine EZ_aload_n 2 dL_spans_44 rfl rfl ?_
              refine EZ_iload_n 4 dL_spans_45 rfl rfl ?_
              refine EZ_iconst 1 (by decide) dL_spans_46 ?_
              refine EZ_iadd dL_spans_47 ?_
              refine EZ_callH zn1 (k_leastSpan l hfl S_38 (xk + 1)) cwH_150 (As := [.ref 0, .int (xk + 1)]) (st := []) rfl (rok (Nat.le_of_ble_eq_true rfl) (Nat.le_of_ble_eq_true rfl) (by omega) (by omega)) (Nat.le_of_ble_eq_true rfl) dL_spans_48 rfl (zkI (fun r_48 mi_48 ml_48 h_48 => ?_))
              obtain ⟨S_48, h_48⟩ := h_48
              (try rw [show (xk + 1).toInt = ((i : Int) + 1) from (tI_add hk (show (1 : Int32).toInt = 1 from rfl) (by omega))] at h_48)
              have n_48 := (LspP_m hi1 n_12 (ls_l (i := i + 1) h_48 (by omega) (by omega) (by omega))).1 (by omega)
              clear h_48
              refine EZ_iconst (-1) (by decide) dL_spans_51 ?_
              refine ZZ_eq (-1) (-1) n_48 (show ((-1) : Int32).toInt = (-1) from rfl) 120 dL_spans_52 (by decide) (fun c_52 => ?_) (fun c_52 => ?_)
              · skip
                refine EZ_iload_n 1 dL_spans_120 rfl rfl ?_
                refine EZ_istore_n [(1, .int r_12), (4, .long r_18), (3, .int r_12), (0, .ref 0), (2, .int xk)] dL_spans_121 rfl (by decide) rfl ?_
                refine EZ_iinc 4 (xk + 1) [(2, .int (xk + 1)), (1, .int r_12), (4, .long r_18), (3, .int r_12), (0, .ref 0)] dL_spans_122 rfl rfl (by decide) rfl ?_
                refine EZ_goto 4 dL_spans_125 (by decide) ?_
                refine EZ_sub [4, 1, 0] rfl ?_
                exact ih4 mi_48 ml_48 r_12 (xk + 1) (i + 1) _ _ (by omega) S_48 ((tI_add hk (show (1 : Int32).toInt = 1 from rfl) (by omega)).trans (by omega)) (by omega) (by omega) (bf_s hi1 n_12) (by omega) (by omega)
              · exact absurd c_52 (by omega)
  refine EZ_sub [2, 1, 0] rfl ?_
  exact J4 _ mi ml 0 1 1 0 0 (Nat.lt_succ_self _) S rfl (Nat.le_refl _) (by decide) bf_0 (by omega) (by omega)
set_option maxHeartbeats 3200000 in
set_option maxRecDepth 100000 in
theorem z_known (l : Launch) (hfl : l.stackTraces = false) {V : Nat → Int32} {mi : MI} {ml : MJ} (S : ST V [] mi ml) (xl : Int32) (hl : 0 ≤ xl.toInt ∧ xl.toInt ≤ 180) : CtH l yL_known (.code yL_known cL_known 5 (some .boolean)) 12 30 180 [.ref 0, .int xl] (wl mi ml) (QI (fun r mi9 ml9 => ST V [] mi9 ml9 ∧ r = 1)) noX := by
  have wn := wf_n S.1
  have wm := wf_m S.1
  have wt := wf_t S.1
  have w9 := S.1.1
  refine CtZ_of pn_L hfl (Nat.le_of_ble_eq_true rfl) ?_
  show EZ (fun s _ => Nc2 s) l RL cL_known 5 (some .boolean) false [] (rmE 12 30 180) (wl mi ml) (TgM (wl mi ml) 30 180 (QI (fun r mi9 ml9 => ST V [] mi9 ml9 ∧ r = 1)) noX) 0 0 0 [(0, .ref 0), (1, .int xl)] [] (wl mi ml)
  refine EZ_iconst 0 (by decide) dL_known_0 ?_
  refine EZ_istore_n [(2, .int 0), (0, .ref 0), (1, .int xl)] dL_known_1 rfl (by decide) rfl ?_
  refine EZ_aload_n 1 dL_known_2 rfl rfl ?_
  refine EZ_iconst 3 (by decide) dL_known_3 ?_
  refine EZ_iload_n 2 dL_known_4 rfl rfl ?_
  refine EZ_iconst 0 (by decide) dL_known_5 ?_
  refine EZ_callH zn1 (k_setProducts l hfl S 3 xl 0) cwH_159 (As := [.ref 0, .int 3, .int xl, .int 0]) (st := []) rfl (rok (Nat.le_of_ble_eq_true rfl) (Nat.le_of_ble_eq_true rfl) (by omega) (by omega)) (Nat.le_of_ble_eq_true rfl) dL_known_6 rfl (zkI (fun r_6 mi_6 ml_6 h_6 => ?_))
  obtain ⟨V_6, H_6, S_6, h_6⟩ := h_6
  (try rw [show (3 : Int32).toInt = 3 from (show (3 : Int32).toInt = 3 from rfl)] at h_6)
  (try rw [show (0 : Int32).toInt = 0 from (show (0 : Int32).toInt = 0 from rfl)] at h_6)
  obtain ⟨_, n_6, e1_6, e2_6⟩ := h_6.resolve_left (fun q => q.1 (by omega))
  subst e1_6; subst e2_6
  refine YZ_lt r_6.toInt rfl 25 dL_known_9 (by decide) (fun c_9 => ?_) (fun c_9 => ?_)
  · exact absurd c_9 (by rw [n_6]; omega)
  · skip
    refine EZ_aload_n 1 dL_known_12 rfl rfl ?_
    refine EZ_iconst 0 (by decide) dL_known_13 ?_
    refine EZ_iconst 1 (by decide) dL_known_14 ?_
    refine EZ_callH zn1 (k_setSpacing l hfl S_6 0 1) cwH_162 (As := [.ref 0, .int 0, .int 1]) (st := []) rfl (rok (Nat.le_of_ble_eq_true rfl) (Nat.le_of_ble_eq_true rfl) (by omega) (by omega)) (Nat.le_of_ble_eq_true rfl) dL_known_15 rfl (zkI (fun r_15 mi_15 ml_15 h_15 => ?_))
    obtain ⟨V_15, H_15, S_15, h_15⟩ := h_15
    (try rw [show (0 : Int32).toInt = 0 from (show (0 : Int32).toInt = 0 from rfl)] at h_15)
    (try rw [show (1 : Int32).toInt = 1 from (show (1 : Int32).toInt = 1 from rfl)] at h_15)
    obtain ⟨_, n_15, e1_15, e2_15⟩ := h_15.resolve_left (fun q => q.1 (by omega))
    subst e1_15; subst e2_15
    refine YZ_lt r_15.toInt rfl 25 dL_known_18 (by decide) (fun c_18 => ?_) (fun c_18 => ?_)
    · exact absurd c_18 (by rw [n_15]; show ¬ (V 3).toInt < 0; omega)
    · skip
      refine EZ_iconst 1 (by decide) dL_known_21 ?_
      refine EZ_goto 26 dL_known_22 (by decide) ?_
      refine EZ_istore_n [(3, .int 1), (2, .int 0), (0, .ref 0), (1, .int xl)] dL_known_26 rfl (by decide) rfl ?_
      refine EZ_iconst 1 (by decide) dL_known_27 ?_
      refine EZ_istore [(4, .int 1), (3, .int 1), (2, .int 0), (0, .ref 0), (1, .int xl)] dL_known_28 (by decide) rfl ?_
      have J30 : ∀ (Nm : Nat) (mj : MI) (mlj : MJ) (xk : Int32) (i kk nn : Nat), 8 - i < Nm → ST (spcV (prdV V 3 xl 0) 0 1) [prdV V 3 xl 0, V] mj mlj → xk.toInt = (i : Int) → 1 ≤ i → i ≤ 7 → kk ≤ 4 + i → nn ≤ 24 + 6 * i → EZ (fun s _ => Nc2 s) l RL cL_known 5 (some .boolean) false [] (rmE 12 30 180) (wl mi ml) (TgM (wl mi ml) 30 180 (QI (fun r mi9 ml9 => ST V [] mi9 ml9 ∧ r = 1)) noX) kk nn 30 [(0, .ref 0), (3, .int 1), (4, .int xk)] [] (wl mj mlj) := by
        intro Nm
        induction Nm with
        | zero => intros; omega
        | succ Nm ih30 =>
          intro mj mlj xk i kk nn hN30 S30 hk hi1 hi hkk hnn
          refine EZ_iload 2 dL_known_30 rfl ?_
          refine EZ_bipush 7 (by decide) dL_known_32 ?_
          refine ZZ_ge (i : Int) 7 hk (show (7 : Int32).toInt = 7 from rfl) 118 dL_known_34 (by decide) (fun c_34 => ?_) (fun c_34 => ?_)
          · skip
            refine EZ_iload_n 1 dL_known_118 rfl rfl ?_
            refine YZ_eq 1 (show (1 : Int32).toInt = 1 from rfl) 140 dL_known_119 (by decide) (fun c_119 => ?_) (fun c_119 => ?_)
            · exact absurd c_119 (by decide)
            · skip
              refine EZ_aload_n 0 dL_known_122 rfl rfl ?_
              refine EZ_callH zn1 (k_undo l hfl S30) cwH_147 (As := [.ref 0]) (st := []) rfl (rok (Nat.le_of_ble_eq_true rfl) (Nat.le_of_ble_eq_true rfl) (by omega) (by omega)) (Nat.le_of_ble_eq_true rfl) dL_known_123 rfl (zkI (fun r_123 mi_123 ml_123 h_123 => ?_))
              obtain ⟨V_123, H_123, S_123, h_123⟩ := h_123
              obtain ⟨U1, T1, e1_123, e2_123, e3_123, n_123⟩ := h_123.resolve_left (fun q => by cases q.1)
              cases e1_123
              subst e2_123; subst e3_123
              refine YZ_lt r_123.toInt rfl 140 dL_known_126 (by decide) (fun c_126 => ?_) (fun c_126 => ?_)
              · exact absurd c_126 (by omega)
              · skip
                refine EZ_aload_n 0 dL_known_129 rfl rfl ?_
                refine EZ_callH zn1 (k_undo l hfl S_123) cwH_147 (As := [.ref 0]) (st := []) rfl (rok (Nat.le_of_ble_eq_true rfl) (Nat.le_of_ble_eq_true rfl) (by omega) (by omega)) (Nat.le_of_ble_eq_true rfl) dL_known_130 rfl (zkI (fun r_130 mi_130 ml_130 h_130 => ?_))
                obtain ⟨V_130, H_130, S_130, h_130⟩ := h_130
                obtain ⟨U2, T2, e1_130, e2_130, e3_130, n_130⟩ := h_130.resolve_left (fun q => by cases q.1)
                cases e1_130
                subst e2_130; subst e3_130
                refine YZ_lt r_130.toInt rfl 140 dL_known_133 (by decide) (fun c_133 => ?_) (fun c_133 => ?_)
                · exact absurd c_133 (by omega)
                · skip
                  refine EZ_iconst 1 (by decide) dL_known_136 ?_
                  refine EZ_goto 141 dL_known_137 (by decide) ?_
                  refine EZ_zret rfl rfl (by omega) (by omega) dL_known_141 ?_
                  exact okQI ⟨S_130, rfl⟩
          · skip
            refine EZ_iload 2 dL_known_37 rfl ?_
            refine EZ_iconst 1 (by decide) dL_known_39 ?_
            refine ZZ_ne (i : Int) 1 hk (show (1 : Int32).toInt = 1 from rfl) 47 dL_known_40 (by decide) (fun c_40 => ?_) (fun c_40 => ?_)
            · skip
              refine EZ_iload 2 dL_known_47 rfl ?_
              refine EZ_iconst 2 (by decide) dL_known_49 ?_
              refine ZZ_ne (i : Int) 2 hk (show (2 : Int32).toInt = 2 from rfl) 57 dL_known_50 (by decide) (fun c_50 => ?_) (fun c_50 => ?_)
              · skip
                refine EZ_iload 2 dL_known_57 rfl ?_
                refine EZ_iconst 3 (by decide) dL_known_59 ?_
                refine ZZ_ne (i : Int) 3 hk (show (3 : Int32).toInt = 3 from rfl) 67 dL_known_60 (by decide) (fun c_60 => ?_) (fun c_60 => ?_)
                · skip
                  refine EZ_iload 2 dL_known_67 rfl ?_
                  refine EZ_iconst 4 (by decide) dL_known_69 ?_
                  refine ZZ_ne (i : Int) 4 hk (show (4 : Int32).toInt = 4 from rfl) 78 dL_known_70 (by decide) (fun c_70 => ?_) (fun c_70 => ?_)
                  · skip
                    refine EZ_iload 2 dL_known_78 rfl ?_
                    refine EZ_iconst 5 (by decide) dL_known_80 ?_
                    refine ZZ_ne (i : Int) 5 hk (show (5 : Int32).toInt = 5 from rfl) 89 dL_known_81 (by decide) (fun c_81 => ?_) (fun c_81 => ?_)
                    · skip
                      refine EZ_bipush 17 (by decide) dL_known_89 ?_
                      refine EZ_istore_n [(2, .int 17), (0, .ref 0), (3, .int 1), (4, .int xk)] dL_known_91 rfl (by decide) rfl ?_
                      refine EZ_iload_n 2 dL_known_92 rfl rfl ?_
                      refine YZ_eq 1 (show (1 : Int32).toInt = 1 from rfl) 110 dL_known_93 (by decide) (fun c_93 => ?_) (fun c_93 => ?_)
                      · exact absurd c_93 (by decide)
                      · skip
                        refine EZ_aload_n 1 dL_known_96 rfl rfl ?_
                        refine EZ_iload 3 dL_known_97 rfl ?_
                        refine EZ_callH zn1 (k_leastSpan l hfl S30 xk) cwH_150 (As := [.ref 0, .int xk]) (st := []) rfl (rok (Nat.le_of_ble_eq_true rfl) (Nat.le_of_ble_eq_true rfl) (by omega) (by omega)) (Nat.le_of_ble_eq_true rfl) dL_known_99 rfl (zkI (fun r_99 mi_99 ml_99 h_99 => ?_))
                        obtain ⟨S_99, h_99⟩ := h_99
                        (try rw [show xk.toInt = (i : Int) from hk] at h_99)
                        have n_99 := known_L (V := (spcV (prdV V 3 xl 0) 0 1)) ⟨rfl, ⟨hl.1, hl.2⟩, rfl, rfl⟩ hi1 (by omega) (ls_l h_99 rfl hi1 (by omega))
                        clear h_99
                        refine EZ_iload_n 0 dL_known_102 rfl rfl ?_
                        refine ZZ_ne r_99.toInt 17 rfl (show (17 : Int32).toInt = 17 from rfl) 110 dL_known_103 (by decide) (fun c_103 => ?_) (fun c_103 => ?_)
                        · (rw [show i = 6 by omega] at n_99; have h9 : dueN 6 = 17 := rfl; exact absurd c_103 (by omega))
                        · skip
                          refine EZ_iconst 1 (by decide) dL_known_106 ?_
                          refine EZ_goto 111 dL_known_107 (by decide) ?_
                          refine EZ_istore_n [(3, .int 1), (2, .int 17), (0, .ref 0), (4, .int xk)] dL_known_111 rfl (by decide) rfl ?_
                          refine EZ_iinc 3 (xk + 1) [(4, .int (xk + 1)), (3, .int 1), (2, .int 17), (0, .ref 0)] dL_known_112 rfl rfl (by decide) rfl ?_
                          refine EZ_goto 30 dL_known_115 (by decide) ?_
                          refine EZ_sub [3, 1, 0] rfl ?_
                          exact ih30 mi_99 ml_99 (xk + 1) (i + 1) _ _ (by omega) S_99 ((tI_add hk (show (1 : Int32).toInt = 1 from rfl) (by omega)).trans (by omega)) (by omega) (by omega) (by omega) (by omega)
                    · skip
                      refine EZ_bipush 11 (by decide) dL_known_84 ?_
                      refine EZ_goto 91 dL_known_86 (by decide) ?_
                      refine EZ_istore_n [(2, .int 11), (0, .ref 0), (3, .int 1), (4, .int xk)] dL_known_91 rfl (by decide) rfl ?_
                      refine EZ_iload_n 2 dL_known_92 rfl rfl ?_
                      refine YZ_eq 1 (show (1 : Int32).toInt = 1 from rfl) 110 dL_known_93 (by decide) (fun c_93 => ?_) (fun c_93 => ?_)
                      · exact absurd c_93 (by decide)
                      · skip
                        refine EZ_aload_n 1 dL_known_96 rfl rfl ?_
                        refine EZ_iload 3 dL_known_97 rfl ?_
                        refine EZ_callH zn1 (k_leastSpan l hfl S30 xk) cwH_150 (As := [.ref 0, .int xk]) (st := []) rfl (rok (Nat.le_of_ble_eq_true rfl) (Nat.le_of_ble_eq_true rfl) (by omega) (by omega)) (Nat.le_of_ble_eq_true rfl) dL_known_99 rfl (zkI (fun r_99 mi_99 ml_99 h_99 => ?_))
                        obtain ⟨S_99, h_99⟩ := h_99
                        (try rw [show xk.toInt = (i : Int) from hk] at h_99)
                        have n_99 := known_L (V := (spcV (prdV V 3 xl 0) 0 1)) ⟨rfl, ⟨hl.1, hl.2⟩, rfl, rfl⟩ hi1 (by omega) (ls_l h_99 rfl hi1 (by omega))
                        clear h_99
                        refine EZ_iload_n 0 dL_known_102 rfl rfl ?_
                        refine ZZ_ne r_99.toInt 11 rfl (show (11 : Int32).toInt = 11 from rfl) 110 dL_known_103 (by decide) (fun c_103 => ?_) (fun c_103 => ?_)
                        · (rw [show i = 5 by omega] at n_99; have h9 : dueN 5 = 11 := rfl; exact absurd c_103 (by omega))
                        · skip
                          refine EZ_iconst 1 (by decide) dL_known_106 ?_
                          refine EZ_goto 111 dL_known_107 (by decide) ?_
                          refine EZ_istore_n [(3, .int 1), (2, .int 11), (0, .ref 0), (4, .int xk)] dL_known_111 rfl (by decide) rfl ?_
                          refine EZ_iinc 3 (xk + 1) [(4, .int (xk + 1)), (3, .int 1), (2, .int 11), (0, .ref 0)] dL_known_112 rfl rfl (by decide) rfl ?_
                          refine EZ_goto 30 dL_known_115 (by decide) ?_
                          refine EZ_sub [3, 1, 0] rfl ?_
                          exact ih30 mi_99 ml_99 (xk + 1) (i + 1) _ _ (by omega) S_99 ((tI_add hk (show (1 : Int32).toInt = 1 from rfl) (by omega)).trans (by omega)) (by omega) (by omega) (by omega) (by omega)
                  · skip
                    refine EZ_bipush 6 (by decide) dL_known_73 ?_
                    refine EZ_goto 91 dL_known_75 (by decide) ?_
                    refine EZ_istore_n [(2, .int 6), (0, .ref 0), (3, .int 1), (4, .int xk)] dL_known_91 rfl (by decide) rfl ?_
                    refine EZ_iload_n 2 dL_known_92 rfl rfl ?_
                    refine YZ_eq 1 (show (1 : Int32).toInt = 1 from rfl) 110 dL_known_93 (by decide) (fun c_93 => ?_) (fun c_93 => ?_)
                    · exact absurd c_93 (by decide)
                    · skip
                      refine EZ_aload_n 1 dL_known_96 rfl rfl ?_
                      refine EZ_iload 3 dL_known_97 rfl ?_
                      refine EZ_callH zn1 (k_leastSpan l hfl S30 xk) cwH_150 (As := [.ref 0, .int xk]) (st := []) rfl (rok (Nat.le_of_ble_eq_true rfl) (Nat.le_of_ble_eq_true rfl) (by omega) (by omega)) (Nat.le_of_ble_eq_true rfl) dL_known_99 rfl (zkI (fun r_99 mi_99 ml_99 h_99 => ?_))
                      obtain ⟨S_99, h_99⟩ := h_99
                      (try rw [show xk.toInt = (i : Int) from hk] at h_99)
                      have n_99 := known_L (V := (spcV (prdV V 3 xl 0) 0 1)) ⟨rfl, ⟨hl.1, hl.2⟩, rfl, rfl⟩ hi1 (by omega) (ls_l h_99 rfl hi1 (by omega))
                      clear h_99
                      refine EZ_iload_n 0 dL_known_102 rfl rfl ?_
                      refine ZZ_ne r_99.toInt 6 rfl (show (6 : Int32).toInt = 6 from rfl) 110 dL_known_103 (by decide) (fun c_103 => ?_) (fun c_103 => ?_)
                      · (rw [show i = 4 by omega] at n_99; have h9 : dueN 4 = 6 := rfl; exact absurd c_103 (by omega))
                      · skip
                        refine EZ_iconst 1 (by decide) dL_known_106 ?_
                        refine EZ_goto 111 dL_known_107 (by decide) ?_
                        refine EZ_istore_n [(3, .int 1), (2, .int 6), (0, .ref 0), (4, .int xk)] dL_known_111 rfl (by decide) rfl ?_
                        refine EZ_iinc 3 (xk + 1) [(4, .int (xk + 1)), (3, .int 1), (2, .int 6), (0, .ref 0)] dL_known_112 rfl rfl (by decide) rfl ?_
                        refine EZ_goto 30 dL_known_115 (by decide) ?_
                        refine EZ_sub [3, 1, 0] rfl ?_
                        exact ih30 mi_99 ml_99 (xk + 1) (i + 1) _ _ (by omega) S_99 ((tI_add hk (show (1 : Int32).toInt = 1 from rfl) (by omega)).trans (by omega)) (by omega) (by omega) (by omega) (by omega)
                · skip
                  refine EZ_iconst 3 (by decide) dL_known_63 ?_
                  refine EZ_goto 91 dL_known_64 (by decide) ?_
                  refine EZ_istore_n [(2, .int 3), (0, .ref 0), (3, .int 1), (4, .int xk)] dL_known_91 rfl (by decide) rfl ?_
                  refine EZ_iload_n 2 dL_known_92 rfl rfl ?_
                  refine YZ_eq 1 (show (1 : Int32).toInt = 1 from rfl) 110 dL_known_93 (by decide) (fun c_93 => ?_) (fun c_93 => ?_)
                  · exact absurd c_93 (by decide)
                  · skip
                    refine EZ_aload_n 1 dL_known_96 rfl rfl ?_
                    refine EZ_iload 3 dL_known_97 rfl ?_
                    refine EZ_callH zn1 (k_leastSpan l hfl S30 xk) cwH_150 (As := [.ref 0, .int xk]) (st := []) rfl (rok (Nat.le_of_ble_eq_true rfl) (Nat.le_of_ble_eq_true rfl) (by omega) (by omega)) (Nat.le_of_ble_eq_true rfl) dL_known_99 rfl (zkI (fun r_99 mi_99 ml_99 h_99 => ?_))
                    obtain ⟨S_99, h_99⟩ := h_99
                    (try rw [show xk.toInt = (i : Int) from hk] at h_99)
                    have n_99 := known_L (V := (spcV (prdV V 3 xl 0) 0 1)) ⟨rfl, ⟨hl.1, hl.2⟩, rfl, rfl⟩ hi1 (by omega) (ls_l h_99 rfl hi1 (by omega))
                    clear h_99
                    refine EZ_iload_n 0 dL_known_102 rfl rfl ?_
                    refine ZZ_ne r_99.toInt 3 rfl (show (3 : Int32).toInt = 3 from rfl) 110 dL_known_103 (by decide) (fun c_103 => ?_) (fun c_103 => ?_)
                    · (rw [show i = 3 by omega] at n_99; have h9 : dueN 3 = 3 := rfl; exact absurd c_103 (by omega))
                    · skip
                      refine EZ_iconst 1 (by decide) dL_known_106 ?_
                      refine EZ_goto 111 dL_known_107 (by decide) ?_
                      refine EZ_istore_n [(3, .int 1), (2, .int 3), (0, .ref 0), (4, .int xk)] dL_known_111 rfl (by decide) rfl ?_
                      refine EZ_iinc 3 (xk + 1) [(4, .int (xk + 1)), (3, .int 1), (2, .int 3), (0, .ref 0)] dL_known_112 rfl rfl (by decide) rfl ?_
                      refine EZ_goto 30 dL_known_115 (by decide) ?_
                      refine EZ_sub [3, 1, 0] rfl ?_
                      exact ih30 mi_99 ml_99 (xk + 1) (i + 1) _ _ (by omega) S_99 ((tI_add hk (show (1 : Int32).toInt = 1 from rfl) (by omega)).trans (by omega)) (by omega) (by omega) (by omega) (by omega)
              · skip
                refine EZ_iconst 1 (by decide) dL_known_53 ?_
                refine EZ_goto 91 dL_known_54 (by decide) ?_
                refine EZ_istore_n [(2, .int 1), (0, .ref 0), (3, .int 1), (4, .int xk)] dL_known_91 rfl (by decide) rfl ?_
                refine EZ_iload_n 2 dL_known_92 rfl rfl ?_
                refine YZ_eq 1 (show (1 : Int32).toInt = 1 from rfl) 110 dL_known_93 (by decide) (fun c_93 => ?_) (fun c_93 => ?_)
                · exact absurd c_93 (by decide)
                · skip
                  refine EZ_aload_n 1 dL_known_96 rfl rfl ?_
                  refine EZ_iload 3 dL_known_97 rfl ?_
                  refine EZ_callH zn1 (k_leastSpan l hfl S30 xk) cwH_150 (As := [.ref 0, .int xk]) (st := []) rfl (rok (Nat.le_of_ble_eq_true rfl) (Nat.le_of_ble_eq_true rfl) (by omega) (by omega)) (Nat.le_of_ble_eq_true rfl) dL_known_99 rfl (zkI (fun r_99 mi_99 ml_99 h_99 => ?_))
                  obtain ⟨S_99, h_99⟩ := h_99
                  (try rw [show xk.toInt = (i : Int) from hk] at h_99)
                  have n_99 := known_L (V := (spcV (prdV V 3 xl 0) 0 1)) ⟨rfl, ⟨hl.1, hl.2⟩, rfl, rfl⟩ hi1 (by omega) (ls_l h_99 rfl hi1 (by omega))
                  clear h_99
                  refine EZ_iload_n 0 dL_known_102 rfl rfl ?_
                  refine ZZ_ne r_99.toInt 1 rfl (show (1 : Int32).toInt = 1 from rfl) 110 dL_known_103 (by decide) (fun c_103 => ?_) (fun c_103 => ?_)
                  · (rw [show i = 2 by omega] at n_99; have h9 : dueN 2 = 1 := rfl; exact absurd c_103 (by omega))
                  · skip
                    refine EZ_iconst 1 (by decide) dL_known_106 ?_
                    refine EZ_goto 111 dL_known_107 (by decide) ?_
                    refine EZ_istore_n [(3, .int 1), (2, .int 1), (0, .ref 0), (4, .int xk)] dL_known_111 rfl (by decide) rfl ?_
                    refine EZ_iinc 3 (xk + 1) [(4, .int (xk + 1)), (3, .int 1), (2, .int 1), (0, .ref 0)] dL_known_112 rfl rfl (by decide) rfl ?_
                    refine EZ_goto 30 dL_known_115 (by decide) ?_
                    refine EZ_sub [3, 1, 0] rfl ?_
                    exact ih30 mi_99 ml_99 (xk + 1) (i + 1) _ _ (by omega) S_99 ((tI_add hk (show (1 : Int32).toInt = 1 from rfl) (by omega)).trans (by omega)) (by omega) (by omega) (by omega) (by omega)
            · skip
              refine EZ_iconst 0 (by decide) dL_known_43 ?_
              refine EZ_goto 91 dL_known_44 (by decide) ?_
              refine EZ_istore_n [(2, .int 0), (0, .ref 0), (3, .int 1), (4, .int xk)] dL_known_91 rfl (by decide) rfl ?_
              refine EZ_iload_n 2 dL_known_92 rfl rfl ?_
              refine YZ_eq 1 (show (1 : Int32).toInt = 1 from rfl) 110 dL_known_93 (by decide) (fun c_93 => ?_) (fun c_93 => ?_)
              · exact absurd c_93 (by decide)
              · skip
                refine EZ_aload_n 1 dL_known_96 rfl rfl ?_
                refine EZ_iload 3 dL_known_97 rfl ?_
                refine EZ_callH zn1 (k_leastSpan l hfl S30 xk) cwH_150 (As := [.ref 0, .int xk]) (st := []) rfl (rok (Nat.le_of_ble_eq_true rfl) (Nat.le_of_ble_eq_true rfl) (by omega) (by omega)) (Nat.le_of_ble_eq_true rfl) dL_known_99 rfl (zkI (fun r_99 mi_99 ml_99 h_99 => ?_))
                obtain ⟨S_99, h_99⟩ := h_99
                (try rw [show xk.toInt = (i : Int) from hk] at h_99)
                have n_99 := known_L (V := (spcV (prdV V 3 xl 0) 0 1)) ⟨rfl, ⟨hl.1, hl.2⟩, rfl, rfl⟩ hi1 (by omega) (ls_l h_99 rfl hi1 (by omega))
                clear h_99
                refine EZ_iload_n 0 dL_known_102 rfl rfl ?_
                refine ZZ_ne r_99.toInt 0 rfl (show (0 : Int32).toInt = 0 from rfl) 110 dL_known_103 (by decide) (fun c_103 => ?_) (fun c_103 => ?_)
                · (rw [show i = 1 by omega] at n_99; have h9 : dueN 1 = 0 := rfl; exact absurd c_103 (by omega))
                · skip
                  refine EZ_iconst 1 (by decide) dL_known_106 ?_
                  refine EZ_goto 111 dL_known_107 (by decide) ?_
                  refine EZ_istore_n [(3, .int 1), (2, .int 0), (0, .ref 0), (4, .int xk)] dL_known_111 rfl (by decide) rfl ?_
                  refine EZ_iinc 3 (xk + 1) [(4, .int (xk + 1)), (3, .int 1), (2, .int 0), (0, .ref 0)] dL_known_112 rfl rfl (by decide) rfl ?_
                  refine EZ_goto 30 dL_known_115 (by decide) ?_
                  refine EZ_sub [3, 1, 0] rfl ?_
                  exact ih30 mi_99 ml_99 (xk + 1) (i + 1) _ _ (by omega) S_99 ((tI_add hk (show (1 : Int32).toInt = 1 from rfl) (by omega)).trans (by omega)) (by omega) (by omega) (by omega) (by omega)
      refine EZ_sub [3, 1, 0] rfl ?_
      exact J30 _ mi_15 ml_15 1 1 _ _ (Nat.lt_succ_self _) S_15 rfl (Nat.le_refl _) (by decide) (by omega) (by omega)
theorem op_Bt {V : Nat → Int32} {n : Nat} {l : Int} {w : Int64} (hw : w = opS V n l 64) : Bt w (opP V n l) := fun _ hc => op_lb hw hc
theorem nV_add {V : Nat → Int32} {c v : Int32} (h : nV V < 10) (hw : WFV V) : nV (addV V (nV V) c v) = nV V + 1 := by
  have e : (addV V (nV V) c v 5).toInt = (nV V : Int) + 1 := tI_add (wf_n hw).1 rfl (by omega)
  unfold nV at e ⊢
  rw [e]
  omega
theorem tV_add {V : Nat → Int32} {n : Nat} {c v : Int32} (h : n < 10) : tV (addV V n c v) = 0 := by
  unfold tV addV
  rw [if_neg (by decide), if_neg (by omega), if_neg (by omega), if_pos rfl]
  rfl
theorem op_cl {V : Nat → Int32} {z : Nat} {r a : Int32} (hw : WFV V) (hn : nV V < 10) (hr : r.toInt = (z : Int)) (h : opP V (nV V) a.toInt z) : ClR (DV (addV V (nV V) r a)) (addV V (nV V) r a 3).toInt (addV V (nV V) r a 4).toInt (nV (addV V (nV V) r a)) := by
  have e : ∀ k, k < 5 → addV V (nV V) r a k = V k := fun k hk => by
    unfold addV; rw [if_neg (by omega), if_neg (by omega), if_neg (by omega), if_neg (by omega)]
  rw [nV_add hn hw, e 3 (by decide), e 4 (by decide)]
  have hD : eqD (nV V + 1) (DVO V (nV V) (z : Int) a.toInt) (DV (addV V (nV V) r a)) := by
    refine ⟨?_, ?_, ?_, fun k hk => ?_⟩
    · show (addV V (nV V) r a 0).toInt.toNat = (V 0).toInt.toNat
      rw [e 0 (by decide)]
    · show (addV V (nV V) r a 1).toInt = (V 1).toInt
      rw [e 1 (by decide)]
    · show (addV V (nV V) r a 2).toInt = (V 2).toInt
      rw [e 2 (by decide)]
    · show (addV V (nV V) r a (6 + 2 * k)).toInt = (if k < nV V then (V (6 + 2 * k)).toInt else (z : Int)) ∧ (addV V (nV V) r a (7 + 2 * k)).toInt = (if k < nV V then (V (7 + 2 * k)).toInt else a.toInt)
      by_cases q : k < nV V
      · rw [if_pos q, if_pos q]
        unfold addV
        rw [if_neg (by omega), if_neg (by omega), if_neg (by omega), if_neg (by omega), if_neg (by omega), if_neg (by omega), if_neg (by omega), if_neg (by omega)]
        exact ⟨rfl, rfl⟩
      · obtain rfl : k = nV V := by omega
        rw [if_neg q, if_neg q]
        unfold addV
        rw [if_neg (by omega), if_pos rfl, if_neg (by omega), if_neg (by omega), if_pos rfl]
        exact ⟨hr, rfl⟩
  exact (hD.Cl (Nat.le_refl _)).mpr h.2
set_option maxHeartbeats 3200000 in
set_option maxRecDepth 100000 in
theorem z_opens (l : Launch) (hfl : l.stackTraces = false) {V : Nat → Int32} {H : List (Nat → Int32)} {mi : MI} {ml : MJ} (S : ST V H mi ml) (xv : Int32) (hv : 0 ≤ xv.toInt ∧ xv.toInt ≤ 60) : CtH l yL_opens (.code yL_opens cL_opens 7 (some .boolean)) 8 30 180 [.ref 0, .int xv] (wl mi ml) (QI (fun r mi9 ml9 => ∃ H2, ST V H2 mi9 ml9 ∧ r = 1)) noX := by
  have wn := wf_n S.1
  have wm := wf_m S.1
  have wt := wf_t S.1
  refine CtZ_of pn_L hfl (Nat.le_of_ble_eq_true rfl) ?_
  show EZ (fun s _ => Nc2 s) l RL cL_opens 7 (some .boolean) false [] (rmE 8 30 180) (wl mi ml) (TgM (wl mi ml) 30 180 (QI (fun r mi9 ml9 => ∃ H2, ST V H2 mi9 ml9 ∧ r = 1)) noX) 0 0 0 [(0, .ref 0), (1, .int xv)] [] (wl mi ml)
  refine EZ_aload_n 0 dL_opens_0 rfl rfl ?_
  refine EZ_iload_n 1 dL_opens_1 rfl rfl ?_
  refine EZ_callH zn1 (k_openings l hfl S xv) cwH_143 (As := [.ref 0, .int xv]) (st := []) rfl (rok (Nat.le_of_ble_eq_true rfl) (Nat.le_of_ble_eq_true rfl) (by omega) (by omega)) (Nat.le_of_ble_eq_true rfl) dL_opens_2 rfl (zkJ (fun r_2 mi_2 ml_2 h_2 => ?_))
  obtain ⟨S_2, h_2⟩ := h_2
  have n_2 := (h_2.resolve_right (fun q => q.1 hv)).2
  refine EZ_lstore_n [(2, .long r_2), (0, .ref 0), (1, .int xv)] dL_opens_5 rfl (by decide) rfl ?_
  refine EZ_lload_n 0 dL_opens_6 rfl rfl ?_
  refine EZ_aload_n 1 dL_opens_7 rfl rfl ?_
  refine EZ_callV (j_channels l hfl S_2) cw_L_113 (As := []) (st := [.long r_2]) wi_yX5_channels we_yX5_channels (ci := 5) (q := (RX5, TX5, 7)) rfl rfl (wl_atO tw_0) rfl (rok (Nat.le_of_ble_eq_true rfl) (Nat.le_of_ble_eq_true rfl) (by omega) (by omega)) (Nat.le_of_ble_eq_true rfl) dL_opens_8 (fun _ _ h => h) rfl (zkJ (fun r_8 mi_8 ml_8 h_8 => ?_))
  obtain ⟨S_8, h_8⟩ := h_8
  refine EZ_land dL_opens_11 ?_
  refine EZ_lconst 0 rfl dL_opens_12 ?_
  refine EZ_lcmp dL_opens_13 ?_
  refine YZ_ne ((lg_cmp (r_2 &&& r_8) 0).toInt) rfl 30 dL_opens_14 (by decide) (fun c_14 => ?_) (fun c_14 => ?_)
  · exact absurd (lc_z ((Bt_and (op_Bt n_2) (h_8 ▸ chV_Bt S.1 wn.1)).mpr (fun c _ h => by obtain ⟨h1, j, hj, h2⟩ := h; exact h1.1 j hj h2))) c_14
  · skip
    refine EZ_aload_n 1 dL_opens_17 rfl rfl ?_
    refine EZ_callV (j_isClean l hfl S_8) cw_L_135 (As := []) (st := []) wi_yX5_isClean we_yX5_isClean (ci := 5) (q := (RX5, TX5, 7)) rfl rfl (wl_atO tw_0) rfl (rok (Nat.le_of_ble_eq_true rfl) (Nat.le_of_ble_eq_true rfl) (by omega) (by omega)) (Nat.le_of_ble_eq_true rfl) dL_opens_18 (fun _ _ h => h) rfl (zkI (fun r_18 mi_18 ml_18 h_18 => ?_))
    obtain ⟨S_18, h_18⟩ := h_18
    refine YZ_ne r_18.toInt rfl 32 dL_opens_21 (by decide) (fun c_21 => ?_) (fun c_21 => ?_)
    · skip
      refine EZ_aload_n 1 dL_opens_32 rfl rfl ?_
      refine EZ_iconst 0 (by decide) dL_opens_33 ?_
      refine EZ_callH zn1 (k_size l hfl S_18 0) cwH_101 (As := [.ref 0, .int 0]) (st := []) rfl (rok (Nat.le_of_ble_eq_true rfl) (Nat.le_of_ble_eq_true rfl) (by omega) (by omega)) (Nat.le_of_ble_eq_true rfl) dL_opens_34 rfl (zkI (fun r_34 mi_34 ml_34 h_34 => ?_))
      obtain ⟨S_34, h_34⟩ := h_34
      (try rw [show (0 : Int32).toInt = 0 from (show (0 : Int32).toInt = 0 from rfl)] at h_34)
      have n_34 : r_34.toInt = (nV V : Int) := by omega
      clear h_34
      refine EZ_istore [(4, .int r_34), (2, .long r_2), (0, .ref 0), (1, .int xv)] dL_opens_37 (by decide) rfl ?_
      refine EZ_aload_n 2 dL_opens_39 rfl rfl ?_
      refine EZ_iload_n 3 dL_opens_40 rfl rfl ?_
      refine EZ_callH zn1 (k_putIn l hfl S_34 xv) cwH_145 (As := [.ref 0, .int xv]) (st := []) rfl (rok (Nat.le_of_ble_eq_true rfl) (Nat.le_of_ble_eq_true rfl) (by omega) (by omega)) (Nat.le_of_ble_eq_true rfl) dL_opens_41 rfl (zkI (fun r_41 mi_41 ml_41 h_41 => ?_))
      obtain ⟨V_41, H_41, S_41, h_41⟩ := h_41
      replace h_41 := h_41.resolve_left (fun q => q.1 hv)
      rcases h_41 with ⟨_, hn10, n_41, e1_41, e2_41⟩ | ⟨_, hn10, n_41, hno, e1_41, e2_41⟩ | ⟨_, hn10, z, hz, hop, hlow, n_41, e1_41, e2_41⟩
      · skip
        subst e1_41; subst e2_41
        refine EZ_istore [(5, .int r_41), (4, .int r_34), (2, .long r_2), (0, .ref 0), (1, .int xv)] dL_opens_44 (by decide) rfl ?_
        refine EZ_iload 1 dL_opens_46 rfl ?_
        refine EZ_bipush 10 (by decide) dL_opens_48 ?_
        refine ZZ_ne (nV V : Int) 10 n_34 (show (10 : Int32).toInt = 10 from rfl) 67 dL_opens_50 (by decide) (fun c_50 => ?_) (fun c_50 => ?_)
        · exact absurd c_50 (by omega)
        · skip
          refine EZ_iload 0 dL_opens_53 rfl ?_
          refine EZ_sipush (-902) (by decide) dL_opens_55 ?_
          refine ZZ_ne r_41.toInt (-902) rfl (show ((-902) : Int32).toInt = (-902) from rfl) 65 dL_opens_58 (by decide) (fun c_58 => ?_) (fun c_58 => ?_)
          · exact absurd c_58 (by omega)
          · skip
            refine EZ_iconst 1 (by decide) dL_opens_61 ?_
            refine EZ_goto 66 dL_opens_62 (by decide) ?_
            refine EZ_zret rfl rfl (by omega) (by omega) dL_opens_66 ?_
            exact okQI ⟨_, S_41, rfl⟩
      · skip
        subst e1_41; subst e2_41
        refine EZ_istore [(5, .int r_41), (4, .int r_34), (2, .long r_2), (0, .ref 0), (1, .int xv)] dL_opens_44 (by decide) rfl ?_
        refine EZ_iload 1 dL_opens_46 rfl ?_
        refine EZ_bipush 10 (by decide) dL_opens_48 ?_
        refine ZZ_ne (nV V : Int) 10 n_34 (show (10 : Int32).toInt = 10 from rfl) 67 dL_opens_50 (by decide) (fun c_50 => ?_) (fun c_50 => ?_)
        · skip
          refine EZ_lload_n 2 dL_opens_67 rfl rfl ?_
          refine EZ_lconst 0 rfl dL_opens_68 ?_
          refine EZ_lcmp dL_opens_69 ?_
          refine YZ_ne ((lg_cmp r_2 0).toInt) rfl 95 dL_opens_70 (by decide) (fun c_70 => ?_) (fun c_70 => ?_)
          · exact absurd (lc_z ((op_0 n_2).mpr hno)) c_70
          · skip
            refine EZ_iload 0 dL_opens_73 rfl ?_
            refine EZ_iconst (-1) (by decide) dL_opens_75 ?_
            refine ZZ_ne r_41.toInt (-1) rfl (show ((-1) : Int32).toInt = (-1) from rfl) 93 dL_opens_76 (by decide) (fun c_76 => ?_) (fun c_76 => ?_)
            · exact absurd c_76 (by omega)
            · skip
              refine EZ_aload_n 3 dL_opens_79 rfl rfl ?_
              refine EZ_iconst 0 (by decide) dL_opens_80 ?_
              refine EZ_callH zn1 (k_size l hfl S_41 0) cwH_101 (As := [.ref 0, .int 0]) (st := []) rfl (rok (Nat.le_of_ble_eq_true rfl) (Nat.le_of_ble_eq_true rfl) (by omega) (by omega)) (Nat.le_of_ble_eq_true rfl) dL_opens_81 rfl (zkI (fun r_81 mi_81 ml_81 h_81 => ?_))
              obtain ⟨S_81, h_81⟩ := h_81
              (try rw [show (0 : Int32).toInt = 0 from (show (0 : Int32).toInt = 0 from rfl)] at h_81)
              have n_81 : r_81.toInt = (nV V : Int) := by omega
              clear h_81
              refine EZ_iload 1 dL_opens_84 rfl ?_
              refine ZZ_ne (nV V : Int) (nV V : Int) n_81 n_34 93 dL_opens_86 (by decide) (fun c_86 => ?_) (fun c_86 => ?_)
              · exact absurd c_86 (by omega)
              · skip
                refine EZ_iconst 1 (by decide) dL_opens_89 ?_
                refine EZ_goto 94 dL_opens_90 (by decide) ?_
                refine EZ_zret rfl rfl (by omega) (by omega) dL_opens_94 ?_
                exact okQI ⟨_, S_81, rfl⟩
        · exact absurd c_50 (by omega)
      · skip
        subst e1_41; subst e2_41
        have en := nV_add (c := r_41) (v := xv) hn10 S.1
        have hne : r_2 ≠ 0 := fun e => (op_0 n_2).mp e z hz hop
        refine EZ_istore [(5, .int r_41), (4, .int r_34), (2, .long r_2), (0, .ref 0), (1, .int xv)] dL_opens_44 (by decide) rfl ?_
        refine EZ_iload 1 dL_opens_46 rfl ?_
        refine EZ_bipush 10 (by decide) dL_opens_48 ?_
        refine ZZ_ne (nV V : Int) 10 n_34 (show (10 : Int32).toInt = 10 from rfl) 67 dL_opens_50 (by decide) (fun c_50 => ?_) (fun c_50 => ?_)
        · skip
          refine EZ_lload_n 2 dL_opens_67 rfl rfl ?_
          refine EZ_lconst 0 rfl dL_opens_68 ?_
          refine EZ_lcmp dL_opens_69 ?_
          refine YZ_ne ((lg_cmp r_2 0).toInt) rfl 95 dL_opens_70 (by decide) (fun c_70 => ?_) (fun c_70 => ?_)
          · skip
            refine EZ_lload_n 2 dL_opens_95 rfl rfl ?_
            refine EZ_iload 0 dL_opens_96 rfl ?_
            refine EZ_lshr dL_opens_98 ?_
            refine EZ_lconst 1 rfl dL_opens_99 ?_
            refine EZ_land dL_opens_100 ?_
            refine EZ_lconst 1 rfl dL_opens_101 ?_
            refine EZ_lcmp dL_opens_102 ?_
            refine YZ_ne ((lg_cmp ((r_2 >>> (r_41.toInt64 &&& 63)) &&& 1) 1).toInt) rfl 173 dL_opens_103 (by decide) (fun c_103 => ?_) (fun c_103 => ?_)
            · exact absurd (lc_z (((op_Bt n_2).shr n_41 hz).mpr hop)) c_103
            · skip
              refine EZ_lload_n 2 dL_opens_106 rfl rfl ?_
              refine EZ_lconst 1 rfl dL_opens_107 ?_
              refine EZ_iload 0 dL_opens_108 rfl ?_
              refine EZ_lshl dL_opens_110 ?_
              refine EZ_lconst 1 rfl dL_opens_111 ?_
              refine EZ_lsub dL_opens_112 ?_
              refine EZ_land dL_opens_113 ?_
              refine EZ_lconst 0 rfl dL_opens_114 ?_
              refine EZ_lcmp dL_opens_115 ?_
              refine YZ_ne ((lg_cmp (r_2 &&& (((1 : Int64) <<< (r_41.toInt64 &&& 63)) - 1)) 0).toInt) rfl 173 dL_opens_116 (by decide) (fun c_116 => ?_) (fun c_116 => ?_)
              · exact absurd (lc_z ((Bt_and (op_Bt n_2) (Bt_low n_41 hz)).mpr (fun c _ h => hlow c h.2 h.1))) c_116
              · skip
                refine EZ_aload_n 3 dL_opens_119 rfl rfl ?_
                refine EZ_callV (j_isClean l hfl S_41) cw_L_135 (As := []) (st := []) wi_yX5_isClean we_yX5_isClean (ci := 5) (q := (RX5, TX5, 7)) rfl rfl (wl_atO tw_0) rfl (rok (Nat.le_of_ble_eq_true rfl) (Nat.le_of_ble_eq_true rfl) (by omega) (by omega)) (Nat.le_of_ble_eq_true rfl) dL_opens_120 (fun _ _ h => h) rfl (zkI (fun r_120 mi_120 ml_120 h_120 => ?_))
                obtain ⟨S_120, h_120⟩ := h_120
                refine YZ_eq r_120.toInt rfl 173 dL_opens_123 (by decide) (fun c_123 => ?_) (fun c_123 => ?_)
                · exact absurd (op_cl S.1 hn10 n_41 hop) (xB_f h_120 c_123)
                · skip
                  refine EZ_aload_n 3 dL_opens_126 rfl rfl ?_
                  refine EZ_iconst 0 (by decide) dL_opens_127 ?_
                  refine EZ_callH zn1 (k_size l hfl S_120 0) cwH_101 (As := [.ref 0, .int 0]) (st := []) rfl (rok (Nat.le_of_ble_eq_true rfl) (Nat.le_of_ble_eq_true rfl) (by omega) (by omega)) (Nat.le_of_ble_eq_true rfl) dL_opens_128 rfl (zkI (fun r_128 mi_128 ml_128 h_128 => ?_))
                  obtain ⟨S_128, h_128⟩ := h_128
                  (try rw [show (0 : Int32).toInt = 0 from (show (0 : Int32).toInt = 0 from rfl)] at h_128)
                  have n_128 : r_128.toInt = (nV V : Int) + 1 := by rw [en] at h_128; omega
                  clear h_128
                  refine EZ_iload 1 dL_opens_131 rfl ?_
                  refine EZ_iconst 1 (by decide) dL_opens_133 ?_
                  refine EZ_iadd dL_opens_134 ?_
                  refine ZZ_ne ((nV V : Int) + 1) ((nV V : Int) + 1) n_128 (tI_add n_34 (show (1 : Int32).toInt = 1 from rfl) (by omega)) 173 dL_opens_135 (by decide) (fun c_135 => ?_) (fun c_135 => ?_)
                  · exact absurd c_135 (by omega)
                  · skip
                    refine EZ_aload_n 3 dL_opens_138 rfl rfl ?_
                    refine EZ_iload 1 dL_opens_139 rfl ?_
                    refine EZ_iconst 0 (by decide) dL_opens_141 ?_
                    refine EZ_callH zn1 (k_carrier l hfl S_128 r_34 0 False (b0 not_false)) cwH_117 (As := [.ref 0, .int r_34, .int 0]) (st := []) rfl (rok (Nat.le_of_ble_eq_true rfl) (Nat.le_of_ble_eq_true rfl) (by omega) (by omega)) (Nat.le_of_ble_eq_true rfl) dL_opens_142 rfl (zkI (fun r_142 mi_142 ml_142 h_142 => ?_))
                    obtain ⟨S_142, h_142⟩ := h_142
                    (try rw [show r_34.toInt = (nV V : Int) from n_34] at h_142)
                    have n_142 : r_142 = r_41 := (ca_f h_142 (by omega)).trans (by unfold addV; rw [if_neg (by omega), if_pos rfl])
                    clear h_142
                    refine EZ_iload 0 dL_opens_145 rfl ?_
                    refine ZZ_ne r_142.toInt r_41.toInt rfl rfl 173 dL_opens_147 (by decide) (fun c_147 => ?_) (fun c_147 => ?_)
                    · exact absurd (by rw [n_142]) c_147
                    · skip
                      refine EZ_aload_n 3 dL_opens_150 rfl rfl ?_
                      refine EZ_iload 1 dL_opens_151 rfl ?_
                      refine EZ_iconst 1 (by decide) dL_opens_153 ?_
                      refine EZ_callH zn1 (k_carrier l hfl S_142 r_34 1 True (b1 trivial)) cwH_117 (As := [.ref 0, .int r_34, .int 1]) (st := []) rfl (rok (Nat.le_of_ble_eq_true rfl) (Nat.le_of_ble_eq_true rfl) (by omega) (by omega)) (Nat.le_of_ble_eq_true rfl) dL_opens_154 rfl (zkI (fun r_154 mi_154 ml_154 h_154 => ?_))
                      obtain ⟨S_154, h_154⟩ := h_154
                      (try rw [show r_34.toInt = (nV V : Int) from n_34] at h_154)
                      have n_154 : r_154 = xv := (ca_t h_154 (by omega)).trans (by unfold addV; rw [if_neg (by omega), if_neg (by omega), if_pos rfl])
                      clear h_154
                      refine EZ_iload_n 4 dL_opens_157 rfl rfl ?_
                      refine ZZ_ne r_154.toInt xv.toInt rfl rfl 173 dL_opens_158 (by decide) (fun c_158 => ?_) (fun c_158 => ?_)
                      · exact absurd (by rw [n_154]) c_158
                      · skip
                        refine EZ_aload_n 3 dL_opens_161 rfl rfl ?_
                        refine EZ_iconst 2 (by decide) dL_opens_162 ?_
                        refine EZ_callH zn1 (k_size l hfl S_154 2) cwH_101 (As := [.ref 0, .int 2]) (st := []) rfl (rok (Nat.le_of_ble_eq_true rfl) (Nat.le_of_ble_eq_true rfl) (by omega) (by omega)) (Nat.le_of_ble_eq_true rfl) dL_opens_163 rfl (zkI (fun r_163 mi_163 ml_163 h_163 => ?_))
                        obtain ⟨S_163, h_163⟩ := h_163
                        (try rw [show (2 : Int32).toInt = 2 from (show (2 : Int32).toInt = 2 from rfl)] at h_163)
                        have n_163 : r_163.toInt = 0 := by have h9 := tV_add (V := V) (c := r_41) (v := xv) hn10; rw [h9] at h_163; omega
                        clear h_163
                        refine YZ_ne 0 n_163 173 dL_opens_166 (by decide) (fun c_166 => ?_) (fun c_166 => ?_)
                        · exact absurd c_166 (by omega)
                        · skip
                          refine EZ_iconst 1 (by decide) dL_opens_169 ?_
                          refine EZ_goto 174 dL_opens_170 (by decide) ?_
                          refine EZ_istore [(6, .int 1), (5, .int r_41), (4, .int r_34), (2, .long r_2), (0, .ref 0), (1, .int xv)] dL_opens_174 (by decide) rfl ?_
                          refine EZ_iload 0 dL_opens_176 rfl ?_
                          refine YZ_eq 1 (show (1 : Int32).toInt = 1 from rfl) 202 dL_opens_178 (by decide) (fun c_178 => ?_) (fun c_178 => ?_)
                          · exact absurd c_178 (by decide)
                          · skip
                            refine EZ_aload_n 4 dL_opens_181 rfl rfl ?_
                            refine EZ_callH zn1 (k_undo l hfl S_163) cwH_147 (As := [.ref 0]) (st := []) rfl (rok (Nat.le_of_ble_eq_true rfl) (Nat.le_of_ble_eq_true rfl) (by omega) (by omega)) (Nat.le_of_ble_eq_true rfl) dL_opens_182 rfl (zkI (fun r_182 mi_182 ml_182 h_182 => ?_))
                            obtain ⟨V_182, H_182, S_182, h_182⟩ := h_182
                            obtain ⟨U1, T1, e1_182, e2_182, e3_182, n_182⟩ := h_182.resolve_left (fun q => by cases q.1)
                            have e4_182 : V :: H.take 3 = U1 :: T1 := e1_182
                            cases e4_182
                            subst e2_182; subst e3_182
                            refine YZ_lt r_182.toInt rfl 202 dL_opens_185 (by decide) (fun c_185 => ?_) (fun c_185 => ?_)
                            · exact absurd c_185 (by omega)
                            · skip
                              refine EZ_aload_n 4 dL_opens_188 rfl rfl ?_
                              refine EZ_iload_n 5 dL_opens_189 rfl rfl ?_
                              refine EZ_callH zn1 (k_openings l hfl S_182 xv) cwH_143 (As := [.ref 0, .int xv]) (st := []) rfl (rok (Nat.le_of_ble_eq_true rfl) (Nat.le_of_ble_eq_true rfl) (by omega) (by omega)) (Nat.le_of_ble_eq_true rfl) dL_opens_190 rfl (zkJ (fun r_190 mi_190 ml_190 h_190 => ?_))
                              obtain ⟨S_190, h_190⟩ := h_190
                              have n_190 := (h_190.resolve_right (fun q => q.1 hv)).2
                              refine EZ_lload_n 3 dL_opens_193 rfl rfl ?_
                              refine EZ_lcmp dL_opens_194 ?_
                              refine YZ_ne ((lg_cmp r_190 r_2).toInt) rfl 202 dL_opens_195 (by decide) (fun c_195 => ?_) (fun c_195 => ?_)
                              · exact absurd (lc_z (n_190.trans n_2.symm)) c_195
                              · skip
                                refine EZ_iconst 1 (by decide) dL_opens_198 ?_
                                refine EZ_goto 203 dL_opens_199 (by decide) ?_
                                refine EZ_zret rfl rfl (by omega) (by omega) dL_opens_203 ?_
                                exact okQI ⟨_, S_190, rfl⟩
          · exact absurd (lg_0 c_70) hne
        · exact absurd c_50 (by omega)
    · skip
      refine EZ_lload_n 0 dL_opens_24 rfl rfl ?_
      refine EZ_lconst 0 rfl dL_opens_25 ?_
      refine EZ_lcmp dL_opens_26 ?_
      refine YZ_eq ((lg_cmp r_2 0).toInt) rfl 32 dL_opens_27 (by decide) (fun c_27 => ?_) (fun c_27 => ?_)
      · skip
        refine EZ_aload_n 1 dL_opens_32 rfl rfl ?_
        refine EZ_iconst 0 (by decide) dL_opens_33 ?_
        refine EZ_callH zn1 (k_size l hfl S_18 0) cwH_101 (As := [.ref 0, .int 0]) (st := []) rfl (rok (Nat.le_of_ble_eq_true rfl) (Nat.le_of_ble_eq_true rfl) (by omega) (by omega)) (Nat.le_of_ble_eq_true rfl) dL_opens_34 rfl (zkI (fun r_34 mi_34 ml_34 h_34 => ?_))
        obtain ⟨S_34, h_34⟩ := h_34
        (try rw [show (0 : Int32).toInt = 0 from (show (0 : Int32).toInt = 0 from rfl)] at h_34)
        have n_34 : r_34.toInt = (nV V : Int) := by omega
        clear h_34
        refine EZ_istore [(4, .int r_34), (2, .long r_2), (0, .ref 0), (1, .int xv)] dL_opens_37 (by decide) rfl ?_
        refine EZ_aload_n 2 dL_opens_39 rfl rfl ?_
        refine EZ_iload_n 3 dL_opens_40 rfl rfl ?_
        refine EZ_callH zn1 (k_putIn l hfl S_34 xv) cwH_145 (As := [.ref 0, .int xv]) (st := []) rfl (rok (Nat.le_of_ble_eq_true rfl) (Nat.le_of_ble_eq_true rfl) (by omega) (by omega)) (Nat.le_of_ble_eq_true rfl) dL_opens_41 rfl (zkI (fun r_41 mi_41 ml_41 h_41 => ?_))
        obtain ⟨V_41, H_41, S_41, h_41⟩ := h_41
        replace h_41 := h_41.resolve_left (fun q => q.1 hv)
        rcases h_41 with ⟨_, hn10, n_41, e1_41, e2_41⟩ | ⟨_, hn10, n_41, hno, e1_41, e2_41⟩ | ⟨_, hn10, z, hz, hop, hlow, n_41, e1_41, e2_41⟩
        · skip
          subst e1_41; subst e2_41
          refine EZ_istore [(5, .int r_41), (4, .int r_34), (2, .long r_2), (0, .ref 0), (1, .int xv)] dL_opens_44 (by decide) rfl ?_
          refine EZ_iload 1 dL_opens_46 rfl ?_
          refine EZ_bipush 10 (by decide) dL_opens_48 ?_
          refine ZZ_ne (nV V : Int) 10 n_34 (show (10 : Int32).toInt = 10 from rfl) 67 dL_opens_50 (by decide) (fun c_50 => ?_) (fun c_50 => ?_)
          · exact absurd c_50 (by omega)
          · skip
            refine EZ_iload 0 dL_opens_53 rfl ?_
            refine EZ_sipush (-902) (by decide) dL_opens_55 ?_
            refine ZZ_ne r_41.toInt (-902) rfl (show ((-902) : Int32).toInt = (-902) from rfl) 65 dL_opens_58 (by decide) (fun c_58 => ?_) (fun c_58 => ?_)
            · exact absurd c_58 (by omega)
            · skip
              refine EZ_iconst 1 (by decide) dL_opens_61 ?_
              refine EZ_goto 66 dL_opens_62 (by decide) ?_
              refine EZ_zret rfl rfl (by omega) (by omega) dL_opens_66 ?_
              exact okQI ⟨_, S_41, rfl⟩
        · skip
          subst e1_41; subst e2_41
          refine EZ_istore [(5, .int r_41), (4, .int r_34), (2, .long r_2), (0, .ref 0), (1, .int xv)] dL_opens_44 (by decide) rfl ?_
          refine EZ_iload 1 dL_opens_46 rfl ?_
          refine EZ_bipush 10 (by decide) dL_opens_48 ?_
          refine ZZ_ne (nV V : Int) 10 n_34 (show (10 : Int32).toInt = 10 from rfl) 67 dL_opens_50 (by decide) (fun c_50 => ?_) (fun c_50 => ?_)
          · skip
            refine EZ_lload_n 2 dL_opens_67 rfl rfl ?_
            refine EZ_lconst 0 rfl dL_opens_68 ?_
            refine EZ_lcmp dL_opens_69 ?_
            refine YZ_ne ((lg_cmp r_2 0).toInt) rfl 95 dL_opens_70 (by decide) (fun c_70 => ?_) (fun c_70 => ?_)
            · exact absurd (lc_z ((op_0 n_2).mpr hno)) c_70
            · skip
              refine EZ_iload 0 dL_opens_73 rfl ?_
              refine EZ_iconst (-1) (by decide) dL_opens_75 ?_
              refine ZZ_ne r_41.toInt (-1) rfl (show ((-1) : Int32).toInt = (-1) from rfl) 93 dL_opens_76 (by decide) (fun c_76 => ?_) (fun c_76 => ?_)
              · exact absurd c_76 (by omega)
              · skip
                refine EZ_aload_n 3 dL_opens_79 rfl rfl ?_
                refine EZ_iconst 0 (by decide) dL_opens_80 ?_
                refine EZ_callH zn1 (k_size l hfl S_41 0) cwH_101 (As := [.ref 0, .int 0]) (st := []) rfl (rok (Nat.le_of_ble_eq_true rfl) (Nat.le_of_ble_eq_true rfl) (by omega) (by omega)) (Nat.le_of_ble_eq_true rfl) dL_opens_81 rfl (zkI (fun r_81 mi_81 ml_81 h_81 => ?_))
                obtain ⟨S_81, h_81⟩ := h_81
                (try rw [show (0 : Int32).toInt = 0 from (show (0 : Int32).toInt = 0 from rfl)] at h_81)
                have n_81 : r_81.toInt = (nV V : Int) := by omega
                clear h_81
                refine EZ_iload 1 dL_opens_84 rfl ?_
                refine ZZ_ne (nV V : Int) (nV V : Int) n_81 n_34 93 dL_opens_86 (by decide) (fun c_86 => ?_) (fun c_86 => ?_)
                · exact absurd c_86 (by omega)
                · skip
                  refine EZ_iconst 1 (by decide) dL_opens_89 ?_
                  refine EZ_goto 94 dL_opens_90 (by decide) ?_
                  refine EZ_zret rfl rfl (by omega) (by omega) dL_opens_94 ?_
                  exact okQI ⟨_, S_81, rfl⟩
          · exact absurd c_50 (by omega)
        · skip
          subst e1_41; subst e2_41
          have en := nV_add (c := r_41) (v := xv) hn10 S.1
          have hne : r_2 ≠ 0 := fun e => (op_0 n_2).mp e z hz hop
          refine EZ_istore [(5, .int r_41), (4, .int r_34), (2, .long r_2), (0, .ref 0), (1, .int xv)] dL_opens_44 (by decide) rfl ?_
          refine EZ_iload 1 dL_opens_46 rfl ?_
          refine EZ_bipush 10 (by decide) dL_opens_48 ?_
          refine ZZ_ne (nV V : Int) 10 n_34 (show (10 : Int32).toInt = 10 from rfl) 67 dL_opens_50 (by decide) (fun c_50 => ?_) (fun c_50 => ?_)
          · skip
            refine EZ_lload_n 2 dL_opens_67 rfl rfl ?_
            refine EZ_lconst 0 rfl dL_opens_68 ?_
            refine EZ_lcmp dL_opens_69 ?_
            refine YZ_ne ((lg_cmp r_2 0).toInt) rfl 95 dL_opens_70 (by decide) (fun c_70 => ?_) (fun c_70 => ?_)
            · skip
              refine EZ_lload_n 2 dL_opens_95 rfl rfl ?_
              refine EZ_iload 0 dL_opens_96 rfl ?_
              refine EZ_lshr dL_opens_98 ?_
              refine EZ_lconst 1 rfl dL_opens_99 ?_
              refine EZ_land dL_opens_100 ?_
              refine EZ_lconst 1 rfl dL_opens_101 ?_
              refine EZ_lcmp dL_opens_102 ?_
              refine YZ_ne ((lg_cmp ((r_2 >>> (r_41.toInt64 &&& 63)) &&& 1) 1).toInt) rfl 173 dL_opens_103 (by decide) (fun c_103 => ?_) (fun c_103 => ?_)
              · exact absurd (lc_z (((op_Bt n_2).shr n_41 hz).mpr hop)) c_103
              · skip
                refine EZ_lload_n 2 dL_opens_106 rfl rfl ?_
                refine EZ_lconst 1 rfl dL_opens_107 ?_
                refine EZ_iload 0 dL_opens_108 rfl ?_
                refine EZ_lshl dL_opens_110 ?_
                refine EZ_lconst 1 rfl dL_opens_111 ?_
                refine EZ_lsub dL_opens_112 ?_
                refine EZ_land dL_opens_113 ?_
                refine EZ_lconst 0 rfl dL_opens_114 ?_
                refine EZ_lcmp dL_opens_115 ?_
                refine YZ_ne ((lg_cmp (r_2 &&& (((1 : Int64) <<< (r_41.toInt64 &&& 63)) - 1)) 0).toInt) rfl 173 dL_opens_116 (by decide) (fun c_116 => ?_) (fun c_116 => ?_)
                · exact absurd (lc_z ((Bt_and (op_Bt n_2) (Bt_low n_41 hz)).mpr (fun c _ h => hlow c h.2 h.1))) c_116
                · skip
                  refine EZ_aload_n 3 dL_opens_119 rfl rfl ?_
                  refine EZ_callV (j_isClean l hfl S_41) cw_L_135 (As := []) (st := []) wi_yX5_isClean we_yX5_isClean (ci := 5) (q := (RX5, TX5, 7)) rfl rfl (wl_atO tw_0) rfl (rok (Nat.le_of_ble_eq_true rfl) (Nat.le_of_ble_eq_true rfl) (by omega) (by omega)) (Nat.le_of_ble_eq_true rfl) dL_opens_120 (fun _ _ h => h) rfl (zkI (fun r_120 mi_120 ml_120 h_120 => ?_))
                  obtain ⟨S_120, h_120⟩ := h_120
                  refine YZ_eq r_120.toInt rfl 173 dL_opens_123 (by decide) (fun c_123 => ?_) (fun c_123 => ?_)
                  · exact absurd (op_cl S.1 hn10 n_41 hop) (xB_f h_120 c_123)
                  · skip
                    refine EZ_aload_n 3 dL_opens_126 rfl rfl ?_
                    refine EZ_iconst 0 (by decide) dL_opens_127 ?_
                    refine EZ_callH zn1 (k_size l hfl S_120 0) cwH_101 (As := [.ref 0, .int 0]) (st := []) rfl (rok (Nat.le_of_ble_eq_true rfl) (Nat.le_of_ble_eq_true rfl) (by omega) (by omega)) (Nat.le_of_ble_eq_true rfl) dL_opens_128 rfl (zkI (fun r_128 mi_128 ml_128 h_128 => ?_))
                    obtain ⟨S_128, h_128⟩ := h_128
                    (try rw [show (0 : Int32).toInt = 0 from (show (0 : Int32).toInt = 0 from rfl)] at h_128)
                    have n_128 : r_128.toInt = (nV V : Int) + 1 := by rw [en] at h_128; omega
                    clear h_128
                    refine EZ_iload 1 dL_opens_131 rfl ?_
                    refine EZ_iconst 1 (by decide) dL_opens_133 ?_
                    refine EZ_iadd dL_opens_134 ?_
                    refine ZZ_ne ((nV V : Int) + 1) ((nV V : Int) + 1) n_128 (tI_add n_34 (show (1 : Int32).toInt = 1 from rfl) (by omega)) 173 dL_opens_135 (by decide) (fun c_135 => ?_) (fun c_135 => ?_)
                    · exact absurd c_135 (by omega)
                    · skip
                      refine EZ_aload_n 3 dL_opens_138 rfl rfl ?_
                      refine EZ_iload 1 dL_opens_139 rfl ?_
                      refine EZ_iconst 0 (by decide) dL_opens_141 ?_
                      refine EZ_callH zn1 (k_carrier l hfl S_128 r_34 0 False (b0 not_false)) cwH_117 (As := [.ref 0, .int r_34, .int 0]) (st := []) rfl (rok (Nat.le_of_ble_eq_true rfl) (Nat.le_of_ble_eq_true rfl) (by omega) (by omega)) (Nat.le_of_ble_eq_true rfl) dL_opens_142 rfl (zkI (fun r_142 mi_142 ml_142 h_142 => ?_))
                      obtain ⟨S_142, h_142⟩ := h_142
                      (try rw [show r_34.toInt = (nV V : Int) from n_34] at h_142)
                      have n_142 : r_142 = r_41 := (ca_f h_142 (by omega)).trans (by unfold addV; rw [if_neg (by omega), if_pos rfl])
                      clear h_142
                      refine EZ_iload 0 dL_opens_145 rfl ?_
                      refine ZZ_ne r_142.toInt r_41.toInt rfl rfl 173 dL_opens_147 (by decide) (fun c_147 => ?_) (fun c_147 => ?_)
                      · exact absurd (by rw [n_142]) c_147
                      · skip
                        refine EZ_aload_n 3 dL_opens_150 rfl rfl ?_
                        refine EZ_iload 1 dL_opens_151 rfl ?_
                        refine EZ_iconst 1 (by decide) dL_opens_153 ?_
                        refine EZ_callH zn1 (k_carrier l hfl S_142 r_34 1 True (b1 trivial)) cwH_117 (As := [.ref 0, .int r_34, .int 1]) (st := []) rfl (rok (Nat.le_of_ble_eq_true rfl) (Nat.le_of_ble_eq_true rfl) (by omega) (by omega)) (Nat.le_of_ble_eq_true rfl) dL_opens_154 rfl (zkI (fun r_154 mi_154 ml_154 h_154 => ?_))
                        obtain ⟨S_154, h_154⟩ := h_154
                        (try rw [show r_34.toInt = (nV V : Int) from n_34] at h_154)
                        have n_154 : r_154 = xv := (ca_t h_154 (by omega)).trans (by unfold addV; rw [if_neg (by omega), if_neg (by omega), if_pos rfl])
                        clear h_154
                        refine EZ_iload_n 4 dL_opens_157 rfl rfl ?_
                        refine ZZ_ne r_154.toInt xv.toInt rfl rfl 173 dL_opens_158 (by decide) (fun c_158 => ?_) (fun c_158 => ?_)
                        · exact absurd (by rw [n_154]) c_158
                        · skip
                          refine EZ_aload_n 3 dL_opens_161 rfl rfl ?_
                          refine EZ_iconst 2 (by decide) dL_opens_162 ?_
                          refine EZ_callH zn1 (k_size l hfl S_154 2) cwH_101 (As := [.ref 0, .int 2]) (st := []) rfl (rok (Nat.le_of_ble_eq_true rfl) (Nat.le_of_ble_eq_true rfl) (by omega) (by omega)) (Nat.le_of_ble_eq_true rfl) dL_opens_163 rfl (zkI (fun r_163 mi_163 ml_163 h_163 => ?_))
                          obtain ⟨S_163, h_163⟩ := h_163
                          (try rw [show (2 : Int32).toInt = 2 from (show (2 : Int32).toInt = 2 from rfl)] at h_163)
                          have n_163 : r_163.toInt = 0 := by have h9 := tV_add (V := V) (c := r_41) (v := xv) hn10; rw [h9] at h_163; omega
                          clear h_163
                          refine YZ_ne 0 n_163 173 dL_opens_166 (by decide) (fun c_166 => ?_) (fun c_166 => ?_)
                          · exact absurd c_166 (by omega)
                          · skip
                            refine EZ_iconst 1 (by decide) dL_opens_169 ?_
                            refine EZ_goto 174 dL_opens_170 (by decide) ?_
                            refine EZ_istore [(6, .int 1), (5, .int r_41), (4, .int r_34), (2, .long r_2), (0, .ref 0), (1, .int xv)] dL_opens_174 (by decide) rfl ?_
                            refine EZ_iload 0 dL_opens_176 rfl ?_
                            refine YZ_eq 1 (show (1 : Int32).toInt = 1 from rfl) 202 dL_opens_178 (by decide) (fun c_178 => ?_) (fun c_178 => ?_)
                            · exact absurd c_178 (by decide)
                            · skip
                              refine EZ_aload_n 4 dL_opens_181 rfl rfl ?_
                              refine EZ_callH zn1 (k_undo l hfl S_163) cwH_147 (As := [.ref 0]) (st := []) rfl (rok (Nat.le_of_ble_eq_true rfl) (Nat.le_of_ble_eq_true rfl) (by omega) (by omega)) (Nat.le_of_ble_eq_true rfl) dL_opens_182 rfl (zkI (fun r_182 mi_182 ml_182 h_182 => ?_))
                              obtain ⟨V_182, H_182, S_182, h_182⟩ := h_182
                              obtain ⟨U1, T1, e1_182, e2_182, e3_182, n_182⟩ := h_182.resolve_left (fun q => by cases q.1)
                              have e4_182 : V :: H.take 3 = U1 :: T1 := e1_182
                              cases e4_182
                              subst e2_182; subst e3_182
                              refine YZ_lt r_182.toInt rfl 202 dL_opens_185 (by decide) (fun c_185 => ?_) (fun c_185 => ?_)
                              · exact absurd c_185 (by omega)
                              · skip
                                refine EZ_aload_n 4 dL_opens_188 rfl rfl ?_
                                refine EZ_iload_n 5 dL_opens_189 rfl rfl ?_
                                refine EZ_callH zn1 (k_openings l hfl S_182 xv) cwH_143 (As := [.ref 0, .int xv]) (st := []) rfl (rok (Nat.le_of_ble_eq_true rfl) (Nat.le_of_ble_eq_true rfl) (by omega) (by omega)) (Nat.le_of_ble_eq_true rfl) dL_opens_190 rfl (zkJ (fun r_190 mi_190 ml_190 h_190 => ?_))
                                obtain ⟨S_190, h_190⟩ := h_190
                                have n_190 := (h_190.resolve_right (fun q => q.1 hv)).2
                                refine EZ_lload_n 3 dL_opens_193 rfl rfl ?_
                                refine EZ_lcmp dL_opens_194 ?_
                                refine YZ_ne ((lg_cmp r_190 r_2).toInt) rfl 202 dL_opens_195 (by decide) (fun c_195 => ?_) (fun c_195 => ?_)
                                · exact absurd (lc_z (n_190.trans n_2.symm)) c_195
                                · skip
                                  refine EZ_iconst 1 (by decide) dL_opens_198 ?_
                                  refine EZ_goto 203 dL_opens_199 (by decide) ?_
                                  refine EZ_zret rfl rfl (by omega) (by omega) dL_opens_203 ?_
                                  exact okQI ⟨_, S_190, rfl⟩
            · exact absurd (lg_0 c_70) hne
          · exact absurd c_50 (by omega)
      · exact absurd (lc_z ((op_0 n_2).mpr (fun c _ => opP_no (xB_f h_18 c_21)))) c_27
end LWS3
