section MO18
theorem rmC_l {V : Nat → Int32} {g sp : Int} {R : List Nat} : ClN V R = ClR (DS V R) (V 3).toInt (V 4).toInt R.length := rfl
theorem rwN_2 {mj : MI} {sp : Nat} {v : Int32} (hv : v.toInt = (sp : Int)) : rwN (u2 (u2 mj 65 0 0) 65 1 v) [0, sp] := by
  intro j c hj
  match j, hj with
  | 0, hj => cases hj; rw [u2_n (by omega), u2_s]; rfl
  | 1, hj => cases hj; rw [u2_s]; exact hv
  | j + 2, hj => exact absurd (List.getElem?_eq_some_iff.mp hj).1 (by simp)
theorem R2_b {sp : Nat} (h : sp ≤ 40) : ∀ c, c ∈ [0, sp] → c ≤ 40 := by
  intro c hc
  rcases List.mem_cons.mp hc with q | q
  · omega
  · rcases List.mem_cons.mp q with q | q
    · omega
    · cases q
theorem Ra_b {R : List Nat} {x : Nat} (h : ∀ c, c ∈ R → c ≤ 40) (hx : x ≤ 40) : ∀ c, c ∈ R ++ [x] → c ≤ 40 := by
  intro c hc
  rcases List.mem_append.mp hc with q | q
  · exact h c q
  · have := List.mem_singleton.mp q; omega
set_option maxHeartbeats 1600000 in
set_option maxRecDepth 100000 in
theorem c_X6_seek (l : Launch) (hfl : l.stackTraces = false) (mi : MI) (ml : MJ) (n : Nat) (hn : (mi 62 5).toInt = (n : Int)) (h10 : n ≤ 10) (hwf : WFV (mi 62)) (xm xs : Int32) (m sp : Nat) (hxm : xm.toInt = (m : Int)) (hxs9 : xs.toInt = (sp : Int)) (hm1 : 1 ≤ m) (hm6 : m ≤ 6) (hs40 : sp ≤ 40) (P : Prop) : Ct l yX6_seek (.code yX6_seek cX6_seek 6 (some .int)) 4 0 0 [.ref 61, .int xm, .int xs, .int (bI (P))] (wl mi ml) (QI (fun r mi9 ml9 => Fr [65, 66, 68] mi mi9 ∧ FJ ml ml9 ∧ skE (mi 62) m sp P r (ml9 61 11))) noX := by
  refine Ct_of (ini := false) pn_X6 hfl (fun h => nomatch h) (Nat.le_of_ble_eq_true rfl) ?_
  show E l RX6 cX6_seek 6 (some .int) false [] (rmE 4 0 0) (wl mi ml) (TgM (wl mi ml) 0 0 (QI (fun r mi9 ml9 => Fr [65, 66, 68] mi mi9 ∧ FJ ml ml9 ∧ skE (mi 62) m sp P r (ml9 61 11))) noX) 0 0 0 [(0, .ref 61), (1, .int xm), (2, .int xs), (3, .int (bI (P)))] [] (wl mi ml)
  refine E_iload_n 1 dX6_seek_0 rfl rfl ?_
  refine E_iconst 1 (by decide) dX6_seek_1 ?_
  refine Z_eq (m : Int) 1 hxm (show (1 : Int32).toInt = 1 from rfl) 9 dX6_seek_2 (by decide) (fun c_2 => ?_) (fun c_2 => ?_)
  · skip
    refine E_aload_n 0 dX6_seek_9 rfl rfl ?_
    refine E_lconst 1 rfl dX6_seek_10 ?_
    refine pf_X6_141 tw_61 rfl dX6_seek_11 ?_
    refine E_iload_n 1 dX6_seek_14 rfl rfl ?_
    refine E_iconst 1 (by decide) dX6_seek_15 ?_
    refine Z_ne (m : Int) 1 hxm (show (1 : Int32).toInt = 1 from rfl) 27 dX6_seek_16 (by decide) (fun c_16 => ?_) (fun c_16 => ?_)
    · skip
      refine E_iconst 0 (by decide) dX6_seek_27 ?_
      refine E_iret rfl (Nat.le_of_ble_eq_true rfl) (Nat.le_of_ble_eq_true rfl) dX6_seek_28 ?_
      exact okQI ⟨Fr.rfl', FJ.r.u, by rw [u2_s]; first | exact sk_2 (by omega) (by omega) | exact sk_3 (by omega) (by omega)⟩
    · skip
      refine E_iload_n 2 dX6_seek_19 rfl rfl ?_
      refine Y_ne (sp : Int) hxs9 27 dX6_seek_20 (by decide) (fun c_20 => ?_) (fun c_20 => ?_)
      · skip
        refine E_iconst 0 (by decide) dX6_seek_27 ?_
        refine E_iret rfl (Nat.le_of_ble_eq_true rfl) (Nat.le_of_ble_eq_true rfl) dX6_seek_28 ?_
        exact okQI ⟨Fr.rfl', FJ.r.u, by rw [u2_s]; first | exact sk_2 (by omega) (by omega) | exact sk_3 (by omega) (by omega)⟩
      · skip
        refine E_iconst 1 (by decide) dX6_seek_23 ?_
        refine E_goto 28 dX6_seek_24 (by decide) ?_
        refine E_iret rfl (Nat.le_of_ble_eq_true rfl) (Nat.le_of_ble_eq_true rfl) dX6_seek_28 ?_
        exact okQI ⟨Fr.rfl', FJ.r.u, by rw [u2_s]; exact sk_1 (by omega) (by omega)⟩
  · skip
    refine E_iload_n 2 dX6_seek_5 rfl rfl ?_
    refine Y_ne (sp : Int) hxs9 29 dX6_seek_6 (by decide) (fun c_6 => ?_) (fun c_6 => ?_)
    · skip
      refine E_iconst 0 (by decide) dX6_seek_29 ?_
      refine E_istore [(4, .int 0), (0, .ref 61), (1, .int xm), (2, .int xs), (3, .int (bI (P)))] dX6_seek_30 (by decide) rfl ?_
      have J32 : ∀ (Nm : Nat) (xk : Int32) (k : Nat) (mj : MI), m - k < Nm → xk.toInt = (k : Int) → k ≤ m → Fr [65, 66, 68] mi mj → (∀ j, j < k → mj 66 j = 60) → E l RX6 cX6_seek 6 (some .int) false [] (rmE 4 0 0) (wl mi ml) (TgM (wl mi ml) 0 0 (QI (fun r mi9 ml9 => Fr [65, 66, 68] mi mi9 ∧ FJ ml ml9 ∧ skE (mi 62) m sp P r (ml9 61 11))) noX) 0 0 32 [(0, .ref 61), (1, .int xm), (2, .int xs), (3, .int (bI (P))), (4, .int xk)] [] (wl mj ml) := by
        intro Nm
        induction Nm with
        | zero => intros; omega
        | succ Nm ih32 =>
          intro xk k mj hN32 hxk hk hF hlv
          refine E_iload 4 dX6_seek_32 rfl ?_
          refine E_iload_n 1 dX6_seek_34 rfl rfl ?_
          refine Z_ge (k : Int) (m : Int) hxk hxm 53 dX6_seek_35 (by decide) (fun c_35 => ?_) (fun c_35 => ?_)
          · skip
            have hk9 : k = m := by omega
            refine E_aload_n 0 dX6_seek_53 rfl rfl ?_
            refine gf_X6_19 tw_61 rfl dX6_seek_54 ?_
            refine E_iconst 0 (by decide) dX6_seek_57 ?_
            refine E_iconst 0 (by decide) dX6_seek_58 ?_
            refine S_iast 0 tw_65 rfl (by decide) dX6_seek_59 ?_
            refine E_aload_n 0 dX6_seek_60 rfl rfl ?_
            refine gf_X6_19 tw_61 rfl dX6_seek_61 ?_
            refine E_iconst 1 (by decide) dX6_seek_64 ?_
            refine E_iload_n 2 dX6_seek_65 rfl rfl ?_
            refine S_iast 1 tw_65 rfl (by decide) dX6_seek_66 ?_
            have hlv9 : ∀ j, j < m → (u2 (u2 mj 65 0 0) 65 1 xs) 66 j = 60 := fun j hj => by rw [u2_n (by omega), u2_n (by omega)]; exact hlv j (by omega)
            have hrw9 : rwN (u2 (u2 mj 65 0 0) 65 1 xs) [0, sp] := rwN_2 hxs9
            have hrow9 := RowM_S (V := mi 62) hrw9 (R2_b hs40) hlv9 (by simp <;> omega)
            refine E_aload_n 0 dX6_seek_67 rfl rfl ?_
            refine E_iconst 2 (by decide) dX6_seek_68 ?_
            refine E_callV (c_X6_isRowClean l hfl (u2 (u2 mj 65 0 0) 65 1 xs) ml (mi 62 0).toInt.toNat (mi 62 1).toInt (mi 62 2).toInt (fun k => ([0, sp].getD k 0 : Int)) (fun _ => 60) 2 (SetM_S ((SetM_of hwf).c ((u2_p (by decide)).trans ((u2_p (by decide)).trans (hF 62 (by decide)))))) hrow9 (by decide) (mi 62 3).toInt (mi 62 4).toInt (by rw [show (u2 (u2 mj 65 0 0) 65 1 xs) 62 = mi 62 from ((u2_p (by decide)).trans ((u2_p (by decide)).trans (hF 62 (by decide))))]) hwf.1.2.2.2.1 (by rw [show (u2 (u2 mj 65 0 0) 65 1 xs) 62 = mi 62 from ((u2_p (by decide)).trans ((u2_p (by decide)).trans (hF 62 (by decide))))]) hwf.1.2.2.2.2 2 (show (2 : Int32).toInt = 2 from rfl)) cw_X6_132 (As := [.int 2]) (st := []) wi_yX6_isRowClean we_yX6_isRowClean (ci := 6) (q := (RX6, TX6, 23)) rfl rfl (wl_atO tw_61) rfl ⟨Nat.le_of_ble_eq_true rfl, Nat.le_of_ble_eq_true rfl, Nat.le_of_ble_eq_true rfl, Nat.le_of_ble_eq_true rfl⟩ (Nat.le_of_ble_eq_true rfl) dX6_seek_69 (fun _ _ h => h) rfl (kE ?_)
            refine B_ne 77 dX6_seek_72 (by decide) (fun c_72 => ?_) (fun c_72 => ?_)
            · skip
              refine E_aload_n 0 dX6_seek_77 rfl rfl ?_
              refine E_lconst 1 rfl dX6_seek_78 ?_
              refine E_lconst 1 rfl dX6_seek_79 ?_
              refine E_iload_n 2 dX6_seek_80 rfl rfl ?_
              refine E_lshl dX6_seek_81 ?_
              refine E_lor dX6_seek_82 ?_
              refine pf_X6_141 tw_61 rfl dX6_seek_83 ?_
              refine E_iload_n 1 dX6_seek_86 rfl rfl ?_
              refine E_iconst 2 (by decide) dX6_seek_87 ?_
              refine Z_ne (m : Int) 2 hxm (show (2 : Int32).toInt = 2 from rfl) 93 dX6_seek_88 (by decide) (fun c_88 => ?_) (fun c_88 => ?_)
              · skip
                refine E_iconst 0 (by decide) dX6_seek_93 ?_
                refine E_istore [(4, .int 0), (0, .ref 61), (1, .int xm), (2, .int xs), (3, .int (bI (P)))] dX6_seek_94 (by decide) rfl ?_
                refine E_iconst 2 (by decide) dX6_seek_96 ?_
                refine E_istore [(5, .int 2), (4, .int 0), (0, .ref 61), (1, .int xm), (2, .int xs), (3, .int (bI (P)))] dX6_seek_97 (by decide) rfl ?_
                refine E_aload_n 2 dX6_seek_99 rfl rfl ?_
                refine gf_X6_28 tw_61 rfl dX6_seek_100 ?_
                refine E_iconst 2 (by decide) dX6_seek_103 ?_
                refine E_iconst 1 (by decide) dX6_seek_104 ?_
                have hlv12 : ∀ j, j < m → (u2 (u2 (u2 mj 65 0 0) 65 1 xs) 68 2 1) 66 j = 60 := fun j hj => by rw [u2_n (by omega)]; exact hlv9 j hj
                have hok12 : frOK (u2 (u2 (u2 mj 65 0 0) 65 1 xs) 68 2 1) sp [([0, sp], 1)] := ⟨rfl, by show ((u2 (u2 (u2 mj 65 0 0) 65 1 xs) 68 2 1) 68 2).toInt = ((1 : Nat) : Int); rw [u2_s]; rfl, by omega, rwN_v (by decide) hrw9, R2_b hs40, trivial⟩
                refine S_iast 2 tw_68 rfl (by decide) dX6_seek_105 ?_
                have J106 : ∀ (Nm : Nat) (xf xd : Int32) (fc : Nat) (fs : List (List Nat × Nat)) (mk : MI), rmM m sp fs < Nm → xd.toInt = (fs.length : Int) + 1 → xf.toInt = (fc : Int) → Fr [65, 66, 68] mi mk → (∀ j, j < m → mk 66 j = 60) → frOK mk sp fs → skI (mi 62) m sp P fc fs → fs.length + 2 ≤ m → E l RX6 cX6_seek 6 (some .int) false [] (rmE 4 0 0) (wl mi ml) (TgM (wl mi ml) 0 0 (QI (fun r mi9 ml9 => Fr [65, 66, 68] mi mi9 ∧ FJ ml ml9 ∧ skE (mi 62) m sp P r (ml9 61 11))) noX) 0 0 106 [(0, .ref 61), (1, .int xm), (2, .int xs), (3, .int (bI (P))), (4, .int xf), (5, .int xd)] [] (wl mk (u2 ml 61 11 ((1 : Int64) ||| (1 <<< (xs.toInt64 &&& 63))))) := by
                  intro Nm
                  induction Nm with
                  | zero => intros; omega
                  | succ Nm ih106 =>
                    intro xf xd fc fs mk hN106 hxd0 hxf hF2 hlv hok hI hlm
                    refine E_iload 5 dX6_seek_106 rfl ?_
                    refine E_iconst 1 (by decide) dX6_seek_108 ?_
                    refine Z_le ((fs.length : Int) + 1) 1 hxd0 (show (1 : Int32).toInt = 1 from rfl) 211 dX6_seek_109 (by decide) (fun c_109 => ?_) (fun c_109 => ?_)
                    · skip
                      refine E_iload 4 dX6_seek_211 rfl ?_
                      refine E_iret rfl (Nat.le_of_ble_eq_true rfl) (Nat.le_of_ble_eq_true rfl) dX6_seek_213 ?_
                      exact okQI ⟨hF2, FJ.r.u, sk_end hxf (by rw [← show fs = [] from List.eq_nil_of_length_eq_zero (by omega)]; exact hI)⟩
                    · skip
                      obtain ⟨R, x, gs, hfs⟩ : ∃ R x gs, fs = (R, x) :: gs := by cases fs with | nil => exact absurd hxd0 (by simp <;> omega) | cons a b => exact ⟨a.1, a.2, b, rfl⟩
                      have hok1 := hok
                      have hI1 := hI
                      have hN1 := hN106
                      rw [hfs] at hok1 hI1 hN1
                      have hfs1 : fs.length = gs.length + 1 := by rw [hfs]; rfl
                      obtain ⟨hRl, hnx, hxle, hrw, hRb, hok2⟩ := hok1
                      have hxd : xd.toInt = ((gs.length + 2 : Nat) : Int) := hxd0.trans (by omega)
                      have hmR : R.length + 1 ≤ m := by omega
                      have hx40 : x ≤ 40 := by omega
                      have hfc := sk_fc hs40 hm6 hI1
                      refine E_aload_n 0 dX6_seek_112 rfl rfl ?_
                      refine gf_X6_28 tw_61 rfl dX6_seek_113 ?_
                      refine E_iload 5 dX6_seek_116 rfl ?_
                      refine S_iald (gs.length + 2) (mk 68 (gs.length + 2)) tw_68 hxd (by omega) rfl dX6_seek_118 ?_
                      refine E_iload_n 2 dX6_seek_119 rfl rfl ?_
                      refine Z_lt (x : Int) (sp : Int) hnx hxs9 129 dX6_seek_120 (by decide) (fun c_120 => ?_) (fun c_120 => ?_)
                      · skip
                        have hxs : x < sp := by omega
                        refine E_aload_n 0 dX6_seek_129 rfl rfl ?_
                        refine gf_X6_19 tw_61 rfl dX6_seek_130 ?_
                        refine E_iload 5 dX6_seek_133 rfl ?_
                        refine E_aload_n 0 dX6_seek_135 rfl rfl ?_
                        refine gf_X6_28 tw_61 rfl dX6_seek_136 ?_
                        refine E_iload 5 dX6_seek_139 rfl ?_
                        refine S_iald (gs.length + 2) (mk 68 (gs.length + 2)) tw_68 hxd (by omega) rfl dX6_seek_141 ?_
                        refine S_iast (gs.length + 2) tw_65 hxd (by omega) dX6_seek_142 ?_
                        refine E_aload_n 0 dX6_seek_143 rfl rfl ?_
                        refine gf_X6_28 tw_61 rfl dX6_seek_144 ?_
                        refine E_iload 5 dX6_seek_147 rfl ?_
                        refine E_dup2 rfl rfl dX6_seek_149 ?_
                        refine S_iald (gs.length + 2) (mk 68 (gs.length + 2)) tw_68 hxd (by omega) (u2_n (by omega)) dX6_seek_150 ?_
                        refine E_iconst 1 (by decide) dX6_seek_151 ?_
                        refine E_iadd dX6_seek_152 ?_
                        refine S_iast (gs.length + 2) tw_68 hxd (by omega) dX6_seek_153 ?_
                        have hlv9 : ∀ j, j < m → (u2 (u2 mk 65 (gs.length + 2) (mk 68 (gs.length + 2))) 68 (gs.length + 2) ((mk 68 (gs.length + 2)) + 1)) 66 j = 60 := fun j hj => by rw [u2_n (by omega), u2_n (by omega)]; exact hlv j hj
                        have hrw9 : rwN (u2 (u2 mk 65 (gs.length + 2) (mk 68 (gs.length + 2))) 68 (gs.length + 2) ((mk 68 (gs.length + 2)) + 1)) (R ++ [x]) := rwN_v (by decide) (rwN_add hrw (by omega) hnx)
                        have hrow9 := RowM_S (V := mi 62) hrw9 (Ra_b hRb hx40) hlv9 (by rw [List.length_append]; simp; omega)
                        have hpp9 : (xd + 1).toInt = ((R ++ [x]).length : Int) := (tI_add hxd (show (1 : Int32).toInt = 1 from rfl) (by omega)).trans (by rw [List.length_append]; simp; omega)
                        have hokn : frOK (u2 (u2 mk 65 (gs.length + 2) (mk 68 (gs.length + 2))) 68 (gs.length + 2) ((mk 68 (gs.length + 2)) + 1)) sp ((R, x + 1) :: gs) := ⟨hRl, by rw [u2_s]; exact (tI_add hnx (show (1 : Int32).toInt = 1 from rfl) (by omega)).trans (by omega), by omega, rwN_v (by decide) (fun j c hj => by have hjl := (List.getElem?_eq_some_iff.mp hj).1; rw [u2_n (by omega)]; exact hrw j c hj), hRb, frOK_v (by omega) (frOK_u (by omega) hok2)⟩
                        refine E_aload_n 0 dX6_seek_154 rfl rfl ?_
                        refine E_iload 5 dX6_seek_155 rfl ?_
                        refine E_iconst 1 (by decide) dX6_seek_157 ?_
                        refine E_iadd dX6_seek_158 ?_
                        refine E_callV (c_X6_isRowClean l hfl (u2 (u2 mk 65 (gs.length + 2) (mk 68 (gs.length + 2))) 68 (gs.length + 2) ((mk 68 (gs.length + 2)) + 1)) (u2 ml 61 11 ((1 : Int64) ||| (1 <<< (xs.toInt64 &&& 63)))) (mi 62 0).toInt.toNat (mi 62 1).toInt (mi 62 2).toInt (fun k => ((R ++ [x]).getD k 0 : Int)) (fun _ => 60) (R ++ [x]).length (SetM_S ((SetM_of hwf).c ((u2_p (by decide)).trans ((u2_p (by decide)).trans (hF2 62 (by decide)))))) hrow9 (by rw [List.length_append]; simp; omega) (mi 62 3).toInt (mi 62 4).toInt (by rw [show (u2 (u2 mk 65 (gs.length + 2) (mk 68 (gs.length + 2))) 68 (gs.length + 2) ((mk 68 (gs.length + 2)) + 1)) 62 = mi 62 from ((u2_p (by decide)).trans ((u2_p (by decide)).trans (hF2 62 (by decide))))]) hwf.1.2.2.2.1 (by rw [show (u2 (u2 mk 65 (gs.length + 2) (mk 68 (gs.length + 2))) 68 (gs.length + 2) ((mk 68 (gs.length + 2)) + 1)) 62 = mi 62 from ((u2_p (by decide)).trans ((u2_p (by decide)).trans (hF2 62 (by decide))))]) hwf.1.2.2.2.2 (xd + 1) hpp9) cw_X6_132 (As := [.int (xd + 1)]) (st := []) wi_yX6_isRowClean we_yX6_isRowClean (ci := 6) (q := (RX6, TX6, 23)) rfl rfl (wl_atO tw_61) rfl ⟨Nat.le_of_ble_eq_true rfl, Nat.le_of_ble_eq_true rfl, Nat.le_of_ble_eq_true rfl, Nat.le_of_ble_eq_true rfl⟩ (Nat.le_of_ble_eq_true rfl) dX6_seek_159 (fun _ _ h => h) rfl (kE ?_)
                        refine B_eq 106 dX6_seek_162 (by decide) (fun c_162 => ?_) (fun c_162 => ?_)
                        · skip
                          exact ih106 xf xd fc ((R, x + 1) :: gs) (u2 (u2 mk 65 (gs.length + 2) (mk 68 (gs.length + 2))) 68 (gs.length + 2) ((mk 68 (gs.length + 2)) + 1)) (Nat.lt_of_lt_of_le (sk_no hmR hxs c_162 hI1).2 (Nat.le_of_lt_succ hN1)) (hxd.trans (by simp <;> omega)) hxf ((hF2.u (by decide)).u (by decide)) hlv9 hokn (sk_no hmR hxs c_162 hI1).1 (by simp <;> omega)
                        · skip
                          refine E_iload 5 dX6_seek_165 rfl ?_
                          refine E_iconst 1 (by decide) dX6_seek_167 ?_
                          refine E_iadd dX6_seek_168 ?_
                          refine E_iload_n 1 dX6_seek_169 rfl rfl ?_
                          refine Z_ge (((fs.length : Int) + 1) + 1) (m : Int) (tI_add hxd0 (show (1 : Int32).toInt = 1 from rfl) (by omega)) hxm 197 dX6_seek_170 (by decide) (fun c_170 => ?_) (fun c_170 => ?_)
                          · skip
                            have hmE : R.length + 1 = m := by omega
                            refine E_iinc 4 (xf + 1) [(4, .int (xf + 1)), (0, .ref 61), (1, .int xm), (2, .int xs), (3, .int (bI (P))), (5, .int xd)] dX6_seek_197 rfl rfl (by decide) rfl ?_
                            refine E_iload_n 4 dX6_seek_200 rfl rfl ?_
                            refine B_eq 106 dX6_seek_201 (by decide) (fun c_201 => ?_) (fun c_201 => ?_)
                            · skip
                              refine E_sub [1, 2, 3, 4, 0, 5] rfl ?_
                              exact ih106 (xf + 1) xd (fc + 1) ((R, x + 1) :: gs) (u2 (u2 mk 65 (gs.length + 2) (mk 68 (gs.length + 2))) 68 (gs.length + 2) ((mk 68 (gs.length + 2)) + 1)) (Nat.lt_of_lt_of_le (sk_one c_201 hmE hxs c_162 hI1).2 (Nat.le_of_lt_succ hN1)) (hxd.trans (by simp <;> omega)) ((tI_add hxf (show (1 : Int32).toInt = 1 from rfl) (by omega)).trans (by omega)) ((hF2.u (by decide)).u (by decide)) hlv9 hokn (sk_one c_201 hmE hxs c_162 hI1).1 (by simp <;> omega)
                            · skip
                              refine E_aload_n 1 dX6_seek_204 rfl rfl ?_
                              refine E_iload_n 2 dX6_seek_205 rfl rfl ?_
                              refine E_callV (c_X6_laysFirst l hfl (u2 (u2 mk 65 (gs.length + 2) (mk 68 (gs.length + 2))) 68 (gs.length + 2) ((mk 68 (gs.length + 2)) + 1)) (u2 ml 61 11 ((1 : Int64) ||| (1 <<< (xs.toInt64 &&& 63)))) (R ++ [x]) hrw9 (by rw [List.length_append]; simp; omega) xm (hxm.trans (by rw [List.length_append]; simp; omega))) cw_X6_145 (As := [.int xm]) (st := []) wi_yX6_laysFirst we_yX6_laysFirst (ci := 6) (q := (RX6, TX6, 23)) rfl rfl (wl_atO tw_61) rfl ⟨Nat.le_of_ble_eq_true rfl, Nat.le_of_ble_eq_true rfl, Nat.le_of_ble_eq_true rfl, Nat.le_of_ble_eq_true rfl⟩ (Nat.le_of_ble_eq_true rfl) dX6_seek_206 (fun _ _ h => h) rfl (kV (fun mi_206 ml_206 h_206 => ?_))
                              obtain ⟨hm9_206, hFJ_206, hrb_206⟩ := h_206
                              subst hm9_206
                              refine E_iconst 1 (by decide) dX6_seek_209 ?_
                              refine E_iret rfl (Nat.le_of_ble_eq_true rfl) (Nat.le_of_ble_eq_true rfl) dX6_seek_210 ?_
                              exact okQI ⟨(hF2.u (by decide)).u (by decide), FJ.t FJ.r.u hFJ_206, sk_hit c_201 hmE hxs c_162 hI1 hrb_206⟩
                          · skip
                            have hmL : R.length + 1 < m := by omega
                            refine E_iinc 5 (xd + 1) [(5, .int (xd + 1)), (0, .ref 61), (1, .int xm), (2, .int xs), (3, .int (bI (P))), (4, .int xf)] dX6_seek_173 rfl rfl (by decide) rfl ?_
                            refine E_aload_n 1 dX6_seek_176 rfl rfl ?_
                            refine gf_X6_28 tw_61 rfl dX6_seek_177 ?_
                            refine E_iload 0 dX6_seek_180 rfl ?_
                            refine E_aload_n 1 dX6_seek_182 rfl rfl ?_
                            refine gf_X6_19 tw_61 rfl dX6_seek_183 ?_
                            refine E_iload 0 dX6_seek_186 rfl ?_
                            refine E_iconst 1 (by decide) dX6_seek_188 ?_
                            refine E_isub dX6_seek_189 ?_
                            refine S_iald (gs.length + 2) (mk 68 (gs.length + 2)) tw_65 ((tI_sub (tI_add hxd (show (1 : Int32).toInt = 1 from rfl) (by omega)) (show (1 : Int32).toInt = 1 from rfl) (by omega)).trans (by omega)) (by omega) ((u2_n (by omega)).trans (u2_s _ _ _ _)) dX6_seek_190 ?_
                            refine E_iconst 1 (by decide) dX6_seek_191 ?_
                            refine E_iadd dX6_seek_192 ?_
                            refine S_iast (gs.length + 3) tw_68 ((tI_add hxd (show (1 : Int32).toInt = 1 from rfl) (by omega)).trans (by omega)) (by omega) dX6_seek_193 ?_
                            have hlv10 : ∀ j, j < m → (u2 (u2 (u2 mk 65 (gs.length + 2) (mk 68 (gs.length + 2))) 68 (gs.length + 2) ((mk 68 (gs.length + 2)) + 1)) 68 (gs.length + 3) ((mk 68 (gs.length + 2)) + 1)) 66 j = 60 := fun j hj => by rw [u2_n (by omega)]; exact hlv9 j hj
                            have hok3 : frOK (u2 (u2 (u2 mk 65 (gs.length + 2) (mk 68 (gs.length + 2))) 68 (gs.length + 2) ((mk 68 (gs.length + 2)) + 1)) 68 (gs.length + 3) ((mk 68 (gs.length + 2)) + 1)) sp ((R ++ [x], x + 1) :: (R, x + 1) :: gs) := ⟨by rw [List.length_append]; simp; omega, by show ((u2 (u2 (u2 mk 65 (gs.length + 2) (mk 68 (gs.length + 2))) 68 (gs.length + 2) ((mk 68 (gs.length + 2)) + 1)) 68 (gs.length + 3) ((mk 68 (gs.length + 2)) + 1)) 68 (gs.length + 3)).toInt = ((x + 1 : Nat) : Int); rw [u2_s]; exact (tI_add hnx (show (1 : Int32).toInt = 1 from rfl) (by omega)).trans (by omega), by omega, rwN_v (by decide) hrw9, Ra_b hRb hx40, frOK_v (by simp) hokn⟩
                            refine E_goto 106 dX6_seek_194 (by decide) ?_
                            refine E_sub [1, 2, 3, 4, 5, 0] rfl ?_
                            exact ih106 xf (xd + 1) fc ((R ++ [x], x + 1) :: (R, x + 1) :: gs) (u2 (u2 (u2 mk 65 (gs.length + 2) (mk 68 (gs.length + 2))) 68 (gs.length + 2) ((mk 68 (gs.length + 2)) + 1)) 68 (gs.length + 3) ((mk 68 (gs.length + 2)) + 1)) (Nat.lt_of_lt_of_le (sk_in hmL hxs c_162 hI1).2 (Nat.le_of_lt_succ hN1)) ((tI_add hxd0 (show (1 : Int32).toInt = 1 from rfl) (by omega)).trans (by simp <;> omega)) hxf (((hF2.u (by decide)).u (by decide)).u (by decide)) hlv10 hok3 (sk_in hmL hxs c_162 hI1).1 (by simp <;> omega)
                      · skip
                        have hxs : sp ≤ x := by omega
                        refine E_iinc 5 (xd + (-1)) [(5, .int (xd + (-1))), (0, .ref 61), (1, .int xm), (2, .int xs), (3, .int (bI (P))), (4, .int xf)] dX6_seek_123 rfl rfl (by decide) rfl ?_
                        refine E_goto 106 dX6_seek_126 (by decide) ?_
                        refine E_sub [1, 2, 3, 4, 5, 0] rfl ?_
                        exact ih106 xf (xd + (-1)) fc gs mk (Nat.lt_of_lt_of_le (sk_pop hmR hxs hI1).2 (Nat.le_of_lt_succ hN1)) ((tI_add hxd0 (show ((-1) : Int32).toInt = (-1) from rfl) (by omega)).trans (by omega)) hxf hF2 hlv hok2 (sk_pop hmR hxs hI1).1 (by omega)
                refine E_sub [2, 3, 4, 5, 1, 0] rfl ?_
                exact J106 _ 0 2 0 [([0, sp], 1)] (u2 (u2 (u2 mj 65 0 0) 65 1 xs) 68 2 1) (Nat.lt_succ_self _) rfl rfl (((hF.u (by decide)).u (by decide)).u (by decide)) hlv12 hok12 (sk_beg (by omega) (by omega) c_72) (by simp <;> omega)
              · skip
                refine E_iconst 1 (by decide) dX6_seek_91 ?_
                refine E_iret rfl (Nat.le_of_ble_eq_true rfl) (Nat.le_of_ble_eq_true rfl) dX6_seek_92 ?_
                exact okQI ⟨(hF.u (by decide)).u (by decide), FJ.r.u, by rw [u2_s]; exact sk_5 (by omega) (by omega) hs40 c_72 hxs9⟩
            · skip
              refine E_iconst 0 (by decide) dX6_seek_75 ?_
              refine E_iret rfl (Nat.le_of_ble_eq_true rfl) (Nat.le_of_ble_eq_true rfl) dX6_seek_76 ?_
              exact okQI ⟨(hF.u (by decide)).u (by decide), FJ.r, sk_4 (by omega) (by omega) c_72⟩
          · skip
            refine E_aload_n 0 dX6_seek_38 rfl rfl ?_
            refine gf_X6_22 tw_61 rfl dX6_seek_39 ?_
            refine E_iload 4 dX6_seek_42 rfl ?_
            refine E_bipush 60 (by decide) dX6_seek_44 ?_
            refine S_iast k tw_66 hxk (by omega) dX6_seek_46 ?_
            refine E_iinc 4 (xk + 1) [(4, .int (xk + 1)), (0, .ref 61), (1, .int xm), (2, .int xs), (3, .int (bI (P)))] dX6_seek_47 rfl rfl (by decide) rfl ?_
            refine E_goto 32 dX6_seek_50 (by decide) ?_
            refine E_sub [1, 2, 3, 4, 0] rfl ?_
            exact ih32 (xk + 1) (k + 1) (u2 mj 66 k 60) (by omega) ((tI_add hxk (show (1 : Int32).toInt = 1 from rfl) (by omega)).trans (by omega)) (by omega) (hF.u (by decide)) (lt_s (fun j hj => by rw [u2_n (by omega)]; exact hlv j hj) (u2_s _ _ _ _))
      refine E_sub [1, 2, 3, 4, 0] rfl ?_
      exact J32 _ 0 0 mi (Nat.lt_succ_self _) (show (0 : Int32).toInt = 0 from rfl) (Nat.zero_le _) Fr.rfl' (fun j h => absurd h (Nat.not_lt_zero j))
    · skip
      refine E_aload_n 0 dX6_seek_9 rfl rfl ?_
      refine E_lconst 1 rfl dX6_seek_10 ?_
      refine pf_X6_141 tw_61 rfl dX6_seek_11 ?_
      refine E_iload_n 1 dX6_seek_14 rfl rfl ?_
      refine E_iconst 1 (by decide) dX6_seek_15 ?_
      refine Z_ne (m : Int) 1 hxm (show (1 : Int32).toInt = 1 from rfl) 27 dX6_seek_16 (by decide) (fun c_16 => ?_) (fun c_16 => ?_)
      · skip
        refine E_iconst 0 (by decide) dX6_seek_27 ?_
        refine E_iret rfl (Nat.le_of_ble_eq_true rfl) (Nat.le_of_ble_eq_true rfl) dX6_seek_28 ?_
        exact okQI ⟨Fr.rfl', FJ.r.u, by rw [u2_s]; first | exact sk_2 (by omega) (by omega) | exact sk_3 (by omega) (by omega)⟩
      · skip
        refine E_iload_n 2 dX6_seek_19 rfl rfl ?_
        refine Y_ne (sp : Int) hxs9 27 dX6_seek_20 (by decide) (fun c_20 => ?_) (fun c_20 => ?_)
        · skip
          refine E_iconst 0 (by decide) dX6_seek_27 ?_
          refine E_iret rfl (Nat.le_of_ble_eq_true rfl) (Nat.le_of_ble_eq_true rfl) dX6_seek_28 ?_
          exact okQI ⟨Fr.rfl', FJ.r.u, by rw [u2_s]; first | exact sk_2 (by omega) (by omega) | exact sk_3 (by omega) (by omega)⟩
        · skip
          refine E_iconst 1 (by decide) dX6_seek_23 ?_
          refine E_goto 28 dX6_seek_24 (by decide) ?_
          refine E_iret rfl (Nat.le_of_ble_eq_true rfl) (Nat.le_of_ble_eq_true rfl) dX6_seek_28 ?_
          exact okQI ⟨Fr.rfl', FJ.r.u, by rw [u2_s]; exact sk_1 (by omega) (by omega)⟩
end MO18
