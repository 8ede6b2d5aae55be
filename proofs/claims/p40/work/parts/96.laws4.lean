section LWS4
theorem rf2 {A B C : Prop} (h : (¬ A ∧ B) ∨ (A ∧ C)) (hn : ¬ A) : B := h.elim (fun q => q.2) (fun q => absurd q.1 hn)
theorem rf3 {A B C D : Prop} (h : (¬ A ∧ B) ∨ (A ∧ C) ∨ (A ∧ D)) (hn : ¬ A) : B := h.elim (fun q => q.2) (fun q => q.elim (fun q => absurd q.1 hn) (fun q => absurd q.1 hn))
set_option maxHeartbeats 3200000 in
set_option maxRecDepth 100000 in
theorem z_refuses (l : Launch) (hfl : l.stackTraces = false) {V : Nat → Int32} {H : List (Nat → Int32)} {mi : MI} {ml : MJ} (S : ST V H mi ml) : CtH l yL_refuses (.code yL_refuses cL_refuses 5 (some .boolean)) 12 60 360 [.ref 0] (wl mi ml) (QI (fun r mi9 ml9 => ST V H mi9 ml9 ∧ r = 1)) noX := by
  have wn := wf_n S.1
  have wm := wf_m S.1
  have wt := wf_t S.1
  refine CtZ_of pn_L hfl (Nat.le_of_ble_eq_true rfl) ?_
  show EZ (fun s _ => Nc2 s) l RL cL_refuses 5 (some .boolean) false [] (rmE 12 60 360) (wl mi ml) (TgM (wl mi ml) 60 360 (QI (fun r mi9 ml9 => ST V H mi9 ml9 ∧ r = 1)) noX) 0 0 0 [(0, .ref 0)] [] (wl mi ml)
  refine EZ_aload_n 0 dL_refuses_0 rfl rfl ?_
  refine EZ_callV (j_digest l hfl S) cw_L_184 (As := []) (st := []) wi_yX5_digest we_yX5_digest (ci := 5) (q := (RX5, TX5, 7)) rfl rfl (wl_atO tw_0) rfl (rok (Nat.le_of_ble_eq_true rfl) (Nat.le_of_ble_eq_true rfl) (by omega) (by omega)) (Nat.le_of_ble_eq_true rfl) dL_refuses_1 (fun _ _ h => h) rfl (zkJ (fun r_1 mi_1 ml_1 h_1 => ?_))
  obtain ⟨S_1, h_1⟩ := h_1
  refine EZ_lstore_n [(1, .long r_1), (0, .ref 0)] dL_refuses_4 rfl (by decide) rfl ?_
  refine EZ_aload_n 1 dL_refuses_5 rfl rfl ?_
  refine EZ_iconst 0 (by decide) dL_refuses_6 ?_
  refine EZ_callH zn1 (k_size l hfl S_1 0) cwH_101 (As := [.ref 0, .int 0]) (st := []) rfl (rok (Nat.le_of_ble_eq_true rfl) (Nat.le_of_ble_eq_true rfl) (by omega) (by omega)) (Nat.le_of_ble_eq_true rfl) dL_refuses_7 rfl (zkI (fun r_7 mi_7 ml_7 h_7 => ?_))
  obtain ⟨S_7, h_7⟩ := h_7
  (try rw [show (0 : Int32).toInt = 0 from (show (0 : Int32).toInt = 0 from rfl)] at h_7)
  have n_7 : r_7.toInt = (nV V : Int) := by omega
  clear h_7
  have hno : ¬ okS V ((1 : Int32) <<< (r_7 &&& 31)) := fun q => by have h1 := pw_s n_7 wn.2; have h2 := q.2; have h3 := Nat.two_pow_pos (nV V); omega
  refine EZ_istore_n [(3, .int r_7), (1, .long r_1), (0, .ref 0)] dL_refuses_10 rfl (by decide) rfl ?_
  refine EZ_aload_n 2 dL_refuses_11 rfl rfl ?_
  refine EZ_iconst (-1) (by decide) dL_refuses_12 ?_
  refine EZ_iconst 0 (by decide) dL_refuses_13 ?_
  refine EZ_callH zn1 (k_addCarrier l hfl S_7 (-1) 0) cwH_187 (As := [.ref 0, .int (-1), .int 0]) (st := []) rfl (rok (Nat.le_of_ble_eq_true rfl) (Nat.le_of_ble_eq_true rfl) (by omega) (by omega)) (Nat.le_of_ble_eq_true rfl) dL_refuses_14 rfl (zkI (fun r_14 mi_14 ml_14 h_14 => ?_))
  obtain ⟨V_14, H_14, S_14, h_14⟩ := h_14
  (try rw [show ((-1) : Int32).toInt = (-1) from (show ((-1) : Int32).toInt = (-1) from rfl)] at h_14)
  (try rw [show (0 : Int32).toInt = 0 from (show (0 : Int32).toInt = 0 from rfl)] at h_14)
  obtain ⟨n_14, e1_14, e2_14⟩ := rf3 h_14 (fun q => absurd q.1.1 (by decide))
  subst e1_14; subst e2_14
  clear h_14
  refine EZ_sipush (-901) (by decide) dL_refuses_17 ?_
  refine ZZ_ne (-901) (-901) n_14 (show ((-901) : Int32).toInt = (-901) from rfl) 137 dL_refuses_20 (by decide) (fun c_20 => ?_) (fun c_20 => ?_)
  · exact absurd c_20 (by omega)
  · skip
    refine EZ_aload_n 2 dL_refuses_23 rfl rfl ?_
    refine EZ_bipush 64 (by decide) dL_refuses_24 ?_
    refine EZ_iconst 0 (by decide) dL_refuses_26 ?_
    refine EZ_callH zn1 (k_addCarrier l hfl S_14 64 0) cwH_187 (As := [.ref 0, .int 64, .int 0]) (st := []) rfl (rok (Nat.le_of_ble_eq_true rfl) (Nat.le_of_ble_eq_true rfl) (by omega) (by omega)) (Nat.le_of_ble_eq_true rfl) dL_refuses_27 rfl (zkI (fun r_27 mi_27 ml_27 h_27 => ?_))
    obtain ⟨V_27, H_27, S_27, h_27⟩ := h_27
    (try rw [show (64 : Int32).toInt = 64 from (show (64 : Int32).toInt = 64 from rfl)] at h_27)
    (try rw [show (0 : Int32).toInt = 0 from (show (0 : Int32).toInt = 0 from rfl)] at h_27)
    obtain ⟨n_27, e1_27, e2_27⟩ := rf3 h_27 (fun q => absurd q.1.2 (by decide))
    subst e1_27; subst e2_27
    clear h_27
    refine EZ_sipush (-901) (by decide) dL_refuses_30 ?_
    refine ZZ_ne (-901) (-901) n_27 (show ((-901) : Int32).toInt = (-901) from rfl) 137 dL_refuses_33 (by decide) (fun c_33 => ?_) (fun c_33 => ?_)
    · exact absurd c_33 (by omega)
    · skip
      refine EZ_aload_n 2 dL_refuses_36 rfl rfl ?_
      refine EZ_iconst 0 (by decide) dL_refuses_37 ?_
      refine EZ_iconst (-1) (by decide) dL_refuses_38 ?_
      refine EZ_callH zn1 (k_addCarrier l hfl S_27 0 (-1)) cwH_187 (As := [.ref 0, .int 0, .int (-1)]) (st := []) rfl (rok (Nat.le_of_ble_eq_true rfl) (Nat.le_of_ble_eq_true rfl) (by omega) (by omega)) (Nat.le_of_ble_eq_true rfl) dL_refuses_39 rfl (zkI (fun r_39 mi_39 ml_39 h_39 => ?_))
      obtain ⟨V_39, H_39, S_39, h_39⟩ := h_39
      (try rw [show (0 : Int32).toInt = 0 from (show (0 : Int32).toInt = 0 from rfl)] at h_39)
      (try rw [show ((-1) : Int32).toInt = (-1) from (show ((-1) : Int32).toInt = (-1) from rfl)] at h_39)
      obtain ⟨n_39, e1_39, e2_39⟩ := rf3 h_39 (fun q => absurd q.2.1.1 (by decide))
      subst e1_39; subst e2_39
      clear h_39
      refine EZ_sipush (-901) (by decide) dL_refuses_42 ?_
      refine ZZ_ne (-901) (-901) n_39 (show ((-901) : Int32).toInt = (-901) from rfl) 137 dL_refuses_45 (by decide) (fun c_45 => ?_) (fun c_45 => ?_)
      · exact absurd c_45 (by omega)
      · skip
        refine EZ_aload_n 2 dL_refuses_48 rfl rfl ?_
        refine EZ_iload_n 0 dL_refuses_49 rfl rfl ?_
        refine EZ_iconst (-1) (by decide) dL_refuses_50 ?_
        refine EZ_iconst 0 (by decide) dL_refuses_51 ?_
        refine EZ_callH zn1 (k_moveCarrier l hfl S_39 r_7 (-1) 0) cwH_189 (As := [.ref 0, .int r_7, .int (-1), .int 0]) (st := []) rfl (rok (Nat.le_of_ble_eq_true rfl) (Nat.le_of_ble_eq_true rfl) (by omega) (by omega)) (Nat.le_of_ble_eq_true rfl) dL_refuses_52 rfl (zkI (fun r_52 mi_52 ml_52 h_52 => ?_))
        obtain ⟨V_52, H_52, S_52, h_52⟩ := h_52
        (try rw [show r_7.toInt = (nV V : Int) from n_7] at h_52)
        (try rw [show ((-1) : Int32).toInt = (-1) from (show ((-1) : Int32).toInt = (-1) from rfl)] at h_52)
        (try rw [show (0 : Int32).toInt = 0 from (show (0 : Int32).toInt = 0 from rfl)] at h_52)
        obtain ⟨n_52, e1_52, e2_52⟩ := (h_52.resolve_right (fun q => q.elim (fun q => by have h9 := q.1; omega) (fun q => by obtain ⟨b, h1, h2, _⟩ := q; omega))).2
        subst e1_52; subst e2_52
        clear h_52
        refine EZ_sipush (-903) (by decide) dL_refuses_55 ?_
        refine ZZ_ne (-903) (-903) n_52 (show ((-903) : Int32).toInt = (-903) from rfl) 137 dL_refuses_58 (by decide) (fun c_58 => ?_) (fun c_58 => ?_)
        · exact absurd c_58 (by omega)
        · skip
          refine EZ_aload_n 2 dL_refuses_61 rfl rfl ?_
          refine EZ_iconst (-1) (by decide) dL_refuses_62 ?_
          refine EZ_callH zn1 (k_removeCarrier l hfl S_52 (-1)) cwH_191 (As := [.ref 0, .int (-1)]) (st := []) rfl (rok (Nat.le_of_ble_eq_true rfl) (Nat.le_of_ble_eq_true rfl) (by omega) (by omega)) (Nat.le_of_ble_eq_true rfl) dL_refuses_63 rfl (zkI (fun r_63 mi_63 ml_63 h_63 => ?_))
          obtain ⟨V_63, H_63, S_63, h_63⟩ := h_63
          (try rw [show ((-1) : Int32).toInt = (-1) from (show ((-1) : Int32).toInt = (-1) from rfl)] at h_63)
          obtain ⟨n_63, e1_63, e2_63⟩ := (h_63.resolve_right (fun q => by obtain ⟨b, h1, h2, _⟩ := q; omega)).2
          subst e1_63; subst e2_63
          clear h_63
          refine EZ_sipush (-903) (by decide) dL_refuses_66 ?_
          refine ZZ_ne (-903) (-903) n_63 (show ((-903) : Int32).toInt = (-903) from rfl) 137 dL_refuses_69 (by decide) (fun c_69 => ?_) (fun c_69 => ?_)
          · exact absurd c_69 (by omega)
          · skip
            refine EZ_aload_n 2 dL_refuses_72 rfl rfl ?_
            refine EZ_bipush (-64) (by decide) dL_refuses_73 ?_
            refine EZ_callH zn1 (k_shift l hfl S_63 (-64)) cwH_193 (As := [.ref 0, .int (-64)]) (st := []) rfl (rok (Nat.le_of_ble_eq_true rfl) (Nat.le_of_ble_eq_true rfl) (by omega) (by omega)) (Nat.le_of_ble_eq_true rfl) dL_refuses_75 rfl (zkI (fun r_75 mi_75 ml_75 h_75 => ?_))
            obtain ⟨V_75, H_75, S_75, h_75⟩ := h_75
            (try rw [show ((-64) : Int32).toInt = (-64) from (show ((-64) : Int32).toInt = (-64) from rfl)] at h_75)
            obtain ⟨n_75, e1_75, e2_75⟩ := rf3 h_75 (by omega)
            subst e1_75; subst e2_75
            clear h_75
            refine EZ_sipush (-901) (by decide) dL_refuses_78 ?_
            refine ZZ_ne (-901) (-901) n_75 (show ((-901) : Int32).toInt = (-901) from rfl) 137 dL_refuses_81 (by decide) (fun c_81 => ?_) (fun c_81 => ?_)
            · exact absurd c_81 (by omega)
            · skip
              refine EZ_aload_n 2 dL_refuses_84 rfl rfl ?_
              refine EZ_iconst (-1) (by decide) dL_refuses_85 ?_
              refine EZ_iconst 0 (by decide) dL_refuses_86 ?_
              refine EZ_iconst 0 (by decide) dL_refuses_87 ?_
              refine EZ_callH zn1 (k_setProducts l hfl S_75 (-1) 0 0) cwH_159 (As := [.ref 0, .int (-1), .int 0, .int 0]) (st := []) rfl (rok (Nat.le_of_ble_eq_true rfl) (Nat.le_of_ble_eq_true rfl) (by omega) (by omega)) (Nat.le_of_ble_eq_true rfl) dL_refuses_88 rfl (zkI (fun r_88 mi_88 ml_88 h_88 => ?_))
              obtain ⟨V_88, H_88, S_88, h_88⟩ := h_88
              (try rw [show ((-1) : Int32).toInt = (-1) from (show ((-1) : Int32).toInt = (-1) from rfl)] at h_88)
              (try rw [show (0 : Int32).toInt = 0 from (show (0 : Int32).toInt = 0 from rfl)] at h_88)
              (try rw [show (0 : Int32).toInt = 0 from (show (0 : Int32).toInt = 0 from rfl)] at h_88)
              obtain ⟨n_88, e1_88, e2_88⟩ := rf2 h_88 (by omega)
              subst e1_88; subst e2_88
              clear h_88
              refine EZ_sipush (-901) (by decide) dL_refuses_91 ?_
              refine ZZ_ne (-901) (-901) n_88 (show ((-901) : Int32).toInt = (-901) from rfl) 137 dL_refuses_94 (by decide) (fun c_94 => ?_) (fun c_94 => ?_)
              · exact absurd c_94 (by omega)
              · skip
                refine EZ_aload_n 2 dL_refuses_97 rfl rfl ?_
                refine EZ_iconst 0 (by decide) dL_refuses_98 ?_
                refine EZ_bipush 11 (by decide) dL_refuses_99 ?_
                refine EZ_callH zn1 (k_setSpacing l hfl S_88 0 11) cwH_162 (As := [.ref 0, .int 0, .int 11]) (st := []) rfl (rok (Nat.le_of_ble_eq_true rfl) (Nat.le_of_ble_eq_true rfl) (by omega) (by omega)) (Nat.le_of_ble_eq_true rfl) dL_refuses_101 rfl (zkI (fun r_101 mi_101 ml_101 h_101 => ?_))
                obtain ⟨V_101, H_101, S_101, h_101⟩ := h_101
                (try rw [show (0 : Int32).toInt = 0 from (show (0 : Int32).toInt = 0 from rfl)] at h_101)
                (try rw [show (11 : Int32).toInt = 11 from (show (11 : Int32).toInt = 11 from rfl)] at h_101)
                obtain ⟨n_101, e1_101, e2_101⟩ := rf2 h_101 (by omega)
                subst e1_101; subst e2_101
                clear h_101
                refine EZ_sipush (-901) (by decide) dL_refuses_104 ?_
                refine ZZ_ne (-901) (-901) n_101 (show ((-901) : Int32).toInt = (-901) from rfl) 137 dL_refuses_107 (by decide) (fun c_107 => ?_) (fun c_107 => ?_)
                · exact absurd c_107 (by omega)
                · skip
                  refine EZ_aload_n 2 dL_refuses_110 rfl rfl ?_
                  refine EZ_iconst (-1) (by decide) dL_refuses_111 ?_
                  refine EZ_callH zn1 (k_size l hfl S_101 (-1)) cwH_101 (As := [.ref 0, .int (-1)]) (st := []) rfl (rok (Nat.le_of_ble_eq_true rfl) (Nat.le_of_ble_eq_true rfl) (by omega) (by omega)) (Nat.le_of_ble_eq_true rfl) dL_refuses_112 rfl (zkI (fun r_112 mi_112 ml_112 h_112 => ?_))
                  obtain ⟨S_112, h_112⟩ := h_112
                  (try rw [show ((-1) : Int32).toInt = (-1) from (show ((-1) : Int32).toInt = (-1) from rfl)] at h_112)
                  have n_112 : r_112.toInt = -901 := by omega
                  clear h_112
                  refine EZ_sipush (-901) (by decide) dL_refuses_115 ?_
                  refine ZZ_ne (-901) (-901) n_112 (show ((-901) : Int32).toInt = (-901) from rfl) 137 dL_refuses_118 (by decide) (fun c_118 => ?_) (fun c_118 => ?_)
                  · exact absurd c_118 (by omega)
                  · skip
                    refine EZ_aload_n 2 dL_refuses_121 rfl rfl ?_
                    refine EZ_iload_n 0 dL_refuses_122 rfl rfl ?_
                    refine EZ_iconst 1 (by decide) dL_refuses_123 ?_
                    refine EZ_callH zn1 (k_carrier l hfl S_112 r_7 1 True (b1 trivial)) cwH_117 (As := [.ref 0, .int r_7, .int 1]) (st := []) rfl (rok (Nat.le_of_ble_eq_true rfl) (Nat.le_of_ble_eq_true rfl) (by omega) (by omega)) (Nat.le_of_ble_eq_true rfl) dL_refuses_124 rfl (zkI (fun r_124 mi_124 ml_124 h_124 => ?_))
                    obtain ⟨S_124, h_124⟩ := h_124
                    (try rw [show r_7.toInt = (nV V : Int) from n_7] at h_124)
                    have n_124 : r_124.toInt = -903 := (h_124.resolve_left (fun q => by obtain ⟨b, h1, h2, _⟩ := q; omega)).2
                    clear h_124
                    refine EZ_sipush (-903) (by decide) dL_refuses_127 ?_
                    refine ZZ_ne (-903) (-903) n_124 (show ((-903) : Int32).toInt = (-903) from rfl) 137 dL_refuses_130 (by decide) (fun c_130 => ?_) (fun c_130 => ?_)
                    · exact absurd c_130 (by omega)
                    · skip
                      refine EZ_iconst 1 (by decide) dL_refuses_133 ?_
                      refine EZ_goto 138 dL_refuses_134 (by decide) ?_
                      refine EZ_istore [(4, .int 1), (3, .int r_7), (1, .long r_1), (0, .ref 0)] dL_refuses_138 (by decide) rfl ?_
                      refine EZ_iload 0 dL_refuses_140 rfl ?_
                      refine YZ_eq 1 (show (1 : Int32).toInt = 1 from rfl) 285 dL_refuses_142 (by decide) (fun c_142 => ?_) (fun c_142 => ?_)
                      · exact absurd c_142 (by decide)
                      · skip
                        refine EZ_aload_n 3 dL_refuses_145 rfl rfl ?_
                        refine EZ_iconst 1 (by decide) dL_refuses_146 ?_
                        refine EZ_iload_n 1 dL_refuses_147 rfl rfl ?_
                        refine EZ_ishl dL_refuses_148 ?_
                        refine EZ_callH zn1 (k_fallout l hfl S_124 ((1 : Int32) <<< (r_7 &&& 31))) cwH_106 (As := [.ref 0, .int ((1 : Int32) <<< (r_7 &&& 31))]) (st := []) rfl (rok (Nat.le_of_ble_eq_true rfl) (Nat.le_of_ble_eq_true rfl) (by omega) (by omega)) (Nat.le_of_ble_eq_true rfl) dL_refuses_149 rfl (zkJ (fun r_149 mi_149 ml_149 h_149 => ?_))
                        obtain ⟨S_149, h_149⟩ := h_149
                        (try rw [show ((1 : Int32) <<< (r_7 &&& 31)).toInt = ((2 ^ nV V : Nat) : Int) from (pw_s n_7 wn.2)] at h_149)
                        have n_149 : r_149 = -901 := (h_149.resolve_left (fun q => by obtain ⟨s, h1, h2, _⟩ := q; exact hno h2)).2
                        clear h_149
                        refine EZ_ldc2 wk_L_52 dL_refuses_152 ?_
                        refine EZ_lcmp dL_refuses_155 ?_
                        refine YZ_ne ((lg_cmp r_149 (-901)).toInt) rfl 285 dL_refuses_156 (by decide) (fun c_156 => ?_) (fun c_156 => ?_)
                        · exact absurd (lc_z n_149) c_156
                        · skip
                          refine EZ_aload_n 3 dL_refuses_159 rfl rfl ?_
                          refine EZ_iconst (-1) (by decide) dL_refuses_160 ?_
                          refine EZ_callH zn1 (k_hitsOn l hfl S_149 (-1)) cwH_109 (As := [.ref 0, .int (-1)]) (st := []) rfl (rok (Nat.le_of_ble_eq_true rfl) (Nat.le_of_ble_eq_true rfl) (by omega) (by omega)) (Nat.le_of_ble_eq_true rfl) dL_refuses_161 rfl (zkI (fun r_161 mi_161 ml_161 h_161 => ?_))
                          obtain ⟨S_161, h_161⟩ := h_161
                          (try rw [show ((-1) : Int32).toInt = (-1) from (show ((-1) : Int32).toInt = (-1) from rfl)] at h_161)
                          have n_161 : r_161.toInt = -903 := (h_161.resolve_left (fun q => by obtain ⟨b, h1, h2, _⟩ := q; omega)).2
                          clear h_161
                          refine EZ_sipush (-903) (by decide) dL_refuses_164 ?_
                          refine ZZ_ne (-903) (-903) n_161 (show ((-903) : Int32).toInt = (-903) from rfl) 285 dL_refuses_167 (by decide) (fun c_167 => ?_) (fun c_167 => ?_)
                          · exact absurd c_167 (by omega)
                          · skip
                            refine EZ_aload_n 3 dL_refuses_170 rfl rfl ?_
                            refine EZ_iconst 0 (by decide) dL_refuses_171 ?_
                            refine EZ_callH zn1 (k_leastSpan l hfl S_161 0) cwH_150 (As := [.ref 0, .int 0]) (st := []) rfl (rok (Nat.le_of_ble_eq_true rfl) (Nat.le_of_ble_eq_true rfl) (by omega) (by omega)) (Nat.le_of_ble_eq_true rfl) dL_refuses_172 rfl (zkI (fun r_172 mi_172 ml_172 h_172 => ?_))
                            obtain ⟨S_172, h_172⟩ := h_172
                            (try rw [show (0 : Int32).toInt = 0 from (show (0 : Int32).toInt = 0 from rfl)] at h_172)
                            have n_172 : r_172.toInt = -901 := (h_172.resolve_left (fun q => by have h9 := q.1; omega)).2
                            clear h_172
                            refine EZ_sipush (-901) (by decide) dL_refuses_175 ?_
                            refine ZZ_ne (-901) (-901) n_172 (show ((-901) : Int32).toInt = (-901) from rfl) 285 dL_refuses_178 (by decide) (fun c_178 => ?_) (fun c_178 => ?_)
                            · exact absurd c_178 (by omega)
                            · skip
                              refine EZ_aload_n 3 dL_refuses_181 rfl rfl ?_
                              refine EZ_bipush 7 (by decide) dL_refuses_182 ?_
                              refine EZ_callH zn1 (k_bestRuler l hfl S_172 7) cwH_152 (As := [.ref 0, .int 7]) (st := []) rfl (rok (Nat.le_of_ble_eq_true rfl) (Nat.le_of_ble_eq_true rfl) (by omega) (by omega)) (Nat.le_of_ble_eq_true rfl) dL_refuses_184 rfl (zkJ (fun r_184 mi_184 ml_184 h_184 => ?_))
                              obtain ⟨S_184, h_184⟩ := h_184
                              (try rw [show (7 : Int32).toInt = 7 from (show (7 : Int32).toInt = 7 from rfl)] at h_184)
                              have n_184 : r_184 = -901 := (h_184.resolve_left (fun q => by have h9 := q.1; omega)).2
                              clear h_184
                              refine EZ_ldc2 wk_L_52 dL_refuses_187 ?_
                              refine EZ_lcmp dL_refuses_190 ?_
                              refine YZ_ne ((lg_cmp r_184 (-901)).toInt) rfl 285 dL_refuses_191 (by decide) (fun c_191 => ?_) (fun c_191 => ?_)
                              · exact absurd (lc_z n_184) c_191
                              · skip
                                refine EZ_aload_n 3 dL_refuses_194 rfl rfl ?_
                                refine EZ_iconst 0 (by decide) dL_refuses_195 ?_
                                refine EZ_iconst 0 (by decide) dL_refuses_196 ?_
                                refine EZ_callH zn1 (k_rulers l hfl S_184 0 0) cwH_154 (As := [.ref 0, .int 0, .int 0]) (st := []) rfl (rok (Nat.le_of_ble_eq_true rfl) (Nat.le_of_ble_eq_true rfl) (by omega) (by omega)) (Nat.le_of_ble_eq_true rfl) dL_refuses_197 rfl (zkI (fun r_197 mi_197 ml_197 h_197 => ?_))
                                obtain ⟨S_197, h_197⟩ := h_197
                                (try rw [show (0 : Int32).toInt = 0 from (show (0 : Int32).toInt = 0 from rfl)] at h_197)
                                (try rw [show (0 : Int32).toInt = 0 from (show (0 : Int32).toInt = 0 from rfl)] at h_197)
                                have n_197 : r_197.toInt = -901 := (h_197.resolve_left (fun q => by have h9 := q.1; omega)).2
                                clear h_197
                                refine EZ_sipush (-901) (by decide) dL_refuses_200 ?_
                                refine ZZ_ne (-901) (-901) n_197 (show ((-901) : Int32).toInt = (-901) from rfl) 285 dL_refuses_203 (by decide) (fun c_203 => ?_) (fun c_203 => ?_)
                                · exact absurd c_203 (by omega)
                                · skip
                                  refine EZ_aload_n 3 dL_refuses_206 rfl rfl ?_
                                  refine EZ_bipush 61 (by decide) dL_refuses_207 ?_
                                  refine EZ_callH zn1 (k_openings l hfl S_197 61) cwH_143 (As := [.ref 0, .int 61]) (st := []) rfl (rok (Nat.le_of_ble_eq_true rfl) (Nat.le_of_ble_eq_true rfl) (by omega) (by omega)) (Nat.le_of_ble_eq_true rfl) dL_refuses_209 rfl (zkJ (fun r_209 mi_209 ml_209 h_209 => ?_))
                                  obtain ⟨S_209, h_209⟩ := h_209
                                  (try rw [show (61 : Int32).toInt = 61 from (show (61 : Int32).toInt = 61 from rfl)] at h_209)
                                  have n_209 : r_209 = -901 := (h_209.resolve_left (fun q => by have h9 := q.1; omega)).2
                                  clear h_209
                                  refine EZ_ldc2 wk_L_52 dL_refuses_212 ?_
                                  refine EZ_lcmp dL_refuses_215 ?_
                                  refine YZ_ne ((lg_cmp r_209 (-901)).toInt) rfl 285 dL_refuses_216 (by decide) (fun c_216 => ?_) (fun c_216 => ?_)
                                  · exact absurd (lc_z n_209) c_216
                                  · skip
                                    refine EZ_aload_n 3 dL_refuses_219 rfl rfl ?_
                                    refine EZ_iconst (-1) (by decide) dL_refuses_220 ?_
                                    refine EZ_callH zn1 (k_putIn l hfl S_209 (-1)) cwH_145 (As := [.ref 0, .int (-1)]) (st := []) rfl (rok (Nat.le_of_ble_eq_true rfl) (Nat.le_of_ble_eq_true rfl) (by omega) (by omega)) (Nat.le_of_ble_eq_true rfl) dL_refuses_221 rfl (zkI (fun r_221 mi_221 ml_221 h_221 => ?_))
                                    obtain ⟨V_221, H_221, S_221, h_221⟩ := h_221
                                    (try rw [show ((-1) : Int32).toInt = (-1) from (show ((-1) : Int32).toInt = (-1) from rfl)] at h_221)
                                    obtain ⟨n_221, e1_221, e2_221⟩ := (h_221.resolve_right (fun q => by rcases q with q | q | q <;> have h9 := q.1 <;> omega)).2
                                    subst e1_221; subst e2_221
                                    clear h_221
                                    refine EZ_sipush (-901) (by decide) dL_refuses_224 ?_
                                    refine ZZ_ne (-901) (-901) n_221 (show ((-901) : Int32).toInt = (-901) from rfl) 285 dL_refuses_227 (by decide) (fun c_227 => ?_) (fun c_227 => ?_)
                                    · exact absurd c_227 (by omega)
                                    · skip
                                      refine EZ_aload_n 3 dL_refuses_230 rfl rfl ?_
                                      refine EZ_iconst 1 (by decide) dL_refuses_231 ?_
                                      refine EZ_iload_n 1 dL_refuses_232 rfl rfl ?_
                                      refine EZ_ishl dL_refuses_233 ?_
                                      refine EZ_callH zn1 (k_addMixer l hfl S_221 ((1 : Int32) <<< (r_7 &&& 31))) cwH_195 (As := [.ref 0, .int ((1 : Int32) <<< (r_7 &&& 31))]) (st := []) rfl (rok (Nat.le_of_ble_eq_true rfl) (Nat.le_of_ble_eq_true rfl) (by omega) (by omega)) (Nat.le_of_ble_eq_true rfl) dL_refuses_234 rfl (zkI (fun r_234 mi_234 ml_234 h_234 => ?_))
                                      obtain ⟨V_234, H_234, S_234, h_234⟩ := h_234
                                      (try rw [show ((1 : Int32) <<< (r_7 &&& 31)).toInt = ((2 ^ nV V : Nat) : Int) from (pw_s n_7 wn.2)] at h_234)
                                      obtain ⟨n_234, e1_234, e2_234⟩ := rf3 h_234 hno
                                      subst e1_234; subst e2_234
                                      clear h_234
                                      refine EZ_sipush (-901) (by decide) dL_refuses_237 ?_
                                      refine ZZ_ne (-901) (-901) n_234 (show ((-901) : Int32).toInt = (-901) from rfl) 285 dL_refuses_240 (by decide) (fun c_240 => ?_) (fun c_240 => ?_)
                                      · exact absurd c_240 (by omega)
                                      · skip
                                        refine EZ_aload_n 3 dL_refuses_243 rfl rfl ?_
                                        refine EZ_iconst 5 (by decide) dL_refuses_244 ?_
                                        refine EZ_iconst 0 (by decide) dL_refuses_245 ?_
                                        refine EZ_iconst 1 (by decide) dL_refuses_246 ?_
                                        refine EZ_callH zn1 (k_setMember l hfl S_234 5 0 1 True (b1 trivial)) cwH_197 (As := [.ref 0, .int 5, .int 0, .int 1]) (st := []) rfl (rok (Nat.le_of_ble_eq_true rfl) (Nat.le_of_ble_eq_true rfl) (by omega) (by omega)) (Nat.le_of_ble_eq_true rfl) dL_refuses_247 rfl (zkI (fun r_247 mi_247 ml_247 h_247 => ?_))
                                        obtain ⟨V_247, H_247, S_247, h_247⟩ := h_247
                                        (try rw [show (5 : Int32).toInt = 5 from (show (5 : Int32).toInt = 5 from rfl)] at h_247)
                                        (try rw [show (0 : Int32).toInt = 0 from (show (0 : Int32).toInt = 0 from rfl)] at h_247)
                                        obtain ⟨n_247, e1_247, e2_247⟩ := (h_247.resolve_right (fun q => by obtain ⟨b, h1, h2, _⟩ := q; omega)).2
                                        subst e1_247; subst e2_247
                                        clear h_247
                                        refine EZ_sipush (-903) (by decide) dL_refuses_250 ?_
                                        refine ZZ_ne (-903) (-903) n_247 (show ((-903) : Int32).toInt = (-903) from rfl) 285 dL_refuses_253 (by decide) (fun c_253 => ?_) (fun c_253 => ?_)
                                        · exact absurd c_253 (by omega)
                                        · skip
                                          refine EZ_aload_n 3 dL_refuses_256 rfl rfl ?_
                                          refine EZ_iconst 5 (by decide) dL_refuses_257 ?_
                                          refine EZ_callH zn1 (k_mixer l hfl S_247 5) cwH_199 (As := [.ref 0, .int 5]) (st := []) rfl (rok (Nat.le_of_ble_eq_true rfl) (Nat.le_of_ble_eq_true rfl) (by omega) (by omega)) (Nat.le_of_ble_eq_true rfl) dL_refuses_258 rfl (zkI (fun r_258 mi_258 ml_258 h_258 => ?_))
                                          obtain ⟨S_258, h_258⟩ := h_258
                                          (try rw [show (5 : Int32).toInt = 5 from (show (5 : Int32).toInt = 5 from rfl)] at h_258)
                                          have n_258 : r_258.toInt = -903 := (h_258.resolve_left (fun q => by obtain ⟨b, h1, h2, _⟩ := q; omega)).2
                                          clear h_258
                                          refine EZ_sipush (-903) (by decide) dL_refuses_261 ?_
                                          refine ZZ_ne (-903) (-903) n_258 (show ((-903) : Int32).toInt = (-903) from rfl) 285 dL_refuses_264 (by decide) (fun c_264 => ?_) (fun c_264 => ?_)
                                          · exact absurd c_264 (by omega)
                                          · skip
                                            refine EZ_aload_n 3 dL_refuses_267 rfl rfl ?_
                                            refine EZ_iconst 0 (by decide) dL_refuses_268 ?_
                                            refine EZ_bipush 64 (by decide) dL_refuses_269 ?_
                                            refine EZ_iconst 1 (by decide) dL_refuses_271 ?_
                                            refine EZ_callH zn1 (k_addTest l hfl S_258 0 64 1 True (b1 trivial)) cwH_179 (As := [.ref 0, .int 0, .int 64, .int 1]) (st := []) rfl (rok (Nat.le_of_ble_eq_true rfl) (Nat.le_of_ble_eq_true rfl) (by omega) (by omega)) (Nat.le_of_ble_eq_true rfl) dL_refuses_272 rfl (zkI (fun r_272 mi_272 ml_272 h_272 => ?_))
                                            obtain ⟨V_272, H_272, S_272, h_272⟩ := h_272
                                            (try rw [show (0 : Int32).toInt = 0 from (show (0 : Int32).toInt = 0 from rfl)] at h_272)
                                            (try rw [show (64 : Int32).toInt = 64 from (show (64 : Int32).toInt = 64 from rfl)] at h_272)
                                            obtain ⟨n_272, e1_272, e2_272⟩ := rf3 h_272 (fun q => by have h9 := q.2; omega)
                                            subst e1_272; subst e2_272
                                            clear h_272
                                            refine EZ_sipush (-901) (by decide) dL_refuses_275 ?_
                                            refine ZZ_ne (-901) (-901) n_272 (show ((-901) : Int32).toInt = (-901) from rfl) 285 dL_refuses_278 (by decide) (fun c_278 => ?_) (fun c_278 => ?_)
                                            · exact absurd c_278 (by omega)
                                            · skip
                                              refine EZ_iconst 1 (by decide) dL_refuses_281 ?_
                                              refine EZ_goto 286 dL_refuses_282 (by decide) ?_
                                              refine EZ_istore [(4, .int 1), (3, .int r_7), (1, .long r_1), (0, .ref 0)] dL_refuses_286 (by decide) rfl ?_
                                              refine EZ_iload 0 dL_refuses_288 rfl ?_
                                              refine YZ_eq 1 (show (1 : Int32).toInt = 1 from rfl) 348 dL_refuses_290 (by decide) (fun c_290 => ?_) (fun c_290 => ?_)
                                              · exact absurd c_290 (by decide)
                                              · skip
                                                refine EZ_aload_n 3 dL_refuses_293 rfl rfl ?_
                                                refine EZ_bipush 16 (by decide) dL_refuses_294 ?_
                                                refine EZ_iconst 0 (by decide) dL_refuses_296 ?_
                                                refine EZ_callH zn1 (k_test l hfl S_272 16 0) cwH_201 (As := [.ref 0, .int 16, .int 0]) (st := []) rfl (rok (Nat.le_of_ble_eq_true rfl) (Nat.le_of_ble_eq_true rfl) (by omega) (by omega)) (Nat.le_of_ble_eq_true rfl) dL_refuses_297 rfl (zkI (fun r_297 mi_297 ml_297 h_297 => ?_))
                                                obtain ⟨S_297, h_297⟩ := h_297
                                                (try rw [show (16 : Int32).toInt = 16 from (show (16 : Int32).toInt = 16 from rfl)] at h_297)
                                                (try rw [show (0 : Int32).toInt = 0 from (show (0 : Int32).toInt = 0 from rfl)] at h_297)
                                                have n_297 : r_297.toInt = -903 := by rcases h_297 with ⟨j, h1, h2⟩ | ⟨_, h⟩ | ⟨h, _⟩ <;> omega
                                                clear h_297
                                                refine EZ_sipush (-903) (by decide) dL_refuses_300 ?_
                                                refine ZZ_ne (-903) (-903) n_297 (show ((-903) : Int32).toInt = (-903) from rfl) 348 dL_refuses_303 (by decide) (fun c_303 => ?_) (fun c_303 => ?_)
                                                · exact absurd c_303 (by omega)
                                                · skip
                                                  refine EZ_aload_n 3 dL_refuses_306 rfl rfl ?_
                                                  refine EZ_iconst 1 (by decide) dL_refuses_307 ?_
                                                  refine EZ_iload_n 1 dL_refuses_308 rfl rfl ?_
                                                  refine EZ_ishl dL_refuses_309 ?_
                                                  refine EZ_iconst 0 (by decide) dL_refuses_310 ?_
                                                  refine EZ_callH zn1 (k_heard l hfl S_297 ((1 : Int32) <<< (r_7 &&& 31)) 0) cwH_167 (As := [.ref 0, .int ((1 : Int32) <<< (r_7 &&& 31)), .int 0]) (st := []) rfl (rok (Nat.le_of_ble_eq_true rfl) (Nat.le_of_ble_eq_true rfl) (by omega) (by omega)) (Nat.le_of_ble_eq_true rfl) dL_refuses_311 rfl (zkI (fun r_311 mi_311 ml_311 h_311 => ?_))
                                                  obtain ⟨S_311, h_311⟩ := h_311
                                                  (try rw [show ((1 : Int32) <<< (r_7 &&& 31)).toInt = ((2 ^ nV V : Nat) : Int) from (pw_s n_7 wn.2)] at h_311)
                                                  (try rw [show (0 : Int32).toInt = 0 from (show (0 : Int32).toInt = 0 from rfl)] at h_311)
                                                  have n_311 : r_311.toInt = -901 := (h_311.resolve_left (fun q => hno q.1.1)).2
                                                  clear h_311
                                                  refine EZ_sipush (-901) (by decide) dL_refuses_314 ?_
                                                  refine ZZ_ne (-901) (-901) n_311 (show ((-901) : Int32).toInt = (-901) from rfl) 348 dL_refuses_317 (by decide) (fun c_317 => ?_) (fun c_317 => ?_)
                                                  · exact absurd c_317 (by omega)
                                                  · skip
                                                    refine EZ_aload_n 3 dL_refuses_320 rfl rfl ?_
                                                    refine EZ_iconst (-1) (by decide) dL_refuses_321 ?_
                                                    refine EZ_callH zn1 (k_bestTest l hfl S_311 (-1)) cwH_182 (As := [.ref 0, .int (-1)]) (st := []) rfl (rok (Nat.le_of_ble_eq_true rfl) (Nat.le_of_ble_eq_true rfl) (by omega) (by omega)) (Nat.le_of_ble_eq_true rfl) dL_refuses_322 rfl (zkI (fun r_322 mi_322 ml_322 h_322 => ?_))
                                                    obtain ⟨S_322, h_322⟩ := h_322
                                                    (try rw [show ((-1) : Int32).toInt = (-1) from (show ((-1) : Int32).toInt = (-1) from rfl)] at h_322)
                                                    have n_322 : r_322.toInt = -901 := (h_322.resolve_left (fun q => absurd q.1.1 (by decide))).2
                                                    clear h_322
                                                    refine EZ_sipush (-901) (by decide) dL_refuses_325 ?_
                                                    refine ZZ_ne (-901) (-901) n_322 (show ((-901) : Int32).toInt = (-901) from rfl) 348 dL_refuses_328 (by decide) (fun c_328 => ?_) (fun c_328 => ?_)
                                                    · exact absurd c_328 (by omega)
                                                    · skip
                                                      refine EZ_aload_n 3 dL_refuses_331 rfl rfl ?_
                                                      refine EZ_sipush 128 (by decide) dL_refuses_332 ?_
                                                      refine EZ_callH zn1 (k_append l hfl S_322 128 (by decide)) cwH_203 (As := [.ref 0, .int 128]) (st := []) rfl (rok (Nat.le_of_ble_eq_true rfl) (Nat.le_of_ble_eq_true rfl) (by omega) (by omega)) (Nat.le_of_ble_eq_true rfl) dL_refuses_335 rfl (zkI (fun r_335 mi_335 ml_335 h_335 => ?_))
                                                      obtain ⟨S_335, h_335⟩ := h_335
                                                      (try rw [show (128 : Int32).toInt = 128 from (show (128 : Int32).toInt = 128 from rfl)] at h_335)
                                                      refine EZ_sipush (-901) (by decide) dL_refuses_338 ?_
                                                      refine ZZ_ne (-901) (-901) h_335 (show ((-901) : Int32).toInt = (-901) from rfl) 348 dL_refuses_341 (by decide) (fun c_341 => ?_) (fun c_341 => ?_)
                                                      · exact absurd c_341 (by omega)
                                                      · skip
                                                        refine EZ_iconst 1 (by decide) dL_refuses_344 ?_
                                                        refine EZ_goto 349 dL_refuses_345 (by decide) ?_
                                                        refine EZ_istore [(4, .int 1), (3, .int r_7), (1, .long r_1), (0, .ref 0)] dL_refuses_349 (by decide) rfl ?_
                                                        refine EZ_iload 0 dL_refuses_351 rfl ?_
                                                        refine YZ_eq 1 (show (1 : Int32).toInt = 1 from rfl) 369 dL_refuses_353 (by decide) (fun c_353 => ?_) (fun c_353 => ?_)
                                                        · exact absurd c_353 (by decide)
                                                        · skip
                                                          refine EZ_aload_n 3 dL_refuses_356 rfl rfl ?_
                                                          refine EZ_callV (j_digest l hfl S_335) cw_L_184 (As := []) (st := []) wi_yX5_digest we_yX5_digest (ci := 5) (q := (RX5, TX5, 7)) rfl rfl (wl_atO tw_0) rfl (rok (Nat.le_of_ble_eq_true rfl) (Nat.le_of_ble_eq_true rfl) (by omega) (by omega)) (Nat.le_of_ble_eq_true rfl) dL_refuses_357 (fun _ _ h => h) rfl (zkJ (fun r_357 mi_357 ml_357 h_357 => ?_))
                                                          obtain ⟨S_357, h_357⟩ := h_357
                                                          refine EZ_lload_n 2 dL_refuses_360 rfl rfl ?_
                                                          refine EZ_lcmp dL_refuses_361 ?_
                                                          refine YZ_ne ((lg_cmp r_357 r_1).toInt) rfl 369 dL_refuses_362 (by decide) (fun c_362 => ?_) (fun c_362 => ?_)
                                                          · exact absurd (lc_z (h_357.trans h_1.symm)) c_362
                                                          · skip
                                                            refine EZ_iconst 1 (by decide) dL_refuses_365 ?_
                                                            refine EZ_goto 370 dL_refuses_366 (by decide) ?_
                                                            refine EZ_zret rfl rfl (by omega) (by omega) dL_refuses_370 ?_
                                                            exact okQI ⟨S_357, rfl⟩
theorem he_l {V : Nat → Int32} {a r : Int32} {A C : Int} {s ch : Nat} (h : ((okS V a ∧ (0 ≤ C ∧ C < 64)) ∧ ∃ s ch : Nat, A = (s : Int) ∧ C = (ch : Int) ∧ r.toInt = (hbS V (nV V) s ch (mV V) : Int)) ∨ (¬ (okS V a ∧ (0 ≤ C ∧ C < 64)) ∧ r.toInt = -901)) (ok : okS V a) (eA : A = (s : Int)) (eC : C = (ch : Int)) (hc : ch < 64) : r.toInt = (hbS V (nV V) s ch (mV V) : Int) := by
  rcases h with ⟨_, s2, c2, h1, h2, h3⟩ | ⟨h, _⟩
  · obtain rfl : s = s2 := by omega
    obtain rfl : ch = c2 := by omega
    exact h3
  · exact absurd ⟨ok, by omega, by omega⟩ h
set_option maxHeartbeats 3200000 in
set_option maxRecDepth 100000 in
theorem z_listens (l : Launch) (hfl : l.stackTraces = false) {V : Nat → Int32} {H : List (Nat → Int32)} {mi : MI} {ml : MJ} (S : ST V H mi ml) (xx : Int32) : CtH l yL_listens (.code yL_listens cL_listens 15 (some .boolean)) 8 60 360 [.ref 0, .int xx] (wl mi ml) (QI (fun r mi9 ml9 => ∃ H2, ST V H2 mi9 ml9 ∧ r = 1)) noX := by
  have wn := wf_n S.1
  have wm := wf_m S.1
  have wt := wf_t S.1
  refine CtZ_of pn_L hfl (Nat.le_of_ble_eq_true rfl) ?_
  show EZ (fun s _ => Nc2 s) l RL cL_listens 15 (some .boolean) false [] (rmE 8 60 360) (wl mi ml) (TgM (wl mi ml) 60 360 (QI (fun r mi9 ml9 => ∃ H2, ST V H2 mi9 ml9 ∧ r = 1)) noX) 0 0 0 [(0, .ref 0), (1, .int xx)] [] (wl mi ml)
  refine EZ_aload_n 0 dL_listens_0 rfl rfl ?_
  refine EZ_iconst 0 (by decide) dL_listens_1 ?_
  refine EZ_callH zn1 (k_size l hfl S 0) cwH_101 (As := [.ref 0, .int 0]) (st := []) rfl (rok (Nat.le_of_ble_eq_true rfl) (Nat.le_of_ble_eq_true rfl) (by omega) (by omega)) (Nat.le_of_ble_eq_true rfl) dL_listens_2 rfl (zkI (fun r_2 mi_2 ml_2 h_2 => ?_))
  obtain ⟨S_2, h_2⟩ := h_2
  (try rw [show (0 : Int32).toInt = 0 from (show (0 : Int32).toInt = 0 from rfl)] at h_2)
  have n_2 : r_2.toInt = (nV V : Int) := by omega
  clear h_2
  have p2 := Nat.two_pow_pos (nV V)
  have oka : okS V (((1 : Int32) <<< (r_2 &&& 31)) - 1) := by have h9 := pw_a n_2 wn.2; exact ⟨by omega, by omega⟩
  refine EZ_istore_n [(2, .int r_2), (0, .ref 0), (1, .int xx)] dL_listens_5 rfl (by decide) rfl ?_
  refine EZ_iconst 1 (by decide) dL_listens_6 ?_
  refine EZ_iload_n 0 dL_listens_7 rfl rfl ?_
  refine EZ_ishl dL_listens_8 ?_
  refine EZ_iconst 1 (by decide) dL_listens_9 ?_
  refine EZ_isub dL_listens_10 ?_
  refine EZ_istore_n [(3, .int (((1 : Int32) <<< (r_2 &&& 31)) - 1)), (2, .int r_2), (0, .ref 0), (1, .int xx)] dL_listens_11 rfl (by decide) rfl ?_
  refine EZ_iload_n 3 dL_listens_12 rfl rfl ?_
  refine EZ_iconst 1 (by decide) dL_listens_13 ?_
  refine EZ_iload_n 1 dL_listens_14 rfl rfl ?_
  refine EZ_ishl dL_listens_15 ?_
  refine EZ_callZ zn1 (z_low l hfl mi_2 ml_2 xx ((1 : Int32) <<< (r_2 &&& 31)) ((2 ^ nV V : Nat) : Int) (pw_s n_2 wn.2) (by omega)) cw_L_164 (As := [.int xx, .int ((1 : Int32) <<< (r_2 &&& 31))]) (st := []) ws_yL_low rfl (rok (Nat.le_of_ble_eq_true rfl) (Nat.le_of_ble_eq_true rfl) (by omega) (by omega)) (Nat.le_of_ble_eq_true rfl) dL_listens_16 rfl (zkI (fun r_16 mi_16 ml_16 h_16 => ?_))
  obtain ⟨e1_16, e2_16, h_16⟩ := h_16
  subst e1_16; subst e2_16
  obtain ⟨sm, hsm⟩ : ∃ sm : Nat, r_16.toInt = (sm : Int) := ⟨r_16.toInt.toNat, by omega⟩
  have oks : okS V r_16 := ⟨by omega, by omega⟩
  refine EZ_istore [(4, .int r_16), (3, .int (((1 : Int32) <<< (r_2 &&& 31)) - 1)), (2, .int r_2), (0, .ref 0), (1, .int xx)] dL_listens_19 (by decide) rfl ?_
  refine EZ_iload_n 4 dL_listens_21 rfl rfl ?_
  refine EZ_bipush 10 (by decide) dL_listens_22 ?_
  refine EZ_ishr dL_listens_24 ?_
  refine EZ_bipush 64 (by decide) dL_listens_25 ?_
  refine EZ_callZ zn1 (z_low l hfl mi_2 ml_2 (xx >>> ((10 : Int32) &&& 31)) 64 64 (show (64 : Int32).toInt = 64 from rfl) (by decide)) cw_L_164 (As := [.int (xx >>> ((10 : Int32) &&& 31)), .int 64]) (st := []) ws_yL_low rfl (rok (Nat.le_of_ble_eq_true rfl) (Nat.le_of_ble_eq_true rfl) (by omega) (by omega)) (Nat.le_of_ble_eq_true rfl) dL_listens_27 rfl (zkI (fun r_27 mi_27 ml_27 h_27 => ?_))
  obtain ⟨e1_27, e2_27, h_27⟩ := h_27
  subst e1_27; subst e2_27
  obtain ⟨ch, hch⟩ : ∃ ch : Nat, r_27.toInt = (ch : Int) := ⟨r_27.toInt.toNat, by omega⟩
  have hch64 : ch < 64 := by omega
  have okt : okS V r_16 ∧ (0 ≤ (ch : Int) ∧ (ch : Int) < 64) := ⟨oks, by omega, by omega⟩
  refine EZ_istore [(5, .int r_27), (4, .int r_16), (3, .int (((1 : Int32) <<< (r_2 &&& 31)) - 1)), (2, .int r_2), (0, .ref 0), (1, .int xx)] dL_listens_30 (by decide) rfl ?_
  refine EZ_aload_n 4 dL_listens_32 rfl rfl ?_
  refine EZ_iconst 1 (by decide) dL_listens_33 ?_
  refine EZ_callH zn1 (k_size l hfl S_2 1) cwH_101 (As := [.ref 0, .int 1]) (st := []) rfl (rok (Nat.le_of_ble_eq_true rfl) (Nat.le_of_ble_eq_true rfl) (by omega) (by omega)) (Nat.le_of_ble_eq_true rfl) dL_listens_34 rfl (zkI (fun r_34 mi_34 ml_34 h_34 => ?_))
  obtain ⟨S_34, h_34⟩ := h_34
  (try rw [show (1 : Int32).toInt = 1 from (show (1 : Int32).toInt = 1 from rfl)] at h_34)
  have n_34 : r_34.toInt = (mV V : Int) := by omega
  clear h_34
  refine EZ_istore [(6, .int r_34), (5, .int r_27), (4, .int r_16), (3, .int (((1 : Int32) <<< (r_2 &&& 31)) - 1)), (2, .int r_2), (0, .ref 0), (1, .int xx)] dL_listens_37 (by decide) rfl ?_
  refine EZ_aload_n 5 dL_listens_39 rfl rfl ?_
  refine EZ_iload 2 dL_listens_40 rfl ?_
  refine EZ_iload 1 dL_listens_42 rfl ?_
  refine EZ_callH zn1 (k_heard l hfl S_34 r_16 r_27) cwH_167 (As := [.ref 0, .int r_16, .int r_27]) (st := []) rfl (rok (Nat.le_of_ble_eq_true rfl) (Nat.le_of_ble_eq_true rfl) (by omega) (by omega)) (Nat.le_of_ble_eq_true rfl) dL_listens_44 rfl (zkI (fun r_44 mi_44 ml_44 h_44 => ?_))
  obtain ⟨S_44, h_44⟩ := h_44
  (try rw [show r_16.toInt = (sm : Int) from hsm] at h_44)
  (try rw [show r_27.toInt = (ch : Int) from hch] at h_44)
  have n_44 := he_l h_44 oks rfl rfl hch64
  clear h_44
  have hb32 := hbS_lt V (nV V) sm ch (mV V)
  have m32 := p2_5 wm.2
  refine EZ_istore [(7, .int r_44), (6, .int r_34), (5, .int r_27), (4, .int r_16), (3, .int (((1 : Int32) <<< (r_2 &&& 31)) - 1)), (2, .int r_2), (0, .ref 0), (1, .int xx)] dL_listens_47 (by decide) rfl ?_
  refine EZ_iload 0 dL_listens_49 rfl ?_
  refine EZ_aload_n 6 dL_listens_51 rfl rfl ?_
  refine EZ_iload_n 4 dL_listens_52 rfl rfl ?_
  refine EZ_iload 2 dL_listens_53 rfl ?_
  refine EZ_callH zn1 (k_heard l hfl S_44 (((1 : Int32) <<< (r_2 &&& 31)) - 1) r_27) cwH_167 (As := [.ref 0, .int (((1 : Int32) <<< (r_2 &&& 31)) - 1), .int r_27]) (st := [.int r_44]) rfl (rok (Nat.le_of_ble_eq_true rfl) (Nat.le_of_ble_eq_true rfl) (by omega) (by omega)) (Nat.le_of_ble_eq_true rfl) dL_listens_55 rfl (zkI (fun r_55 mi_55 ml_55 h_55 => ?_))
  obtain ⟨S_55, h_55⟩ := h_55
  (try rw [show (((1 : Int32) <<< (r_2 &&& 31)) - 1).toInt = ((2 ^ nV V - 1 : Nat) : Int) from (pw_a n_2 wn.2)] at h_55)
  (try rw [show r_27.toInt = (ch : Int) from hch] at h_55)
  have n_55 := he_l h_55 oka rfl rfl hch64
  clear h_55
  have n_61 : (r_44 &&& (r_55 ^^^ (-1))) = 0 := by rw [tI_nIx n_44, tI_nIx n_55]; exact hb_sub hch64 _ wm.2
  refine EZ_iconst (-1) (by decide) dL_listens_58 ?_
  refine EZ_ixor dL_listens_59 ?_
  refine EZ_iand dL_listens_60 ?_
  refine YZ_ne ((r_44 &&& (r_55 ^^^ ((-1) : Int32))).toInt) rfl 99 dL_listens_61 (by decide) (fun c_61 => ?_) (fun c_61 => ?_)
  · exact absurd (congrArg Int32.toInt n_61) c_61
  · skip
    refine EZ_iload 0 dL_listens_64 rfl ?_
    refine EZ_iconst 1 (by decide) dL_listens_66 ?_
    refine EZ_iload 1 dL_listens_67 rfl ?_
    refine EZ_ishl dL_listens_69 ?_
    refine ZZ_ge ((hbS V (nV V) sm ch (mV V)) : Int) ((2 ^ mV V : Nat) : Int) n_44 (pw_s n_34 (by omega)) 99 dL_listens_70 (by decide) (fun c_70 => ?_) (fun c_70 => ?_)
    · exact absurd c_70 (by omega)
    · skip
      refine EZ_aload_n 6 dL_listens_73 rfl rfl ?_
      refine EZ_iconst 2 (by decide) dL_listens_74 ?_
      refine EZ_callH zn1 (k_size l hfl S_55 2) cwH_101 (As := [.ref 0, .int 2]) (st := []) rfl (rok (Nat.le_of_ble_eq_true rfl) (Nat.le_of_ble_eq_true rfl) (by omega) (by omega)) (Nat.le_of_ble_eq_true rfl) dL_listens_75 rfl (zkI (fun r_75 mi_75 ml_75 h_75 => ?_))
      obtain ⟨S_75, h_75⟩ := h_75
      (try rw [show (2 : Int32).toInt = 2 from (show (2 : Int32).toInt = 2 from rfl)] at h_75)
      have n_75 : r_75.toInt = (tV V : Int) := by omega
      clear h_75
      refine YZ_ne (tV V : Int) n_75 101 dL_listens_78 (by decide) (fun c_78 => ?_) (fun c_78 => ?_)
      · skip
        refine EZ_aload_n 6 dL_listens_101 rfl rfl ?_
        refine EZ_callV (j_diagnoses l hfl S_75) cw_L_169 (As := []) (st := []) wi_yX5_diagnoses we_yX5_diagnoses (ci := 5) (q := (RX5, TX5, 7)) rfl rfl (wl_atO tw_0) rfl (rok (Nat.le_of_ble_eq_true rfl) (Nat.le_of_ble_eq_true rfl) (by omega) (by omega)) (Nat.le_of_ble_eq_true rfl) dL_listens_102 (fun _ _ h => h) rfl (zkI (fun r_102 mi_102 ml_102 h_102 => ?_))
        obtain ⟨S_102, h_102⟩ := h_102
        have h32 : ∀ s, s ∈ (fitL V (nV V) (mV V) (tV V) (2 ^ mV V)) → s < 32 := fun s hs => Nat.lt_of_lt_of_le (fitL_lt _ s hs) (p2_5 wm.2)
        have hFl : (fitL V (nV V) (mV V) (tV V) (2 ^ mV V)).length ≤ 32 := Nat.le_trans (fitL_len V _ _ _ _) (p2_5 wm.2)
        refine EZ_istore [(8, .int r_102), (7, .int r_44), (6, .int r_34), (5, .int r_27), (4, .int r_16), (3, .int (((1 : Int32) <<< (r_2 &&& 31)) - 1)), (2, .int r_2), (0, .ref 0), (1, .int xx)] dL_listens_105 (by decide) rfl ?_
        refine EZ_iload 0 dL_listens_107 rfl ?_
        refine YZ_ne (((fitL V (nV V) (mV V) (tV V) (2 ^ mV V)).length : Nat) : Int) h_102 116 dL_listens_109 (by decide) (fun c_109 => ?_) (fun c_109 => ?_)
        · skip
          have hF : (fitL V (nV V) (mV V) (tV V) (2 ^ mV V)) ≠ [] := fun e => c_109 (by rw [e]; rfl)
          refine EZ_iconst 0 (by decide) dL_listens_116 ?_
          refine EZ_istore [(9, .int 0), (8, .int r_102), (7, .int r_44), (6, .int r_34), (5, .int r_27), (4, .int r_16), (3, .int (((1 : Int32) <<< (r_2 &&& 31)) - 1)), (2, .int r_2), (0, .ref 0), (1, .int xx)] dL_listens_117 (by decide) rfl ?_
          refine EZ_aload_n 8 dL_listens_119 rfl rfl ?_
          refine EZ_iconst 1 (by decide) dL_listens_120 ?_
          refine EZ_callV (j_certain l hfl S_102 1 True (b1 trivial)) cw_L_175 (As := [.int 1]) (st := []) wi_yX5_certain we_yX5_certain (ci := 5) (q := (RX5, TX5, 7)) rfl rfl (wl_atO tw_0) rfl (rok (Nat.le_of_ble_eq_true rfl) (Nat.le_of_ble_eq_true rfl) (by omega) (by omega)) (Nat.le_of_ble_eq_true rfl) dL_listens_121 (fun _ _ h => h) rfl (zkI (fun r_121 mi_121 ml_121 h_121 => ?_))
          obtain ⟨S_121, h_121⟩ := h_121
          refine EZ_istore [(10, .int r_121), (9, .int 0), (8, .int r_102), (7, .int r_44), (6, .int r_34), (5, .int r_27), (4, .int r_16), (3, .int (((1 : Int32) <<< (r_2 &&& 31)) - 1)), (2, .int r_2), (0, .ref 0), (1, .int xx)] dL_listens_124 (by decide) rfl ?_
          refine EZ_aload_n 9 dL_listens_126 rfl rfl ?_
          refine EZ_iconst 0 (by decide) dL_listens_127 ?_
          refine EZ_callV (j_certain l hfl S_121 0 False (b0 not_false)) cw_L_175 (As := [.int 0]) (st := []) wi_yX5_certain we_yX5_certain (ci := 5) (q := (RX5, TX5, 7)) rfl rfl (wl_atO tw_0) rfl (rok (Nat.le_of_ble_eq_true rfl) (Nat.le_of_ble_eq_true rfl) (by omega) (by omega)) (Nat.le_of_ble_eq_true rfl) dL_listens_128 (fun _ _ h => h) rfl (zkI (fun r_128 mi_128 ml_128 h_128 => ?_))
          obtain ⟨S_128, h_128⟩ := h_128
          refine EZ_istore [(11, .int r_128), (10, .int r_121), (9, .int 0), (8, .int r_102), (7, .int r_44), (6, .int r_34), (5, .int r_27), (4, .int r_16), (3, .int (((1 : Int32) <<< (r_2 &&& 31)) - 1)), (2, .int r_2), (0, .ref 0), (1, .int xx)] dL_listens_131 (by decide) rfl ?_
          refine EZ_aload_n 10 dL_listens_133 rfl rfl ?_
          refine EZ_callV (j_diagnosis l hfl S_128) cw_L_172 (As := []) (st := []) wi_yX5_diagnosis we_yX5_diagnosis (ci := 5) (q := (RX5, TX5, 7)) rfl rfl (wl_atO tw_0) rfl (rok (Nat.le_of_ble_eq_true rfl) (Nat.le_of_ble_eq_true rfl) (by omega) (by omega)) (Nat.le_of_ble_eq_true rfl) dL_listens_134 (fun _ _ h => h) rfl (zkI (fun r_134 mi_134 ml_134 h_134 => ?_))
          obtain ⟨S_134, h_134⟩ := h_134
          refine EZ_iconst (-1) (by decide) dL_listens_137 ?_
          refine ZZ_ne r_134.toInt (-1) rfl (show ((-1) : Int32).toInt = (-1) from rfl) 145 dL_listens_138 (by decide) (fun c_138 => ?_) (fun c_138 => ?_)
          · skip
            refine EZ_iconst 0 (by decide) dL_listens_145 ?_
            refine EZ_iload 2 dL_listens_146 rfl ?_
            refine ZZ_ne 0 0 (show (0 : Int32).toInt = 0 from rfl) (show (0 : Int32).toInt = 0 from rfl) 211 dL_listens_148 (by decide) (fun c_148 => ?_) (fun c_148 => ?_)
            · exact absurd c_148 (by decide)
            · skip
              refine EZ_iload 2 dL_listens_151 rfl ?_
              refine YZ_eq 0 (show (0 : Int32).toInt = 0 from rfl) 177 dL_listens_153 (by decide) (fun c_153 => ?_) (fun c_153 => ?_)
              · skip
                refine EZ_iload 1 dL_listens_177 rfl ?_
                refine EZ_iload 0 dL_listens_179 rfl ?_
                refine EZ_iand dL_listens_181 ?_
                refine YZ_ne ((r_121 &&& r_128).toInt) rfl 211 dL_listens_182 (by decide) (fun c_182 => ?_) (fun c_182 => ?_)
                · exact absurd (congrArg Int32.toInt (by rw [h_121, h_128]; exact li_bg hF h32 : (r_121 &&& r_128) = 0)) c_182
                · skip
                  refine EZ_aload_n 10 dL_listens_185 rfl rfl ?_
                  refine EZ_callV (j_diagnosis l hfl S_134) cw_L_172 (As := []) (st := []) wi_yX5_diagnosis we_yX5_diagnosis (ci := 5) (q := (RX5, TX5, 7)) rfl rfl (wl_atO tw_0) rfl (rok (Nat.le_of_ble_eq_true rfl) (Nat.le_of_ble_eq_true rfl) (by omega) (by omega)) (Nat.le_of_ble_eq_true rfl) dL_listens_186 (fun _ _ h => h) rfl (zkI (fun r_186 mi_186 ml_186 h_186 => ?_))
                  obtain ⟨S_186, h_186⟩ := h_186
                  obtain ⟨s1, hs1, es1⟩ := bs_in hF
                  have n_186 := h_186.trans es1
                  refine EZ_iload 1 dL_listens_189 rfl ?_
                  refine EZ_iand dL_listens_191 ?_
                  refine EZ_iload 1 dL_listens_192 rfl ?_
                  refine ZZ_ne ((r_186 &&& r_121).toInt) r_121.toInt rfl rfl 211 dL_listens_194 (by decide) (fun c_194 => ?_) (fun c_194 => ?_)
                  · exact absurd (congrArg Int32.toInt (by rw [h_121]; exact li_db hs1 n_186 : (r_186 &&& r_121) = r_121)) c_194
                  · skip
                    refine EZ_aload_n 10 dL_listens_197 rfl rfl ?_
                    refine EZ_callV (j_diagnosis l hfl S_186) cw_L_172 (As := []) (st := []) wi_yX5_diagnosis we_yX5_diagnosis (ci := 5) (q := (RX5, TX5, 7)) rfl rfl (wl_atO tw_0) rfl (rok (Nat.le_of_ble_eq_true rfl) (Nat.le_of_ble_eq_true rfl) (by omega) (by omega)) (Nat.le_of_ble_eq_true rfl) dL_listens_198 (fun _ _ h => h) rfl (zkI (fun r_198 mi_198 ml_198 h_198 => ?_))
                    obtain ⟨S_198, h_198⟩ := h_198
                    have n_198 := h_198.trans es1
                    refine EZ_iload 0 dL_listens_201 rfl ?_
                    refine EZ_iand dL_listens_203 ?_
                    refine YZ_ne ((r_198 &&& r_128).toInt) rfl 211 dL_listens_204 (by decide) (fun c_204 => ?_) (fun c_204 => ?_)
                    · exact absurd (congrArg Int32.toInt (by rw [h_128]; exact li_dg hs1 (h32 s1 hs1) n_198 : (r_198 &&& r_128) = 0)) c_204
                    · skip
                      refine EZ_iconst 1 (by decide) dL_listens_207 ?_
                      refine EZ_goto 212 dL_listens_208 (by decide) ?_
                      refine EZ_istore [(12, .int 1), (11, .int r_128), (10, .int r_121), (9, .int 0), (8, .int r_102), (7, .int r_44), (6, .int r_34), (5, .int r_27), (4, .int r_16), (3, .int (((1 : Int32) <<< (r_2 &&& 31)) - 1)), (2, .int r_2), (0, .ref 0), (1, .int xx)] dL_listens_212 (by decide) rfl ?_
                      refine EZ_aload_n 11 dL_listens_214 rfl rfl ?_
                      refine EZ_iconst 2 (by decide) dL_listens_215 ?_
                      refine EZ_callH zn1 (k_size l hfl S_198 2) cwH_101 (As := [.ref 0, .int 2]) (st := []) rfl (rok (Nat.le_of_ble_eq_true rfl) (Nat.le_of_ble_eq_true rfl) (by omega) (by omega)) (Nat.le_of_ble_eq_true rfl) dL_listens_216 rfl (zkI (fun r_216 mi_216 ml_216 h_216 => ?_))
                      obtain ⟨S_216, h_216⟩ := h_216
                      (try rw [show (2 : Int32).toInt = 2 from (show (2 : Int32).toInt = 2 from rfl)] at h_216)
                      have n_216 : r_216.toInt = (tV V : Int) := by omega
                      clear h_216
                      refine EZ_bipush 16 (by decide) dL_listens_219 ?_
                      refine ZZ_ne (tV V : Int) 16 n_216 (show (16 : Int32).toInt = 16 from rfl) 250 dL_listens_221 (by decide) (fun c_221 => ?_) (fun c_221 => ?_)
                      · skip
                        refine EZ_aload_n 11 dL_listens_250 rfl rfl ?_
                        refine EZ_iload 8 dL_listens_251 rfl ?_
                        refine EZ_iload 7 dL_listens_253 rfl ?_
                        refine EZ_iconst 1 (by decide) dL_listens_255 ?_
                        refine EZ_callH zn1 (k_addTest l hfl S_216 r_16 r_27 1 True (b1 trivial)) cwH_179 (As := [.ref 0, .int r_16, .int r_27, .int 1]) (st := []) rfl (rok (Nat.le_of_ble_eq_true rfl) (Nat.le_of_ble_eq_true rfl) (by omega) (by omega)) (Nat.le_of_ble_eq_true rfl) dL_listens_256 rfl (zkI (fun r_256 mi_256 ml_256 h_256 => ?_))
                        obtain ⟨V_256, H_256, S_256, h_256⟩ := h_256
                        (try rw [show r_16.toInt = (sm : Int) from hsm] at h_256)
                        (try rw [show r_27.toInt = (ch : Int) from hch] at h_256)
                        obtain ⟨_, _, n_256, e1_256, e2_256⟩ := (h_256.resolve_left (fun q => q.1 okt)).resolve_left (fun q => by have h9 := q.2.1; omega)
                        subst e1_256; subst e2_256
                        rw [fit_yes wn.2 wm.2 hsm hch trivial] at n_256
                        have hcl := cntF_le (fitL V (nV V) (mV V) (tV V) (2 ^ mV V)) (hbS V (nV V) sm ch (mV V))
                        refine EZ_istore [(13, .int r_256), (12, .int 1), (11, .int r_128), (10, .int r_121), (9, .int 0), (8, .int r_102), (7, .int r_44), (6, .int r_34), (5, .int r_27), (4, .int r_16), (3, .int (((1 : Int32) <<< (r_2 &&& 31)) - 1)), (2, .int r_2), (0, .ref 0), (1, .int xx)] dL_listens_259 (by decide) rfl ?_
                        refine EZ_iload 1 dL_listens_261 rfl ?_
                        refine YZ_eq 1 (show (1 : Int32).toInt = 1 from rfl) 286 dL_listens_263 (by decide) (fun c_263 => ?_) (fun c_263 => ?_)
                        · exact absurd c_263 (by decide)
                        · skip
                          refine EZ_aload_n 12 dL_listens_266 rfl rfl ?_
                          refine EZ_callH zn1 (k_undo l hfl S_256) cwH_147 (As := [.ref 0]) (st := []) rfl (rok (Nat.le_of_ble_eq_true rfl) (Nat.le_of_ble_eq_true rfl) (by omega) (by omega)) (Nat.le_of_ble_eq_true rfl) dL_listens_267 rfl (zkI (fun r_267 mi_267 ml_267 h_267 => ?_))
                          obtain ⟨V_267, H_267, S_267, h_267⟩ := h_267
                          obtain ⟨U1, T1, e1_267, e2_267, e3_267, n_267⟩ := h_267.resolve_left (fun q => by cases q.1)
                          have e4_267 : V :: (H).take 3 = U1 :: T1 := e1_267
                          cases e4_267
                          subst e2_267; subst e3_267
                          refine YZ_lt r_267.toInt rfl 286 dL_listens_270 (by decide) (fun c_270 => ?_) (fun c_270 => ?_)
                          · exact absurd c_270 (by omega)
                          · skip
                            refine EZ_aload_n 12 dL_listens_273 rfl rfl ?_
                            refine EZ_callV (j_diagnoses l hfl S_267) cw_L_169 (As := []) (st := []) wi_yX5_diagnoses we_yX5_diagnoses (ci := 5) (q := (RX5, TX5, 7)) rfl rfl (wl_atO tw_0) rfl (rok (Nat.le_of_ble_eq_true rfl) (Nat.le_of_ble_eq_true rfl) (by omega) (by omega)) (Nat.le_of_ble_eq_true rfl) dL_listens_274 (fun _ _ h => h) rfl (zkI (fun r_274 mi_274 ml_274 h_274 => ?_))
                            obtain ⟨S_274, h_274⟩ := h_274
                            refine EZ_iload 5 dL_listens_277 rfl ?_
                            refine ZZ_ne (((fitL V (nV V) (mV V) (tV V) (2 ^ mV V)).length : Nat) : Int) (((fitL V (nV V) (mV V) (tV V) (2 ^ mV V)).length : Nat) : Int) h_274 h_102 286 dL_listens_279 (by decide) (fun c_279 => ?_) (fun c_279 => ?_)
                            · exact absurd c_279 (by omega)
                            · skip
                              refine EZ_iconst 1 (by decide) dL_listens_282 ?_
                              refine EZ_goto 287 dL_listens_283 (by decide) ?_
                              refine EZ_istore [(12, .int 1), (13, .int r_256), (11, .int r_128), (10, .int r_121), (9, .int 0), (8, .int r_102), (7, .int r_44), (6, .int r_34), (5, .int r_27), (4, .int r_16), (3, .int (((1 : Int32) <<< (r_2 &&& 31)) - 1)), (2, .int r_2), (0, .ref 0), (1, .int xx)] dL_listens_287 (by decide) rfl ?_
                              refine EZ_aload_n 12 dL_listens_289 rfl rfl ?_
                              refine EZ_iload 9 dL_listens_290 rfl ?_
                              refine EZ_iload 8 dL_listens_292 rfl ?_
                              refine EZ_iconst 0 (by decide) dL_listens_294 ?_
                              refine EZ_callH zn1 (k_addTest l hfl S_274 r_16 r_27 0 False (b0 not_false)) cwH_179 (As := [.ref 0, .int r_16, .int r_27, .int 0]) (st := []) rfl (rok (Nat.le_of_ble_eq_true rfl) (Nat.le_of_ble_eq_true rfl) (by omega) (by omega)) (Nat.le_of_ble_eq_true rfl) dL_listens_295 rfl (zkI (fun r_295 mi_295 ml_295 h_295 => ?_))
                              obtain ⟨V_295, H_295, S_295, h_295⟩ := h_295
                              (try rw [show r_16.toInt = (sm : Int) from hsm] at h_295)
                              (try rw [show r_27.toInt = (ch : Int) from hch] at h_295)
                              obtain ⟨_, _, n_295, e1_295, e2_295⟩ := (h_295.resolve_left (fun q => q.1 okt)).resolve_left (fun q => by have h9 := q.2.1; omega)
                              subst e1_295; subst e2_295
                              have n_296 := fit_no (V := V) (t := tV V) (P := False) wn.2 wm.2 hsm hch not_false (2 ^ mV V)
                              refine EZ_istore [(14, .int r_295), (12, .int 1), (13, .int r_256), (11, .int r_128), (10, .int r_121), (9, .int 0), (8, .int r_102), (7, .int r_44), (6, .int r_34), (5, .int r_27), (4, .int r_16), (3, .int (((1 : Int32) <<< (r_2 &&& 31)) - 1)), (2, .int r_2), (0, .ref 0), (1, .int xx)] dL_listens_298 (by decide) rfl ?_
                              refine EZ_iload 1 dL_listens_300 rfl ?_
                              refine YZ_eq 1 (show (1 : Int32).toInt = 1 from rfl) 344 dL_listens_302 (by decide) (fun c_302 => ?_) (fun c_302 => ?_)
                              · exact absurd c_302 (by decide)
                              · skip
                                refine EZ_aload_n 13 dL_listens_305 rfl rfl ?_
                                refine EZ_callH zn1 (k_undo l hfl S_295) cwH_147 (As := [.ref 0]) (st := []) rfl (rok (Nat.le_of_ble_eq_true rfl) (Nat.le_of_ble_eq_true rfl) (by omega) (by omega)) (Nat.le_of_ble_eq_true rfl) dL_listens_306 rfl (zkI (fun r_306 mi_306 ml_306 h_306 => ?_))
                                obtain ⟨V_306, H_306, S_306, h_306⟩ := h_306
                                obtain ⟨U1, T1, e1_306, e2_306, e3_306, n_306⟩ := h_306.resolve_left (fun q => by cases q.1)
                                have e4_306 : V :: (H.take 3).take 3 = U1 :: T1 := e1_306
                                cases e4_306
                                subst e2_306; subst e3_306
                                refine YZ_lt r_306.toInt rfl 344 dL_listens_309 (by decide) (fun c_309 => ?_) (fun c_309 => ?_)
                                · exact absurd c_309 (by omega)
                                · skip
                                  refine EZ_aload_n 13 dL_listens_312 rfl rfl ?_
                                  refine EZ_callV (j_diagnoses l hfl S_306) cw_L_169 (As := []) (st := []) wi_yX5_diagnoses we_yX5_diagnoses (ci := 5) (q := (RX5, TX5, 7)) rfl rfl (wl_atO tw_0) rfl (rok (Nat.le_of_ble_eq_true rfl) (Nat.le_of_ble_eq_true rfl) (by omega) (by omega)) (Nat.le_of_ble_eq_true rfl) dL_listens_313 (fun _ _ h => h) rfl (zkI (fun r_313 mi_313 ml_313 h_313 => ?_))
                                  obtain ⟨S_313, h_313⟩ := h_313
                                  refine EZ_iload 6 dL_listens_316 rfl ?_
                                  refine ZZ_ne (((fitL V (nV V) (mV V) (tV V) (2 ^ mV V)).length : Nat) : Int) (((fitL V (nV V) (mV V) (tV V) (2 ^ mV V)).length : Nat) : Int) h_313 h_102 344 dL_listens_318 (by decide) (fun c_318 => ?_) (fun c_318 => ?_)
                                  · exact absurd c_318 (by omega)
                                  · skip
                                    refine EZ_iload 2 dL_listens_321 rfl ?_
                                    refine EZ_iload 0 dL_listens_323 rfl ?_
                                    refine EZ_iadd dL_listens_325 ?_
                                    refine EZ_iload 6 dL_listens_326 rfl ?_
                                    refine ZZ_ne (((cntF (fitL V (nV V) (mV V) (tV V) (2 ^ mV V)) (hbS V (nV V) sm ch (mV V)) : Nat) : Int) + r_295.toInt) (((fitL V (nV V) (mV V) (tV V) (2 ^ mV V)).length : Nat) : Int) (tI_add n_256 rfl (by omega)) h_102 344 dL_listens_328 (by decide) (fun c_328 => ?_) (fun c_328 => ?_)
                                    · exact absurd c_328 (by omega)
                                    · skip
                                      refine EZ_aload_n 13 dL_listens_331 rfl rfl ?_
                                      refine EZ_iload 10 dL_listens_332 rfl ?_
                                      refine EZ_callH zn1 (k_bestTest l hfl S_313 r_16) cwH_182 (As := [.ref 0, .int r_16]) (st := []) rfl (rok (Nat.le_of_ble_eq_true rfl) (Nat.le_of_ble_eq_true rfl) (by omega) (by omega)) (Nat.le_of_ble_eq_true rfl) dL_listens_334 rfl (zkI (fun r_334 mi_334 ml_334 h_334 => ?_))
                                      obtain ⟨S_334, h_334⟩ := h_334
                                      (try rw [show r_16.toInt = (sm : Int) from hsm] at h_334)
                                      have n_334 := (h_334.resolve_right (fun q => q.1 oks)).2
                                      refine YZ_lt r_334.toInt rfl 344 dL_listens_337 (by decide) (fun c_337 => ?_) (fun c_337 => ?_)
                                      · exact absurd c_337 (by omega)
                                      · skip
                                        refine EZ_iconst 1 (by decide) dL_listens_340 ?_
                                        refine EZ_goto 345 dL_listens_341 (by decide) ?_
                                        refine EZ_istore [(12, .int 1), (14, .int r_295), (13, .int r_256), (11, .int r_128), (10, .int r_121), (9, .int 0), (8, .int r_102), (7, .int r_44), (6, .int r_34), (5, .int r_27), (4, .int r_16), (3, .int (((1 : Int32) <<< (r_2 &&& 31)) - 1)), (2, .int r_2), (0, .ref 0), (1, .int xx)] dL_listens_345 (by decide) rfl ?_
                                        refine EZ_iload 0 dL_listens_347 rfl ?_
                                        refine YZ_eq 1 (show (1 : Int32).toInt = 1 from rfl) 394 dL_listens_349 (by decide) (fun c_349 => ?_) (fun c_349 => ?_)
                                        · exact absurd c_349 (by decide)
                                        · skip
                                          refine EZ_iload 7 dL_listens_352 rfl ?_
                                          refine EZ_iload 4 dL_listens_354 rfl ?_
                                          refine EZ_iand dL_listens_356 ?_
                                          refine YZ_eq ((r_44 &&& r_121).toInt) rfl 370 dL_listens_357 (by decide) (fun c_357 => ?_) (fun c_357 => ?_)
                                          · skip
                                            refine EZ_iload 7 dL_listens_370 rfl ?_
                                            refine EZ_iload 3 dL_listens_372 rfl ?_
                                            refine EZ_iconst (-1) (by decide) dL_listens_374 ?_
                                            refine EZ_ixor dL_listens_375 ?_
                                            refine EZ_iand dL_listens_376 ?_
                                            refine YZ_ne ((r_44 &&& (r_128 ^^^ ((-1) : Int32))).toInt) rfl 390 dL_listens_377 (by decide) (fun c_377 => ?_) (fun c_377 => ?_)
                                            · skip
                                              refine EZ_iconst 1 (by decide) dL_listens_390 ?_
                                              refine EZ_goto 395 dL_listens_391 (by decide) ?_
                                              refine EZ_zret rfl rfl (by omega) (by omega) dL_listens_395 ?_
                                              exact okQI ⟨_, S_334, rfl⟩
                                            · skip
                                              refine EZ_iload 5 dL_listens_380 rfl ?_
                                              refine YZ_ne 0 (show (0 : Int32).toInt = 0 from rfl) 390 dL_listens_382 (by decide) (fun c_382 => ?_) (fun c_382 => ?_)
                                              · exact absurd c_382 (by decide)
                                              · skip
                                                refine EZ_iload 2 dL_listens_385 rfl ?_
                                                refine YZ_ne ((cntF (fitL V (nV V) (mV V) (tV V) (2 ^ mV V)) (hbS V (nV V) sm ch (mV V)) : Nat) : Int) n_256 394 dL_listens_387 (by decide) (fun c_387 => ?_) (fun c_387 => ?_)
                                                · (have n_387 := li_pg (m := mV V) (L := (fitL V (nV V) (mV V) (tV V) (2 ^ mV V))) (p := (hbS V (nV V) sm ch (mV V))) wm.2 (by omega) h32 (by rw [← tI_nIx n_44, ← h_128]; exact Int32.toInt_inj.mp (show (r_44 &&& (r_128 ^^^ (-1))).toInt = (0 : Int) by omega)); exact absurd c_387 (by omega))
                                                · skip
                                                  refine EZ_iconst 1 (by decide) dL_listens_390 ?_
                                                  refine EZ_goto 395 dL_listens_391 (by decide) ?_
                                                  refine EZ_zret rfl rfl (by omega) (by omega) dL_listens_395 ?_
                                                  exact okQI ⟨_, S_334, rfl⟩
                                          · skip
                                            refine EZ_iload 5 dL_listens_360 rfl ?_
                                            refine YZ_ne 0 (show (0 : Int32).toInt = 0 from rfl) 370 dL_listens_362 (by decide) (fun c_362 => ?_) (fun c_362 => ?_)
                                            · exact absurd c_362 (by decide)
                                            · skip
                                              refine EZ_iload 1 dL_listens_365 rfl ?_
                                              refine YZ_ne r_295.toInt rfl 394 dL_listens_367 (by decide) (fun c_367 => ?_) (fun c_367 => ?_)
                                              · (have n_367 := li_pb (m := mV V) (L := (fitL V (nV V) (mV V) (tV V) (2 ^ mV V))) (p := (hbS V (nV V) sm ch (mV V))) (by omega) h32 (fun e => c_357 (by rw [tI_nIx n_44, h_121, e]; rfl)); exact absurd c_367 (by omega))
                                              · skip
                                                refine EZ_iload 7 dL_listens_370 rfl ?_
                                                refine EZ_iload 3 dL_listens_372 rfl ?_
                                                refine EZ_iconst (-1) (by decide) dL_listens_374 ?_
                                                refine EZ_ixor dL_listens_375 ?_
                                                refine EZ_iand dL_listens_376 ?_
                                                refine YZ_ne ((r_44 &&& (r_128 ^^^ ((-1) : Int32))).toInt) rfl 390 dL_listens_377 (by decide) (fun c_377 => ?_) (fun c_377 => ?_)
                                                · skip
                                                  refine EZ_iconst 1 (by decide) dL_listens_390 ?_
                                                  refine EZ_goto 395 dL_listens_391 (by decide) ?_
                                                  refine EZ_zret rfl rfl (by omega) (by omega) dL_listens_395 ?_
                                                  exact okQI ⟨_, S_334, rfl⟩
                                                · skip
                                                  refine EZ_iload 5 dL_listens_380 rfl ?_
                                                  refine YZ_ne 0 (show (0 : Int32).toInt = 0 from rfl) 390 dL_listens_382 (by decide) (fun c_382 => ?_) (fun c_382 => ?_)
                                                  · exact absurd c_382 (by decide)
                                                  · skip
                                                    refine EZ_iload 2 dL_listens_385 rfl ?_
                                                    refine YZ_ne ((cntF (fitL V (nV V) (mV V) (tV V) (2 ^ mV V)) (hbS V (nV V) sm ch (mV V)) : Nat) : Int) n_256 394 dL_listens_387 (by decide) (fun c_387 => ?_) (fun c_387 => ?_)
                                                    · (have n_387 := li_pg (m := mV V) (L := (fitL V (nV V) (mV V) (tV V) (2 ^ mV V))) (p := (hbS V (nV V) sm ch (mV V))) wm.2 (by omega) h32 (by rw [← tI_nIx n_44, ← h_128]; exact Int32.toInt_inj.mp (show (r_44 &&& (r_128 ^^^ (-1))).toInt = (0 : Int) by omega)); exact absurd c_387 (by omega))
                                                    · skip
                                                      refine EZ_iconst 1 (by decide) dL_listens_390 ?_
                                                      refine EZ_goto 395 dL_listens_391 (by decide) ?_
                                                      refine EZ_zret rfl rfl (by omega) (by omega) dL_listens_395 ?_
                                                      exact okQI ⟨_, S_334, rfl⟩
                      · skip
                        refine EZ_iload 0 dL_listens_224 rfl ?_
                        refine YZ_eq 1 (show (1 : Int32).toInt = 1 from rfl) 248 dL_listens_226 (by decide) (fun c_226 => ?_) (fun c_226 => ?_)
                        · exact absurd c_226 (by decide)
                        · skip
                          refine EZ_aload_n 11 dL_listens_229 rfl rfl ?_
                          refine EZ_iload 8 dL_listens_230 rfl ?_
                          refine EZ_iload 7 dL_listens_232 rfl ?_
                          refine EZ_iconst 1 (by decide) dL_listens_234 ?_
                          refine EZ_callH zn1 (k_addTest l hfl S_216 r_16 r_27 1 True (b1 trivial)) cwH_179 (As := [.ref 0, .int r_16, .int r_27, .int 1]) (st := []) rfl (rok (Nat.le_of_ble_eq_true rfl) (Nat.le_of_ble_eq_true rfl) (by omega) (by omega)) (Nat.le_of_ble_eq_true rfl) dL_listens_235 rfl (zkI (fun r_235 mi_235 ml_235 h_235 => ?_))
                          obtain ⟨V_235, H_235, S_235, h_235⟩ := h_235
                          (try rw [show r_16.toInt = (sm : Int) from hsm] at h_235)
                          (try rw [show r_27.toInt = (ch : Int) from hch] at h_235)
                          obtain ⟨_, _, n_235, e1_235, e2_235⟩ := (h_235.resolve_left (fun q => q.1 okt)).resolve_right (fun q => by have h9 := q.2.1; omega)
                          subst e1_235; subst e2_235
                          refine EZ_sipush (-902) (by decide) dL_listens_238 ?_
                          refine ZZ_ne (-902) (-902) n_235 (show ((-902) : Int32).toInt = (-902) from rfl) 248 dL_listens_241 (by decide) (fun c_241 => ?_) (fun c_241 => ?_)
                          · exact absurd c_241 (by omega)
                          · skip
                            refine EZ_iconst 1 (by decide) dL_listens_244 ?_
                            refine EZ_goto 249 dL_listens_245 (by decide) ?_
                            refine EZ_zret rfl rfl (by omega) (by omega) dL_listens_249 ?_
                            exact okQI ⟨_, S_235, rfl⟩
              · exact absurd c_153 (by decide)
          · exact absurd ((bs_none _).mp (h_134.symm.trans (by omega))) hF
        · skip
          have hF : (fitL V (nV V) (mV V) (tV V) (2 ^ mV V)) = [] := List.length_eq_zero_iff.mp (by omega)
          refine EZ_iconst 1 (by decide) dL_listens_112 ?_
          refine EZ_goto 117 dL_listens_113 (by decide) ?_
          refine EZ_istore [(9, .int 1), (8, .int r_102), (7, .int r_44), (6, .int r_34), (5, .int r_27), (4, .int r_16), (3, .int (((1 : Int32) <<< (r_2 &&& 31)) - 1)), (2, .int r_2), (0, .ref 0), (1, .int xx)] dL_listens_117 (by decide) rfl ?_
          refine EZ_aload_n 8 dL_listens_119 rfl rfl ?_
          refine EZ_iconst 1 (by decide) dL_listens_120 ?_
          refine EZ_callV (j_certain l hfl S_102 1 True (b1 trivial)) cw_L_175 (As := [.int 1]) (st := []) wi_yX5_certain we_yX5_certain (ci := 5) (q := (RX5, TX5, 7)) rfl rfl (wl_atO tw_0) rfl (rok (Nat.le_of_ble_eq_true rfl) (Nat.le_of_ble_eq_true rfl) (by omega) (by omega)) (Nat.le_of_ble_eq_true rfl) dL_listens_121 (fun _ _ h => h) rfl (zkI (fun r_121 mi_121 ml_121 h_121 => ?_))
          obtain ⟨S_121, h_121⟩ := h_121
          refine EZ_istore [(10, .int r_121), (9, .int 1), (8, .int r_102), (7, .int r_44), (6, .int r_34), (5, .int r_27), (4, .int r_16), (3, .int (((1 : Int32) <<< (r_2 &&& 31)) - 1)), (2, .int r_2), (0, .ref 0), (1, .int xx)] dL_listens_124 (by decide) rfl ?_
          refine EZ_aload_n 9 dL_listens_126 rfl rfl ?_
          refine EZ_iconst 0 (by decide) dL_listens_127 ?_
          refine EZ_callV (j_certain l hfl S_121 0 False (b0 not_false)) cw_L_175 (As := [.int 0]) (st := []) wi_yX5_certain we_yX5_certain (ci := 5) (q := (RX5, TX5, 7)) rfl rfl (wl_atO tw_0) rfl (rok (Nat.le_of_ble_eq_true rfl) (Nat.le_of_ble_eq_true rfl) (by omega) (by omega)) (Nat.le_of_ble_eq_true rfl) dL_listens_128 (fun _ _ h => h) rfl (zkI (fun r_128 mi_128 ml_128 h_128 => ?_))
          obtain ⟨S_128, h_128⟩ := h_128
          refine EZ_istore [(11, .int r_128), (10, .int r_121), (9, .int 1), (8, .int r_102), (7, .int r_44), (6, .int r_34), (5, .int r_27), (4, .int r_16), (3, .int (((1 : Int32) <<< (r_2 &&& 31)) - 1)), (2, .int r_2), (0, .ref 0), (1, .int xx)] dL_listens_131 (by decide) rfl ?_
          refine EZ_aload_n 10 dL_listens_133 rfl rfl ?_
          refine EZ_callV (j_diagnosis l hfl S_128) cw_L_172 (As := []) (st := []) wi_yX5_diagnosis we_yX5_diagnosis (ci := 5) (q := (RX5, TX5, 7)) rfl rfl (wl_atO tw_0) rfl (rok (Nat.le_of_ble_eq_true rfl) (Nat.le_of_ble_eq_true rfl) (by omega) (by omega)) (Nat.le_of_ble_eq_true rfl) dL_listens_134 (fun _ _ h => h) rfl (zkI (fun r_134 mi_134 ml_134 h_134 => ?_))
          obtain ⟨S_134, h_134⟩ := h_134
          refine EZ_iconst (-1) (by decide) dL_listens_137 ?_
          refine ZZ_ne r_134.toInt (-1) rfl (show ((-1) : Int32).toInt = (-1) from rfl) 145 dL_listens_138 (by decide) (fun c_138 => ?_) (fun c_138 => ?_)
          · exact absurd (h_134.trans ((bs_none _).mpr hF)) c_138
          · skip
            refine EZ_iconst 1 (by decide) dL_listens_141 ?_
            refine EZ_goto 146 dL_listens_142 (by decide) ?_
            refine EZ_iload 2 dL_listens_146 rfl ?_
            refine ZZ_ne 1 1 (show (1 : Int32).toInt = 1 from rfl) (show (1 : Int32).toInt = 1 from rfl) 211 dL_listens_148 (by decide) (fun c_148 => ?_) (fun c_148 => ?_)
            · exact absurd c_148 (by decide)
            · skip
              refine EZ_iload 2 dL_listens_151 rfl ?_
              refine YZ_eq 1 (show (1 : Int32).toInt = 1 from rfl) 177 dL_listens_153 (by decide) (fun c_153 => ?_) (fun c_153 => ?_)
              · exact absurd c_153 (by decide)
              · skip
                have n_164 : r_121.toInt = ((2 ^ mV V - 1 : Nat) : Int) := by rw [h_121, hF]; exact nI_i (by omega)
                have n_171 : r_128 = r_121 := by rw [h_128, h_121, hF]; rfl
                refine EZ_iload 1 dL_listens_156 rfl ?_
                refine EZ_iconst 1 (by decide) dL_listens_158 ?_
                refine EZ_iload 5 dL_listens_159 rfl ?_
                refine EZ_ishl dL_listens_161 ?_
                refine EZ_iconst 1 (by decide) dL_listens_162 ?_
                refine EZ_isub dL_listens_163 ?_
                refine ZZ_ne r_121.toInt ((2 ^ mV V - 1 : Nat) : Int) rfl (pw_a n_34 (by omega)) 211 dL_listens_164 (by decide) (fun c_164 => ?_) (fun c_164 => ?_)
                · exact absurd c_164 (by omega)
                · skip
                  refine EZ_iload 0 dL_listens_167 rfl ?_
                  refine EZ_iload 1 dL_listens_169 rfl ?_
                  refine ZZ_ne r_128.toInt r_121.toInt rfl rfl 211 dL_listens_171 (by decide) (fun c_171 => ?_) (fun c_171 => ?_)
                  · exact absurd (by rw [n_171]) c_171
                  · skip
                    refine EZ_goto 207 dL_listens_174 (by decide) ?_
                    refine EZ_iconst 1 (by decide) dL_listens_207 ?_
                    refine EZ_goto 212 dL_listens_208 (by decide) ?_
                    refine EZ_istore [(12, .int 1), (11, .int r_128), (10, .int r_121), (9, .int 1), (8, .int r_102), (7, .int r_44), (6, .int r_34), (5, .int r_27), (4, .int r_16), (3, .int (((1 : Int32) <<< (r_2 &&& 31)) - 1)), (2, .int r_2), (0, .ref 0), (1, .int xx)] dL_listens_212 (by decide) rfl ?_
                    refine EZ_aload_n 11 dL_listens_214 rfl rfl ?_
                    refine EZ_iconst 2 (by decide) dL_listens_215 ?_
                    refine EZ_callH zn1 (k_size l hfl S_134 2) cwH_101 (As := [.ref 0, .int 2]) (st := []) rfl (rok (Nat.le_of_ble_eq_true rfl) (Nat.le_of_ble_eq_true rfl) (by omega) (by omega)) (Nat.le_of_ble_eq_true rfl) dL_listens_216 rfl (zkI (fun r_216 mi_216 ml_216 h_216 => ?_))
                    obtain ⟨S_216, h_216⟩ := h_216
                    (try rw [show (2 : Int32).toInt = 2 from (show (2 : Int32).toInt = 2 from rfl)] at h_216)
                    have n_216 : r_216.toInt = (tV V : Int) := by omega
                    clear h_216
                    refine EZ_bipush 16 (by decide) dL_listens_219 ?_
                    refine ZZ_ne (tV V : Int) 16 n_216 (show (16 : Int32).toInt = 16 from rfl) 250 dL_listens_221 (by decide) (fun c_221 => ?_) (fun c_221 => ?_)
                    · skip
                      refine EZ_aload_n 11 dL_listens_250 rfl rfl ?_
                      refine EZ_iload 8 dL_listens_251 rfl ?_
                      refine EZ_iload 7 dL_listens_253 rfl ?_
                      refine EZ_iconst 1 (by decide) dL_listens_255 ?_
                      refine EZ_callH zn1 (k_addTest l hfl S_216 r_16 r_27 1 True (b1 trivial)) cwH_179 (As := [.ref 0, .int r_16, .int r_27, .int 1]) (st := []) rfl (rok (Nat.le_of_ble_eq_true rfl) (Nat.le_of_ble_eq_true rfl) (by omega) (by omega)) (Nat.le_of_ble_eq_true rfl) dL_listens_256 rfl (zkI (fun r_256 mi_256 ml_256 h_256 => ?_))
                      obtain ⟨V_256, H_256, S_256, h_256⟩ := h_256
                      (try rw [show r_16.toInt = (sm : Int) from hsm] at h_256)
                      (try rw [show r_27.toInt = (ch : Int) from hch] at h_256)
                      obtain ⟨_, _, n_256, e1_256, e2_256⟩ := (h_256.resolve_left (fun q => q.1 okt)).resolve_left (fun q => by have h9 := q.2.1; omega)
                      subst e1_256; subst e2_256
                      rw [fit_yes wn.2 wm.2 hsm hch trivial] at n_256
                      have hcl := cntF_le (fitL V (nV V) (mV V) (tV V) (2 ^ mV V)) (hbS V (nV V) sm ch (mV V))
                      refine EZ_istore [(13, .int r_256), (12, .int 1), (11, .int r_128), (10, .int r_121), (9, .int 1), (8, .int r_102), (7, .int r_44), (6, .int r_34), (5, .int r_27), (4, .int r_16), (3, .int (((1 : Int32) <<< (r_2 &&& 31)) - 1)), (2, .int r_2), (0, .ref 0), (1, .int xx)] dL_listens_259 (by decide) rfl ?_
                      refine EZ_iload 1 dL_listens_261 rfl ?_
                      refine YZ_eq 1 (show (1 : Int32).toInt = 1 from rfl) 286 dL_listens_263 (by decide) (fun c_263 => ?_) (fun c_263 => ?_)
                      · exact absurd c_263 (by decide)
                      · skip
                        refine EZ_aload_n 12 dL_listens_266 rfl rfl ?_
                        refine EZ_callH zn1 (k_undo l hfl S_256) cwH_147 (As := [.ref 0]) (st := []) rfl (rok (Nat.le_of_ble_eq_true rfl) (Nat.le_of_ble_eq_true rfl) (by omega) (by omega)) (Nat.le_of_ble_eq_true rfl) dL_listens_267 rfl (zkI (fun r_267 mi_267 ml_267 h_267 => ?_))
                        obtain ⟨V_267, H_267, S_267, h_267⟩ := h_267
                        obtain ⟨U1, T1, e1_267, e2_267, e3_267, n_267⟩ := h_267.resolve_left (fun q => by cases q.1)
                        have e4_267 : V :: (H).take 3 = U1 :: T1 := e1_267
                        cases e4_267
                        subst e2_267; subst e3_267
                        refine YZ_lt r_267.toInt rfl 286 dL_listens_270 (by decide) (fun c_270 => ?_) (fun c_270 => ?_)
                        · exact absurd c_270 (by omega)
                        · skip
                          refine EZ_aload_n 12 dL_listens_273 rfl rfl ?_
                          refine EZ_callV (j_diagnoses l hfl S_267) cw_L_169 (As := []) (st := []) wi_yX5_diagnoses we_yX5_diagnoses (ci := 5) (q := (RX5, TX5, 7)) rfl rfl (wl_atO tw_0) rfl (rok (Nat.le_of_ble_eq_true rfl) (Nat.le_of_ble_eq_true rfl) (by omega) (by omega)) (Nat.le_of_ble_eq_true rfl) dL_listens_274 (fun _ _ h => h) rfl (zkI (fun r_274 mi_274 ml_274 h_274 => ?_))
                          obtain ⟨S_274, h_274⟩ := h_274
                          refine EZ_iload 5 dL_listens_277 rfl ?_
                          refine ZZ_ne (((fitL V (nV V) (mV V) (tV V) (2 ^ mV V)).length : Nat) : Int) (((fitL V (nV V) (mV V) (tV V) (2 ^ mV V)).length : Nat) : Int) h_274 h_102 286 dL_listens_279 (by decide) (fun c_279 => ?_) (fun c_279 => ?_)
                          · exact absurd c_279 (by omega)
                          · skip
                            refine EZ_iconst 1 (by decide) dL_listens_282 ?_
                            refine EZ_goto 287 dL_listens_283 (by decide) ?_
                            refine EZ_istore [(12, .int 1), (13, .int r_256), (11, .int r_128), (10, .int r_121), (9, .int 1), (8, .int r_102), (7, .int r_44), (6, .int r_34), (5, .int r_27), (4, .int r_16), (3, .int (((1 : Int32) <<< (r_2 &&& 31)) - 1)), (2, .int r_2), (0, .ref 0), (1, .int xx)] dL_listens_287 (by decide) rfl ?_
                            refine EZ_aload_n 12 dL_listens_289 rfl rfl ?_
                            refine EZ_iload 9 dL_listens_290 rfl ?_
                            refine EZ_iload 8 dL_listens_292 rfl ?_
                            refine EZ_iconst 0 (by decide) dL_listens_294 ?_
                            refine EZ_callH zn1 (k_addTest l hfl S_274 r_16 r_27 0 False (b0 not_false)) cwH_179 (As := [.ref 0, .int r_16, .int r_27, .int 0]) (st := []) rfl (rok (Nat.le_of_ble_eq_true rfl) (Nat.le_of_ble_eq_true rfl) (by omega) (by omega)) (Nat.le_of_ble_eq_true rfl) dL_listens_295 rfl (zkI (fun r_295 mi_295 ml_295 h_295 => ?_))
                            obtain ⟨V_295, H_295, S_295, h_295⟩ := h_295
                            (try rw [show r_16.toInt = (sm : Int) from hsm] at h_295)
                            (try rw [show r_27.toInt = (ch : Int) from hch] at h_295)
                            obtain ⟨_, _, n_295, e1_295, e2_295⟩ := (h_295.resolve_left (fun q => q.1 okt)).resolve_left (fun q => by have h9 := q.2.1; omega)
                            subst e1_295; subst e2_295
                            have n_296 := fit_no (V := V) (t := tV V) (P := False) wn.2 wm.2 hsm hch not_false (2 ^ mV V)
                            refine EZ_istore [(14, .int r_295), (12, .int 1), (13, .int r_256), (11, .int r_128), (10, .int r_121), (9, .int 1), (8, .int r_102), (7, .int r_44), (6, .int r_34), (5, .int r_27), (4, .int r_16), (3, .int (((1 : Int32) <<< (r_2 &&& 31)) - 1)), (2, .int r_2), (0, .ref 0), (1, .int xx)] dL_listens_298 (by decide) rfl ?_
                            refine EZ_iload 1 dL_listens_300 rfl ?_
                            refine YZ_eq 1 (show (1 : Int32).toInt = 1 from rfl) 344 dL_listens_302 (by decide) (fun c_302 => ?_) (fun c_302 => ?_)
                            · exact absurd c_302 (by decide)
                            · skip
                              refine EZ_aload_n 13 dL_listens_305 rfl rfl ?_
                              refine EZ_callH zn1 (k_undo l hfl S_295) cwH_147 (As := [.ref 0]) (st := []) rfl (rok (Nat.le_of_ble_eq_true rfl) (Nat.le_of_ble_eq_true rfl) (by omega) (by omega)) (Nat.le_of_ble_eq_true rfl) dL_listens_306 rfl (zkI (fun r_306 mi_306 ml_306 h_306 => ?_))
                              obtain ⟨V_306, H_306, S_306, h_306⟩ := h_306
                              obtain ⟨U1, T1, e1_306, e2_306, e3_306, n_306⟩ := h_306.resolve_left (fun q => by cases q.1)
                              have e4_306 : V :: (H.take 3).take 3 = U1 :: T1 := e1_306
                              cases e4_306
                              subst e2_306; subst e3_306
                              refine YZ_lt r_306.toInt rfl 344 dL_listens_309 (by decide) (fun c_309 => ?_) (fun c_309 => ?_)
                              · exact absurd c_309 (by omega)
                              · skip
                                refine EZ_aload_n 13 dL_listens_312 rfl rfl ?_
                                refine EZ_callV (j_diagnoses l hfl S_306) cw_L_169 (As := []) (st := []) wi_yX5_diagnoses we_yX5_diagnoses (ci := 5) (q := (RX5, TX5, 7)) rfl rfl (wl_atO tw_0) rfl (rok (Nat.le_of_ble_eq_true rfl) (Nat.le_of_ble_eq_true rfl) (by omega) (by omega)) (Nat.le_of_ble_eq_true rfl) dL_listens_313 (fun _ _ h => h) rfl (zkI (fun r_313 mi_313 ml_313 h_313 => ?_))
                                obtain ⟨S_313, h_313⟩ := h_313
                                refine EZ_iload 6 dL_listens_316 rfl ?_
                                refine ZZ_ne (((fitL V (nV V) (mV V) (tV V) (2 ^ mV V)).length : Nat) : Int) (((fitL V (nV V) (mV V) (tV V) (2 ^ mV V)).length : Nat) : Int) h_313 h_102 344 dL_listens_318 (by decide) (fun c_318 => ?_) (fun c_318 => ?_)
                                · exact absurd c_318 (by omega)
                                · skip
                                  refine EZ_iload 2 dL_listens_321 rfl ?_
                                  refine EZ_iload 0 dL_listens_323 rfl ?_
                                  refine EZ_iadd dL_listens_325 ?_
                                  refine EZ_iload 6 dL_listens_326 rfl ?_
                                  refine ZZ_ne (((cntF (fitL V (nV V) (mV V) (tV V) (2 ^ mV V)) (hbS V (nV V) sm ch (mV V)) : Nat) : Int) + r_295.toInt) (((fitL V (nV V) (mV V) (tV V) (2 ^ mV V)).length : Nat) : Int) (tI_add n_256 rfl (by omega)) h_102 344 dL_listens_328 (by decide) (fun c_328 => ?_) (fun c_328 => ?_)
                                  · exact absurd c_328 (by omega)
                                  · skip
                                    refine EZ_aload_n 13 dL_listens_331 rfl rfl ?_
                                    refine EZ_iload 10 dL_listens_332 rfl ?_
                                    refine EZ_callH zn1 (k_bestTest l hfl S_313 r_16) cwH_182 (As := [.ref 0, .int r_16]) (st := []) rfl (rok (Nat.le_of_ble_eq_true rfl) (Nat.le_of_ble_eq_true rfl) (by omega) (by omega)) (Nat.le_of_ble_eq_true rfl) dL_listens_334 rfl (zkI (fun r_334 mi_334 ml_334 h_334 => ?_))
                                    obtain ⟨S_334, h_334⟩ := h_334
                                    (try rw [show r_16.toInt = (sm : Int) from hsm] at h_334)
                                    have n_334 := (h_334.resolve_right (fun q => q.1 oks)).2
                                    refine YZ_lt r_334.toInt rfl 344 dL_listens_337 (by decide) (fun c_337 => ?_) (fun c_337 => ?_)
                                    · exact absurd c_337 (by omega)
                                    · skip
                                      refine EZ_iconst 1 (by decide) dL_listens_340 ?_
                                      refine EZ_goto 345 dL_listens_341 (by decide) ?_
                                      refine EZ_istore [(12, .int 1), (14, .int r_295), (13, .int r_256), (11, .int r_128), (10, .int r_121), (9, .int 1), (8, .int r_102), (7, .int r_44), (6, .int r_34), (5, .int r_27), (4, .int r_16), (3, .int (((1 : Int32) <<< (r_2 &&& 31)) - 1)), (2, .int r_2), (0, .ref 0), (1, .int xx)] dL_listens_345 (by decide) rfl ?_
                                      refine EZ_iload 0 dL_listens_347 rfl ?_
                                      refine YZ_eq 1 (show (1 : Int32).toInt = 1 from rfl) 394 dL_listens_349 (by decide) (fun c_349 => ?_) (fun c_349 => ?_)
                                      · exact absurd c_349 (by decide)
                                      · skip
                                        refine EZ_iload 7 dL_listens_352 rfl ?_
                                        refine EZ_iload 4 dL_listens_354 rfl ?_
                                        refine EZ_iand dL_listens_356 ?_
                                        refine YZ_eq ((r_44 &&& r_121).toInt) rfl 370 dL_listens_357 (by decide) (fun c_357 => ?_) (fun c_357 => ?_)
                                        · skip
                                          refine EZ_iload 7 dL_listens_370 rfl ?_
                                          refine EZ_iload 3 dL_listens_372 rfl ?_
                                          refine EZ_iconst (-1) (by decide) dL_listens_374 ?_
                                          refine EZ_ixor dL_listens_375 ?_
                                          refine EZ_iand dL_listens_376 ?_
                                          refine YZ_ne ((r_44 &&& (r_128 ^^^ ((-1) : Int32))).toInt) rfl 390 dL_listens_377 (by decide) (fun c_377 => ?_) (fun c_377 => ?_)
                                          · skip
                                            refine EZ_iconst 1 (by decide) dL_listens_390 ?_
                                            refine EZ_goto 395 dL_listens_391 (by decide) ?_
                                            refine EZ_zret rfl rfl (by omega) (by omega) dL_listens_395 ?_
                                            exact okQI ⟨_, S_334, rfl⟩
                                          · skip
                                            refine EZ_iload 5 dL_listens_380 rfl ?_
                                            refine YZ_ne 1 (show (1 : Int32).toInt = 1 from rfl) 390 dL_listens_382 (by decide) (fun c_382 => ?_) (fun c_382 => ?_)
                                            · skip
                                              refine EZ_iconst 1 (by decide) dL_listens_390 ?_
                                              refine EZ_goto 395 dL_listens_391 (by decide) ?_
                                              refine EZ_zret rfl rfl (by omega) (by omega) dL_listens_395 ?_
                                              exact okQI ⟨_, S_334, rfl⟩
                                            · exact absurd c_382 (by decide)
                                        · skip
                                          refine EZ_iload 5 dL_listens_360 rfl ?_
                                          refine YZ_ne 1 (show (1 : Int32).toInt = 1 from rfl) 370 dL_listens_362 (by decide) (fun c_362 => ?_) (fun c_362 => ?_)
                                          · skip
                                            refine EZ_iload 7 dL_listens_370 rfl ?_
                                            refine EZ_iload 3 dL_listens_372 rfl ?_
                                            refine EZ_iconst (-1) (by decide) dL_listens_374 ?_
                                            refine EZ_ixor dL_listens_375 ?_
                                            refine EZ_iand dL_listens_376 ?_
                                            refine YZ_ne ((r_44 &&& (r_128 ^^^ ((-1) : Int32))).toInt) rfl 390 dL_listens_377 (by decide) (fun c_377 => ?_) (fun c_377 => ?_)
                                            · skip
                                              refine EZ_iconst 1 (by decide) dL_listens_390 ?_
                                              refine EZ_goto 395 dL_listens_391 (by decide) ?_
                                              refine EZ_zret rfl rfl (by omega) (by omega) dL_listens_395 ?_
                                              exact okQI ⟨_, S_334, rfl⟩
                                            · skip
                                              refine EZ_iload 5 dL_listens_380 rfl ?_
                                              refine YZ_ne 1 (show (1 : Int32).toInt = 1 from rfl) 390 dL_listens_382 (by decide) (fun c_382 => ?_) (fun c_382 => ?_)
                                              · skip
                                                refine EZ_iconst 1 (by decide) dL_listens_390 ?_
                                                refine EZ_goto 395 dL_listens_391 (by decide) ?_
                                                refine EZ_zret rfl rfl (by omega) (by omega) dL_listens_395 ?_
                                                exact okQI ⟨_, S_334, rfl⟩
                                              · exact absurd c_382 (by decide)
                                          · exact absurd c_362 (by decide)
                    · skip
                      refine EZ_iload 0 dL_listens_224 rfl ?_
                      refine YZ_eq 1 (show (1 : Int32).toInt = 1 from rfl) 248 dL_listens_226 (by decide) (fun c_226 => ?_) (fun c_226 => ?_)
                      · exact absurd c_226 (by decide)
                      · skip
                        refine EZ_aload_n 11 dL_listens_229 rfl rfl ?_
                        refine EZ_iload 8 dL_listens_230 rfl ?_
                        refine EZ_iload 7 dL_listens_232 rfl ?_
                        refine EZ_iconst 1 (by decide) dL_listens_234 ?_
                        refine EZ_callH zn1 (k_addTest l hfl S_216 r_16 r_27 1 True (b1 trivial)) cwH_179 (As := [.ref 0, .int r_16, .int r_27, .int 1]) (st := []) rfl (rok (Nat.le_of_ble_eq_true rfl) (Nat.le_of_ble_eq_true rfl) (by omega) (by omega)) (Nat.le_of_ble_eq_true rfl) dL_listens_235 rfl (zkI (fun r_235 mi_235 ml_235 h_235 => ?_))
                        obtain ⟨V_235, H_235, S_235, h_235⟩ := h_235
                        (try rw [show r_16.toInt = (sm : Int) from hsm] at h_235)
                        (try rw [show r_27.toInt = (ch : Int) from hch] at h_235)
                        obtain ⟨_, _, n_235, e1_235, e2_235⟩ := (h_235.resolve_left (fun q => q.1 okt)).resolve_right (fun q => by have h9 := q.2.1; omega)
                        subst e1_235; subst e2_235
                        refine EZ_sipush (-902) (by decide) dL_listens_238 ?_
                        refine ZZ_ne (-902) (-902) n_235 (show ((-902) : Int32).toInt = (-902) from rfl) 248 dL_listens_241 (by decide) (fun c_241 => ?_) (fun c_241 => ?_)
                        · exact absurd c_241 (by omega)
                        · skip
                          refine EZ_iconst 1 (by decide) dL_listens_244 ?_
                          refine EZ_goto 249 dL_listens_245 (by decide) ?_
                          refine EZ_zret rfl rfl (by omega) (by omega) dL_listens_249 ?_
                          exact okQI ⟨_, S_235, rfl⟩
      · skip
        refine EZ_aload_n 6 dL_listens_81 rfl rfl ?_
        refine EZ_callV (j_diagnoses l hfl S_75) cw_L_169 (As := []) (st := []) wi_yX5_diagnoses we_yX5_diagnoses (ci := 5) (q := (RX5, TX5, 7)) rfl rfl (wl_atO tw_0) rfl (rok (Nat.le_of_ble_eq_true rfl) (Nat.le_of_ble_eq_true rfl) (by omega) (by omega)) (Nat.le_of_ble_eq_true rfl) dL_listens_82 (fun _ _ h => h) rfl (zkI (fun r_82 mi_82 ml_82 h_82 => ?_))
        obtain ⟨S_82, h_82⟩ := h_82
        have ht0 : tV V = 0 := by omega
        have n_82 : r_82.toInt = ((2 ^ mV V : Nat) : Int) := by rw [h_82, ht0, fit_0, List.length_range]
        refine EZ_iconst 1 (by decide) dL_listens_85 ?_
        refine EZ_iload 1 dL_listens_86 rfl ?_
        refine EZ_ishl dL_listens_88 ?_
        refine ZZ_ne ((2 ^ mV V : Nat) : Int) ((2 ^ mV V : Nat) : Int) n_82 (pw_s n_34 (by omega)) 99 dL_listens_89 (by decide) (fun c_89 => ?_) (fun c_89 => ?_)
        · exact absurd c_89 (by omega)
        · skip
          refine EZ_aload_n 6 dL_listens_92 rfl rfl ?_
          refine EZ_callV (j_diagnosis l hfl S_82) cw_L_172 (As := []) (st := []) wi_yX5_diagnosis we_yX5_diagnosis (ci := 5) (q := (RX5, TX5, 7)) rfl rfl (wl_atO tw_0) rfl (rok (Nat.le_of_ble_eq_true rfl) (Nat.le_of_ble_eq_true rfl) (by omega) (by omega)) (Nat.le_of_ble_eq_true rfl) dL_listens_93 (fun _ _ h => h) rfl (zkI (fun r_93 mi_93 ml_93 h_93 => ?_))
          obtain ⟨S_93, h_93⟩ := h_93
          have n_93 : r_93.toInt = 0 := by obtain ⟨k, hk⟩ : ∃ k, 2 ^ mV V = k + 1 := ⟨2 ^ mV V - 1, by have h9 := Nat.two_pow_pos (mV V); omega⟩; rw [h_93, ht0, fit_0, hk, bs_range]
          refine YZ_eq 0 n_93 101 dL_listens_96 (by decide) (fun c_96 => ?_) (fun c_96 => ?_)
          · skip
            refine EZ_aload_n 6 dL_listens_101 rfl rfl ?_
            refine EZ_callV (j_diagnoses l hfl S_93) cw_L_169 (As := []) (st := []) wi_yX5_diagnoses we_yX5_diagnoses (ci := 5) (q := (RX5, TX5, 7)) rfl rfl (wl_atO tw_0) rfl (rok (Nat.le_of_ble_eq_true rfl) (Nat.le_of_ble_eq_true rfl) (by omega) (by omega)) (Nat.le_of_ble_eq_true rfl) dL_listens_102 (fun _ _ h => h) rfl (zkI (fun r_102 mi_102 ml_102 h_102 => ?_))
            obtain ⟨S_102, h_102⟩ := h_102
            have h32 : ∀ s, s ∈ (fitL V (nV V) (mV V) (tV V) (2 ^ mV V)) → s < 32 := fun s hs => Nat.lt_of_lt_of_le (fitL_lt _ s hs) (p2_5 wm.2)
            have hFl : (fitL V (nV V) (mV V) (tV V) (2 ^ mV V)).length ≤ 32 := Nat.le_trans (fitL_len V _ _ _ _) (p2_5 wm.2)
            refine EZ_istore [(8, .int r_102), (7, .int r_44), (6, .int r_34), (5, .int r_27), (4, .int r_16), (3, .int (((1 : Int32) <<< (r_2 &&& 31)) - 1)), (2, .int r_2), (0, .ref 0), (1, .int xx)] dL_listens_105 (by decide) rfl ?_
            refine EZ_iload 0 dL_listens_107 rfl ?_
            refine YZ_ne (((fitL V (nV V) (mV V) (tV V) (2 ^ mV V)).length : Nat) : Int) h_102 116 dL_listens_109 (by decide) (fun c_109 => ?_) (fun c_109 => ?_)
            · skip
              have hF : (fitL V (nV V) (mV V) (tV V) (2 ^ mV V)) ≠ [] := fun e => c_109 (by rw [e]; rfl)
              refine EZ_iconst 0 (by decide) dL_listens_116 ?_
              refine EZ_istore [(9, .int 0), (8, .int r_102), (7, .int r_44), (6, .int r_34), (5, .int r_27), (4, .int r_16), (3, .int (((1 : Int32) <<< (r_2 &&& 31)) - 1)), (2, .int r_2), (0, .ref 0), (1, .int xx)] dL_listens_117 (by decide) rfl ?_
              refine EZ_aload_n 8 dL_listens_119 rfl rfl ?_
              refine EZ_iconst 1 (by decide) dL_listens_120 ?_
              refine EZ_callV (j_certain l hfl S_102 1 True (b1 trivial)) cw_L_175 (As := [.int 1]) (st := []) wi_yX5_certain we_yX5_certain (ci := 5) (q := (RX5, TX5, 7)) rfl rfl (wl_atO tw_0) rfl (rok (Nat.le_of_ble_eq_true rfl) (Nat.le_of_ble_eq_true rfl) (by omega) (by omega)) (Nat.le_of_ble_eq_true rfl) dL_listens_121 (fun _ _ h => h) rfl (zkI (fun r_121 mi_121 ml_121 h_121 => ?_))
              obtain ⟨S_121, h_121⟩ := h_121
              refine EZ_istore [(10, .int r_121), (9, .int 0), (8, .int r_102), (7, .int r_44), (6, .int r_34), (5, .int r_27), (4, .int r_16), (3, .int (((1 : Int32) <<< (r_2 &&& 31)) - 1)), (2, .int r_2), (0, .ref 0), (1, .int xx)] dL_listens_124 (by decide) rfl ?_
              refine EZ_aload_n 9 dL_listens_126 rfl rfl ?_
              refine EZ_iconst 0 (by decide) dL_listens_127 ?_
              refine EZ_callV (j_certain l hfl S_121 0 False (b0 not_false)) cw_L_175 (As := [.int 0]) (st := []) wi_yX5_certain we_yX5_certain (ci := 5) (q := (RX5, TX5, 7)) rfl rfl (wl_atO tw_0) rfl (rok (Nat.le_of_ble_eq_true rfl) (Nat.le_of_ble_eq_true rfl) (by omega) (by omega)) (Nat.le_of_ble_eq_true rfl) dL_listens_128 (fun _ _ h => h) rfl (zkI (fun r_128 mi_128 ml_128 h_128 => ?_))
              obtain ⟨S_128, h_128⟩ := h_128
              refine EZ_istore [(11, .int r_128), (10, .int r_121), (9, .int 0), (8, .int r_102), (7, .int r_44), (6, .int r_34), (5, .int r_27), (4, .int r_16), (3, .int (((1 : Int32) <<< (r_2 &&& 31)) - 1)), (2, .int r_2), (0, .ref 0), (1, .int xx)] dL_listens_131 (by decide) rfl ?_
              refine EZ_aload_n 10 dL_listens_133 rfl rfl ?_
              refine EZ_callV (j_diagnosis l hfl S_128) cw_L_172 (As := []) (st := []) wi_yX5_diagnosis we_yX5_diagnosis (ci := 5) (q := (RX5, TX5, 7)) rfl rfl (wl_atO tw_0) rfl (rok (Nat.le_of_ble_eq_true rfl) (Nat.le_of_ble_eq_true rfl) (by omega) (by omega)) (Nat.le_of_ble_eq_true rfl) dL_listens_134 (fun _ _ h => h) rfl (zkI (fun r_134 mi_134 ml_134 h_134 => ?_))
              obtain ⟨S_134, h_134⟩ := h_134
              refine EZ_iconst (-1) (by decide) dL_listens_137 ?_
              refine ZZ_ne r_134.toInt (-1) rfl (show ((-1) : Int32).toInt = (-1) from rfl) 145 dL_listens_138 (by decide) (fun c_138 => ?_) (fun c_138 => ?_)
              · skip
                refine EZ_iconst 0 (by decide) dL_listens_145 ?_
                refine EZ_iload 2 dL_listens_146 rfl ?_
                refine ZZ_ne 0 0 (show (0 : Int32).toInt = 0 from rfl) (show (0 : Int32).toInt = 0 from rfl) 211 dL_listens_148 (by decide) (fun c_148 => ?_) (fun c_148 => ?_)
                · exact absurd c_148 (by decide)
                · skip
                  refine EZ_iload 2 dL_listens_151 rfl ?_
                  refine YZ_eq 0 (show (0 : Int32).toInt = 0 from rfl) 177 dL_listens_153 (by decide) (fun c_153 => ?_) (fun c_153 => ?_)
                  · skip
                    refine EZ_iload 1 dL_listens_177 rfl ?_
                    refine EZ_iload 0 dL_listens_179 rfl ?_
                    refine EZ_iand dL_listens_181 ?_
                    refine YZ_ne ((r_121 &&& r_128).toInt) rfl 211 dL_listens_182 (by decide) (fun c_182 => ?_) (fun c_182 => ?_)
                    · exact absurd (congrArg Int32.toInt (by rw [h_121, h_128]; exact li_bg hF h32 : (r_121 &&& r_128) = 0)) c_182
                    · skip
                      refine EZ_aload_n 10 dL_listens_185 rfl rfl ?_
                      refine EZ_callV (j_diagnosis l hfl S_134) cw_L_172 (As := []) (st := []) wi_yX5_diagnosis we_yX5_diagnosis (ci := 5) (q := (RX5, TX5, 7)) rfl rfl (wl_atO tw_0) rfl (rok (Nat.le_of_ble_eq_true rfl) (Nat.le_of_ble_eq_true rfl) (by omega) (by omega)) (Nat.le_of_ble_eq_true rfl) dL_listens_186 (fun _ _ h => h) rfl (zkI (fun r_186 mi_186 ml_186 h_186 => ?_))
                      obtain ⟨S_186, h_186⟩ := h_186
                      obtain ⟨s1, hs1, es1⟩ := bs_in hF
                      have n_186 := h_186.trans es1
                      refine EZ_iload 1 dL_listens_189 rfl ?_
                      refine EZ_iand dL_listens_191 ?_
                      refine EZ_iload 1 dL_listens_192 rfl ?_
                      refine ZZ_ne ((r_186 &&& r_121).toInt) r_121.toInt rfl rfl 211 dL_listens_194 (by decide) (fun c_194 => ?_) (fun c_194 => ?_)
                      · exact absurd (congrArg Int32.toInt (by rw [h_121]; exact li_db hs1 n_186 : (r_186 &&& r_121) = r_121)) c_194
                      · skip
                        refine EZ_aload_n 10 dL_listens_197 rfl rfl ?_
                        refine EZ_callV (j_diagnosis l hfl S_186) cw_L_172 (As := []) (st := []) wi_yX5_diagnosis we_yX5_diagnosis (ci := 5) (q := (RX5, TX5, 7)) rfl rfl (wl_atO tw_0) rfl (rok (Nat.le_of_ble_eq_true rfl) (Nat.le_of_ble_eq_true rfl) (by omega) (by omega)) (Nat.le_of_ble_eq_true rfl) dL_listens_198 (fun _ _ h => h) rfl (zkI (fun r_198 mi_198 ml_198 h_198 => ?_))
                        obtain ⟨S_198, h_198⟩ := h_198
                        have n_198 := h_198.trans es1
                        refine EZ_iload 0 dL_listens_201 rfl ?_
                        refine EZ_iand dL_listens_203 ?_
                        refine YZ_ne ((r_198 &&& r_128).toInt) rfl 211 dL_listens_204 (by decide) (fun c_204 => ?_) (fun c_204 => ?_)
                        · exact absurd (congrArg Int32.toInt (by rw [h_128]; exact li_dg hs1 (h32 s1 hs1) n_198 : (r_198 &&& r_128) = 0)) c_204
                        · skip
                          refine EZ_iconst 1 (by decide) dL_listens_207 ?_
                          refine EZ_goto 212 dL_listens_208 (by decide) ?_
                          refine EZ_istore [(12, .int 1), (11, .int r_128), (10, .int r_121), (9, .int 0), (8, .int r_102), (7, .int r_44), (6, .int r_34), (5, .int r_27), (4, .int r_16), (3, .int (((1 : Int32) <<< (r_2 &&& 31)) - 1)), (2, .int r_2), (0, .ref 0), (1, .int xx)] dL_listens_212 (by decide) rfl ?_
                          refine EZ_aload_n 11 dL_listens_214 rfl rfl ?_
                          refine EZ_iconst 2 (by decide) dL_listens_215 ?_
                          refine EZ_callH zn1 (k_size l hfl S_198 2) cwH_101 (As := [.ref 0, .int 2]) (st := []) rfl (rok (Nat.le_of_ble_eq_true rfl) (Nat.le_of_ble_eq_true rfl) (by omega) (by omega)) (Nat.le_of_ble_eq_true rfl) dL_listens_216 rfl (zkI (fun r_216 mi_216 ml_216 h_216 => ?_))
                          obtain ⟨S_216, h_216⟩ := h_216
                          (try rw [show (2 : Int32).toInt = 2 from (show (2 : Int32).toInt = 2 from rfl)] at h_216)
                          have n_216 : r_216.toInt = (tV V : Int) := by omega
                          clear h_216
                          refine EZ_bipush 16 (by decide) dL_listens_219 ?_
                          refine ZZ_ne (tV V : Int) 16 n_216 (show (16 : Int32).toInt = 16 from rfl) 250 dL_listens_221 (by decide) (fun c_221 => ?_) (fun c_221 => ?_)
                          · skip
                            refine EZ_aload_n 11 dL_listens_250 rfl rfl ?_
                            refine EZ_iload 8 dL_listens_251 rfl ?_
                            refine EZ_iload 7 dL_listens_253 rfl ?_
                            refine EZ_iconst 1 (by decide) dL_listens_255 ?_
                            refine EZ_callH zn1 (k_addTest l hfl S_216 r_16 r_27 1 True (b1 trivial)) cwH_179 (As := [.ref 0, .int r_16, .int r_27, .int 1]) (st := []) rfl (rok (Nat.le_of_ble_eq_true rfl) (Nat.le_of_ble_eq_true rfl) (by omega) (by omega)) (Nat.le_of_ble_eq_true rfl) dL_listens_256 rfl (zkI (fun r_256 mi_256 ml_256 h_256 => ?_))
                            obtain ⟨V_256, H_256, S_256, h_256⟩ := h_256
                            (try rw [show r_16.toInt = (sm : Int) from hsm] at h_256)
                            (try rw [show r_27.toInt = (ch : Int) from hch] at h_256)
                            obtain ⟨_, _, n_256, e1_256, e2_256⟩ := (h_256.resolve_left (fun q => q.1 okt)).resolve_left (fun q => by have h9 := q.2.1; omega)
                            subst e1_256; subst e2_256
                            rw [fit_yes wn.2 wm.2 hsm hch trivial] at n_256
                            have hcl := cntF_le (fitL V (nV V) (mV V) (tV V) (2 ^ mV V)) (hbS V (nV V) sm ch (mV V))
                            refine EZ_istore [(13, .int r_256), (12, .int 1), (11, .int r_128), (10, .int r_121), (9, .int 0), (8, .int r_102), (7, .int r_44), (6, .int r_34), (5, .int r_27), (4, .int r_16), (3, .int (((1 : Int32) <<< (r_2 &&& 31)) - 1)), (2, .int r_2), (0, .ref 0), (1, .int xx)] dL_listens_259 (by decide) rfl ?_
                            refine EZ_iload 1 dL_listens_261 rfl ?_
                            refine YZ_eq 1 (show (1 : Int32).toInt = 1 from rfl) 286 dL_listens_263 (by decide) (fun c_263 => ?_) (fun c_263 => ?_)
                            · exact absurd c_263 (by decide)
                            · skip
                              refine EZ_aload_n 12 dL_listens_266 rfl rfl ?_
                              refine EZ_callH zn1 (k_undo l hfl S_256) cwH_147 (As := [.ref 0]) (st := []) rfl (rok (Nat.le_of_ble_eq_true rfl) (Nat.le_of_ble_eq_true rfl) (by omega) (by omega)) (Nat.le_of_ble_eq_true rfl) dL_listens_267 rfl (zkI (fun r_267 mi_267 ml_267 h_267 => ?_))
                              obtain ⟨V_267, H_267, S_267, h_267⟩ := h_267
                              obtain ⟨U1, T1, e1_267, e2_267, e3_267, n_267⟩ := h_267.resolve_left (fun q => by cases q.1)
                              have e4_267 : V :: (H).take 3 = U1 :: T1 := e1_267
                              cases e4_267
                              subst e2_267; subst e3_267
                              refine YZ_lt r_267.toInt rfl 286 dL_listens_270 (by decide) (fun c_270 => ?_) (fun c_270 => ?_)
                              · exact absurd c_270 (by omega)
                              · skip
                                refine EZ_aload_n 12 dL_listens_273 rfl rfl ?_
                                refine EZ_callV (j_diagnoses l hfl S_267) cw_L_169 (As := []) (st := []) wi_yX5_diagnoses we_yX5_diagnoses (ci := 5) (q := (RX5, TX5, 7)) rfl rfl (wl_atO tw_0) rfl (rok (Nat.le_of_ble_eq_true rfl) (Nat.le_of_ble_eq_true rfl) (by omega) (by omega)) (Nat.le_of_ble_eq_true rfl) dL_listens_274 (fun _ _ h => h) rfl (zkI (fun r_274 mi_274 ml_274 h_274 => ?_))
                                obtain ⟨S_274, h_274⟩ := h_274
                                refine EZ_iload 5 dL_listens_277 rfl ?_
                                refine ZZ_ne (((fitL V (nV V) (mV V) (tV V) (2 ^ mV V)).length : Nat) : Int) (((fitL V (nV V) (mV V) (tV V) (2 ^ mV V)).length : Nat) : Int) h_274 h_102 286 dL_listens_279 (by decide) (fun c_279 => ?_) (fun c_279 => ?_)
                                · exact absurd c_279 (by omega)
                                · skip
                                  refine EZ_iconst 1 (by decide) dL_listens_282 ?_
                                  refine EZ_goto 287 dL_listens_283 (by decide) ?_
                                  refine EZ_istore [(12, .int 1), (13, .int r_256), (11, .int r_128), (10, .int r_121), (9, .int 0), (8, .int r_102), (7, .int r_44), (6, .int r_34), (5, .int r_27), (4, .int r_16), (3, .int (((1 : Int32) <<< (r_2 &&& 31)) - 1)), (2, .int r_2), (0, .ref 0), (1, .int xx)] dL_listens_287 (by decide) rfl ?_
                                  refine EZ_aload_n 12 dL_listens_289 rfl rfl ?_
                                  refine EZ_iload 9 dL_listens_290 rfl ?_
                                  refine EZ_iload 8 dL_listens_292 rfl ?_
                                  refine EZ_iconst 0 (by decide) dL_listens_294 ?_
                                  refine EZ_callH zn1 (k_addTest l hfl S_274 r_16 r_27 0 False (b0 not_false)) cwH_179 (As := [.ref 0, .int r_16, .int r_27, .int 0]) (st := []) rfl (rok (Nat.le_of_ble_eq_true rfl) (Nat.le_of_ble_eq_true rfl) (by omega) (by omega)) (Nat.le_of_ble_eq_true rfl) dL_listens_295 rfl (zkI (fun r_295 mi_295 ml_295 h_295 => ?_))
                                  obtain ⟨V_295, H_295, S_295, h_295⟩ := h_295
                                  (try rw [show r_16.toInt = (sm : Int) from hsm] at h_295)
                                  (try rw [show r_27.toInt = (ch : Int) from hch] at h_295)
                                  obtain ⟨_, _, n_295, e1_295, e2_295⟩ := (h_295.resolve_left (fun q => q.1 okt)).resolve_left (fun q => by have h9 := q.2.1; omega)
                                  subst e1_295; subst e2_295
                                  have n_296 := fit_no (V := V) (t := tV V) (P := False) wn.2 wm.2 hsm hch not_false (2 ^ mV V)
                                  refine EZ_istore [(14, .int r_295), (12, .int 1), (13, .int r_256), (11, .int r_128), (10, .int r_121), (9, .int 0), (8, .int r_102), (7, .int r_44), (6, .int r_34), (5, .int r_27), (4, .int r_16), (3, .int (((1 : Int32) <<< (r_2 &&& 31)) - 1)), (2, .int r_2), (0, .ref 0), (1, .int xx)] dL_listens_298 (by decide) rfl ?_
                                  refine EZ_iload 1 dL_listens_300 rfl ?_
                                  refine YZ_eq 1 (show (1 : Int32).toInt = 1 from rfl) 344 dL_listens_302 (by decide) (fun c_302 => ?_) (fun c_302 => ?_)
                                  · exact absurd c_302 (by decide)
                                  · skip
                                    refine EZ_aload_n 13 dL_listens_305 rfl rfl ?_
                                    refine EZ_callH zn1 (k_undo l hfl S_295) cwH_147 (As := [.ref 0]) (st := []) rfl (rok (Nat.le_of_ble_eq_true rfl) (Nat.le_of_ble_eq_true rfl) (by omega) (by omega)) (Nat.le_of_ble_eq_true rfl) dL_listens_306 rfl (zkI (fun r_306 mi_306 ml_306 h_306 => ?_))
                                    obtain ⟨V_306, H_306, S_306, h_306⟩ := h_306
                                    obtain ⟨U1, T1, e1_306, e2_306, e3_306, n_306⟩ := h_306.resolve_left (fun q => by cases q.1)
                                    have e4_306 : V :: (H.take 3).take 3 = U1 :: T1 := e1_306
                                    cases e4_306
                                    subst e2_306; subst e3_306
                                    refine YZ_lt r_306.toInt rfl 344 dL_listens_309 (by decide) (fun c_309 => ?_) (fun c_309 => ?_)
                                    · exact absurd c_309 (by omega)
                                    · skip
                                      refine EZ_aload_n 13 dL_listens_312 rfl rfl ?_
                                      refine EZ_callV (j_diagnoses l hfl S_306) cw_L_169 (As := []) (st := []) wi_yX5_diagnoses we_yX5_diagnoses (ci := 5) (q := (RX5, TX5, 7)) rfl rfl (wl_atO tw_0) rfl (rok (Nat.le_of_ble_eq_true rfl) (Nat.le_of_ble_eq_true rfl) (by omega) (by omega)) (Nat.le_of_ble_eq_true rfl) dL_listens_313 (fun _ _ h => h) rfl (zkI (fun r_313 mi_313 ml_313 h_313 => ?_))
                                      obtain ⟨S_313, h_313⟩ := h_313
                                      refine EZ_iload 6 dL_listens_316 rfl ?_
                                      refine ZZ_ne (((fitL V (nV V) (mV V) (tV V) (2 ^ mV V)).length : Nat) : Int) (((fitL V (nV V) (mV V) (tV V) (2 ^ mV V)).length : Nat) : Int) h_313 h_102 344 dL_listens_318 (by decide) (fun c_318 => ?_) (fun c_318 => ?_)
                                      · exact absurd c_318 (by omega)
                                      · skip
                                        refine EZ_iload 2 dL_listens_321 rfl ?_
                                        refine EZ_iload 0 dL_listens_323 rfl ?_
                                        refine EZ_iadd dL_listens_325 ?_
                                        refine EZ_iload 6 dL_listens_326 rfl ?_
                                        refine ZZ_ne (((cntF (fitL V (nV V) (mV V) (tV V) (2 ^ mV V)) (hbS V (nV V) sm ch (mV V)) : Nat) : Int) + r_295.toInt) (((fitL V (nV V) (mV V) (tV V) (2 ^ mV V)).length : Nat) : Int) (tI_add n_256 rfl (by omega)) h_102 344 dL_listens_328 (by decide) (fun c_328 => ?_) (fun c_328 => ?_)
                                        · exact absurd c_328 (by omega)
                                        · skip
                                          refine EZ_aload_n 13 dL_listens_331 rfl rfl ?_
                                          refine EZ_iload 10 dL_listens_332 rfl ?_
                                          refine EZ_callH zn1 (k_bestTest l hfl S_313 r_16) cwH_182 (As := [.ref 0, .int r_16]) (st := []) rfl (rok (Nat.le_of_ble_eq_true rfl) (Nat.le_of_ble_eq_true rfl) (by omega) (by omega)) (Nat.le_of_ble_eq_true rfl) dL_listens_334 rfl (zkI (fun r_334 mi_334 ml_334 h_334 => ?_))
                                          obtain ⟨S_334, h_334⟩ := h_334
                                          (try rw [show r_16.toInt = (sm : Int) from hsm] at h_334)
                                          have n_334 := (h_334.resolve_right (fun q => q.1 oks)).2
                                          refine YZ_lt r_334.toInt rfl 344 dL_listens_337 (by decide) (fun c_337 => ?_) (fun c_337 => ?_)
                                          · exact absurd c_337 (by omega)
                                          · skip
                                            refine EZ_iconst 1 (by decide) dL_listens_340 ?_
                                            refine EZ_goto 345 dL_listens_341 (by decide) ?_
                                            refine EZ_istore [(12, .int 1), (14, .int r_295), (13, .int r_256), (11, .int r_128), (10, .int r_121), (9, .int 0), (8, .int r_102), (7, .int r_44), (6, .int r_34), (5, .int r_27), (4, .int r_16), (3, .int (((1 : Int32) <<< (r_2 &&& 31)) - 1)), (2, .int r_2), (0, .ref 0), (1, .int xx)] dL_listens_345 (by decide) rfl ?_
                                            refine EZ_iload 0 dL_listens_347 rfl ?_
                                            refine YZ_eq 1 (show (1 : Int32).toInt = 1 from rfl) 394 dL_listens_349 (by decide) (fun c_349 => ?_) (fun c_349 => ?_)
                                            · exact absurd c_349 (by decide)
                                            · skip
                                              refine EZ_iload 7 dL_listens_352 rfl ?_
                                              refine EZ_iload 4 dL_listens_354 rfl ?_
                                              refine EZ_iand dL_listens_356 ?_
                                              refine YZ_eq ((r_44 &&& r_121).toInt) rfl 370 dL_listens_357 (by decide) (fun c_357 => ?_) (fun c_357 => ?_)
                                              · skip
                                                refine EZ_iload 7 dL_listens_370 rfl ?_
                                                refine EZ_iload 3 dL_listens_372 rfl ?_
                                                refine EZ_iconst (-1) (by decide) dL_listens_374 ?_
                                                refine EZ_ixor dL_listens_375 ?_
                                                refine EZ_iand dL_listens_376 ?_
                                                refine YZ_ne ((r_44 &&& (r_128 ^^^ ((-1) : Int32))).toInt) rfl 390 dL_listens_377 (by decide) (fun c_377 => ?_) (fun c_377 => ?_)
                                                · skip
                                                  refine EZ_iconst 1 (by decide) dL_listens_390 ?_
                                                  refine EZ_goto 395 dL_listens_391 (by decide) ?_
                                                  refine EZ_zret rfl rfl (by omega) (by omega) dL_listens_395 ?_
                                                  exact okQI ⟨_, S_334, rfl⟩
                                                · skip
                                                  refine EZ_iload 5 dL_listens_380 rfl ?_
                                                  refine YZ_ne 0 (show (0 : Int32).toInt = 0 from rfl) 390 dL_listens_382 (by decide) (fun c_382 => ?_) (fun c_382 => ?_)
                                                  · exact absurd c_382 (by decide)
                                                  · skip
                                                    refine EZ_iload 2 dL_listens_385 rfl ?_
                                                    refine YZ_ne ((cntF (fitL V (nV V) (mV V) (tV V) (2 ^ mV V)) (hbS V (nV V) sm ch (mV V)) : Nat) : Int) n_256 394 dL_listens_387 (by decide) (fun c_387 => ?_) (fun c_387 => ?_)
                                                    · (have n_387 := li_pg (m := mV V) (L := (fitL V (nV V) (mV V) (tV V) (2 ^ mV V))) (p := (hbS V (nV V) sm ch (mV V))) wm.2 (by omega) h32 (by rw [← tI_nIx n_44, ← h_128]; exact Int32.toInt_inj.mp (show (r_44 &&& (r_128 ^^^ (-1))).toInt = (0 : Int) by omega)); exact absurd c_387 (by omega))
                                                    · skip
                                                      refine EZ_iconst 1 (by decide) dL_listens_390 ?_
                                                      refine EZ_goto 395 dL_listens_391 (by decide) ?_
                                                      refine EZ_zret rfl rfl (by omega) (by omega) dL_listens_395 ?_
                                                      exact okQI ⟨_, S_334, rfl⟩
                                              · skip
                                                refine EZ_iload 5 dL_listens_360 rfl ?_
                                                refine YZ_ne 0 (show (0 : Int32).toInt = 0 from rfl) 370 dL_listens_362 (by decide) (fun c_362 => ?_) (fun c_362 => ?_)
                                                · exact absurd c_362 (by decide)
                                                · skip
                                                  refine EZ_iload 1 dL_listens_365 rfl ?_
                                                  refine YZ_ne r_295.toInt rfl 394 dL_listens_367 (by decide) (fun c_367 => ?_) (fun c_367 => ?_)
                                                  · (have n_367 := li_pb (m := mV V) (L := (fitL V (nV V) (mV V) (tV V) (2 ^ mV V))) (p := (hbS V (nV V) sm ch (mV V))) (by omega) h32 (fun e => c_357 (by rw [tI_nIx n_44, h_121, e]; rfl)); exact absurd c_367 (by omega))
                                                  · skip
                                                    refine EZ_iload 7 dL_listens_370 rfl ?_
                                                    refine EZ_iload 3 dL_listens_372 rfl ?_
                                                    refine EZ_iconst (-1) (by decide) dL_listens_374 ?_
                                                    refine EZ_ixor dL_listens_375 ?_
                                                    refine EZ_iand dL_listens_376 ?_
                                                    refine YZ_ne ((r_44 &&& (r_128 ^^^ ((-1) : Int32))).toInt) rfl 390 dL_listens_377 (by decide) (fun c_377 => ?_) (fun c_377 => ?_)
                                                    · skip
                                                      refine EZ_iconst 1 (by decide) dL_listens_390 ?_
                                                      refine EZ_goto 395 dL_listens_391 (by decide) ?_
                                                      refine EZ_zret rfl rfl (by omega) (by omega) dL_listens_395 ?_
                                                      exact okQI ⟨_, S_334, rfl⟩
                                                    · skip
                                                      refine EZ_iload 5 dL_listens_380 rfl ?_
                                                      refine YZ_ne 0 (show (0 : Int32).toInt = 0 from rfl) 390 dL_listens_382 (by decide) (fun c_382 => ?_) (fun c_382 => ?_)
                                                      · exact absurd c_382 (by decide)
                                                      · skip
                                                        refine EZ_iload 2 dL_listens_385 rfl ?_
                                                        refine YZ_ne ((cntF (fitL V (nV V) (mV V) (tV V) (2 ^ mV V)) (hbS V (nV V) sm ch (mV V)) : Nat) : Int) n_256 394 dL_listens_387 (by decide) (fun c_387 => ?_) (fun c_387 => ?_)
                                                        · (have n_387 := li_pg (m := mV V) (L := (fitL V (nV V) (mV V) (tV V) (2 ^ mV V))) (p := (hbS V (nV V) sm ch (mV V))) wm.2 (by omega) h32 (by rw [← tI_nIx n_44, ← h_128]; exact Int32.toInt_inj.mp (show (r_44 &&& (r_128 ^^^ (-1))).toInt = (0 : Int) by omega)); exact absurd c_387 (by omega))
                                                        · skip
                                                          refine EZ_iconst 1 (by decide) dL_listens_390 ?_
                                                          refine EZ_goto 395 dL_listens_391 (by decide) ?_
                                                          refine EZ_zret rfl rfl (by omega) (by omega) dL_listens_395 ?_
                                                          exact okQI ⟨_, S_334, rfl⟩
                          · skip
                            refine EZ_iload 0 dL_listens_224 rfl ?_
                            refine YZ_eq 1 (show (1 : Int32).toInt = 1 from rfl) 248 dL_listens_226 (by decide) (fun c_226 => ?_) (fun c_226 => ?_)
                            · exact absurd c_226 (by decide)
                            · skip
                              refine EZ_aload_n 11 dL_listens_229 rfl rfl ?_
                              refine EZ_iload 8 dL_listens_230 rfl ?_
                              refine EZ_iload 7 dL_listens_232 rfl ?_
                              refine EZ_iconst 1 (by decide) dL_listens_234 ?_
                              refine EZ_callH zn1 (k_addTest l hfl S_216 r_16 r_27 1 True (b1 trivial)) cwH_179 (As := [.ref 0, .int r_16, .int r_27, .int 1]) (st := []) rfl (rok (Nat.le_of_ble_eq_true rfl) (Nat.le_of_ble_eq_true rfl) (by omega) (by omega)) (Nat.le_of_ble_eq_true rfl) dL_listens_235 rfl (zkI (fun r_235 mi_235 ml_235 h_235 => ?_))
                              obtain ⟨V_235, H_235, S_235, h_235⟩ := h_235
                              (try rw [show r_16.toInt = (sm : Int) from hsm] at h_235)
                              (try rw [show r_27.toInt = (ch : Int) from hch] at h_235)
                              obtain ⟨_, _, n_235, e1_235, e2_235⟩ := (h_235.resolve_left (fun q => q.1 okt)).resolve_right (fun q => by have h9 := q.2.1; omega)
                              subst e1_235; subst e2_235
                              refine EZ_sipush (-902) (by decide) dL_listens_238 ?_
                              refine ZZ_ne (-902) (-902) n_235 (show ((-902) : Int32).toInt = (-902) from rfl) 248 dL_listens_241 (by decide) (fun c_241 => ?_) (fun c_241 => ?_)
                              · exact absurd c_241 (by omega)
                              · skip
                                refine EZ_iconst 1 (by decide) dL_listens_244 ?_
                                refine EZ_goto 249 dL_listens_245 (by decide) ?_
                                refine EZ_zret rfl rfl (by omega) (by omega) dL_listens_249 ?_
                                exact okQI ⟨_, S_235, rfl⟩
                  · exact absurd c_153 (by decide)
              · exact absurd ((bs_none _).mp (h_134.symm.trans (by omega))) hF
            · skip
              have hF : (fitL V (nV V) (mV V) (tV V) (2 ^ mV V)) = [] := List.length_eq_zero_iff.mp (by omega)
              refine EZ_iconst 1 (by decide) dL_listens_112 ?_
              refine EZ_goto 117 dL_listens_113 (by decide) ?_
              refine EZ_istore [(9, .int 1), (8, .int r_102), (7, .int r_44), (6, .int r_34), (5, .int r_27), (4, .int r_16), (3, .int (((1 : Int32) <<< (r_2 &&& 31)) - 1)), (2, .int r_2), (0, .ref 0), (1, .int xx)] dL_listens_117 (by decide) rfl ?_
              refine EZ_aload_n 8 dL_listens_119 rfl rfl ?_
              refine EZ_iconst 1 (by decide) dL_listens_120 ?_
              refine EZ_callV (j_certain l hfl S_102 1 True (b1 trivial)) cw_L_175 (As := [.int 1]) (st := []) wi_yX5_certain we_yX5_certain (ci := 5) (q := (RX5, TX5, 7)) rfl rfl (wl_atO tw_0) rfl (rok (Nat.le_of_ble_eq_true rfl) (Nat.le_of_ble_eq_true rfl) (by omega) (by omega)) (Nat.le_of_ble_eq_true rfl) dL_listens_121 (fun _ _ h => h) rfl (zkI (fun r_121 mi_121 ml_121 h_121 => ?_))
              obtain ⟨S_121, h_121⟩ := h_121
              refine EZ_istore [(10, .int r_121), (9, .int 1), (8, .int r_102), (7, .int r_44), (6, .int r_34), (5, .int r_27), (4, .int r_16), (3, .int (((1 : Int32) <<< (r_2 &&& 31)) - 1)), (2, .int r_2), (0, .ref 0), (1, .int xx)] dL_listens_124 (by decide) rfl ?_
              refine EZ_aload_n 9 dL_listens_126 rfl rfl ?_
              refine EZ_iconst 0 (by decide) dL_listens_127 ?_
              refine EZ_callV (j_certain l hfl S_121 0 False (b0 not_false)) cw_L_175 (As := [.int 0]) (st := []) wi_yX5_certain we_yX5_certain (ci := 5) (q := (RX5, TX5, 7)) rfl rfl (wl_atO tw_0) rfl (rok (Nat.le_of_ble_eq_true rfl) (Nat.le_of_ble_eq_true rfl) (by omega) (by omega)) (Nat.le_of_ble_eq_true rfl) dL_listens_128 (fun _ _ h => h) rfl (zkI (fun r_128 mi_128 ml_128 h_128 => ?_))
              obtain ⟨S_128, h_128⟩ := h_128
              refine EZ_istore [(11, .int r_128), (10, .int r_121), (9, .int 1), (8, .int r_102), (7, .int r_44), (6, .int r_34), (5, .int r_27), (4, .int r_16), (3, .int (((1 : Int32) <<< (r_2 &&& 31)) - 1)), (2, .int r_2), (0, .ref 0), (1, .int xx)] dL_listens_131 (by decide) rfl ?_
              refine EZ_aload_n 10 dL_listens_133 rfl rfl ?_
              refine EZ_callV (j_diagnosis l hfl S_128) cw_L_172 (As := []) (st := []) wi_yX5_diagnosis we_yX5_diagnosis (ci := 5) (q := (RX5, TX5, 7)) rfl rfl (wl_atO tw_0) rfl (rok (Nat.le_of_ble_eq_true rfl) (Nat.le_of_ble_eq_true rfl) (by omega) (by omega)) (Nat.le_of_ble_eq_true rfl) dL_listens_134 (fun _ _ h => h) rfl (zkI (fun r_134 mi_134 ml_134 h_134 => ?_))
              obtain ⟨S_134, h_134⟩ := h_134
              refine EZ_iconst (-1) (by decide) dL_listens_137 ?_
              refine ZZ_ne r_134.toInt (-1) rfl (show ((-1) : Int32).toInt = (-1) from rfl) 145 dL_listens_138 (by decide) (fun c_138 => ?_) (fun c_138 => ?_)
              · exact absurd (h_134.trans ((bs_none _).mpr hF)) c_138
              · skip
                refine EZ_iconst 1 (by decide) dL_listens_141 ?_
                refine EZ_goto 146 dL_listens_142 (by decide) ?_
                refine EZ_iload 2 dL_listens_146 rfl ?_
                refine ZZ_ne 1 1 (show (1 : Int32).toInt = 1 from rfl) (show (1 : Int32).toInt = 1 from rfl) 211 dL_listens_148 (by decide) (fun c_148 => ?_) (fun c_148 => ?_)
                · exact absurd c_148 (by decide)
                · skip
                  refine EZ_iload 2 dL_listens_151 rfl ?_
                  refine YZ_eq 1 (show (1 : Int32).toInt = 1 from rfl) 177 dL_listens_153 (by decide) (fun c_153 => ?_) (fun c_153 => ?_)
                  · exact absurd c_153 (by decide)
                  · skip
                    have n_164 : r_121.toInt = ((2 ^ mV V - 1 : Nat) : Int) := by rw [h_121, hF]; exact nI_i (by omega)
                    have n_171 : r_128 = r_121 := by rw [h_128, h_121, hF]; rfl
                    refine EZ_iload 1 dL_listens_156 rfl ?_
                    refine EZ_iconst 1 (by decide) dL_listens_158 ?_
                    refine EZ_iload 5 dL_listens_159 rfl ?_
                    refine EZ_ishl dL_listens_161 ?_
                    refine EZ_iconst 1 (by decide) dL_listens_162 ?_
                    refine EZ_isub dL_listens_163 ?_
                    refine ZZ_ne r_121.toInt ((2 ^ mV V - 1 : Nat) : Int) rfl (pw_a n_34 (by omega)) 211 dL_listens_164 (by decide) (fun c_164 => ?_) (fun c_164 => ?_)
                    · exact absurd c_164 (by omega)
                    · skip
                      refine EZ_iload 0 dL_listens_167 rfl ?_
                      refine EZ_iload 1 dL_listens_169 rfl ?_
                      refine ZZ_ne r_128.toInt r_121.toInt rfl rfl 211 dL_listens_171 (by decide) (fun c_171 => ?_) (fun c_171 => ?_)
                      · exact absurd (by rw [n_171]) c_171
                      · skip
                        refine EZ_goto 207 dL_listens_174 (by decide) ?_
                        refine EZ_iconst 1 (by decide) dL_listens_207 ?_
                        refine EZ_goto 212 dL_listens_208 (by decide) ?_
                        refine EZ_istore [(12, .int 1), (11, .int r_128), (10, .int r_121), (9, .int 1), (8, .int r_102), (7, .int r_44), (6, .int r_34), (5, .int r_27), (4, .int r_16), (3, .int (((1 : Int32) <<< (r_2 &&& 31)) - 1)), (2, .int r_2), (0, .ref 0), (1, .int xx)] dL_listens_212 (by decide) rfl ?_
                        refine EZ_aload_n 11 dL_listens_214 rfl rfl ?_
                        refine EZ_iconst 2 (by decide) dL_listens_215 ?_
                        refine EZ_callH zn1 (k_size l hfl S_134 2) cwH_101 (As := [.ref 0, .int 2]) (st := []) rfl (rok (Nat.le_of_ble_eq_true rfl) (Nat.le_of_ble_eq_true rfl) (by omega) (by omega)) (Nat.le_of_ble_eq_true rfl) dL_listens_216 rfl (zkI (fun r_216 mi_216 ml_216 h_216 => ?_))
                        obtain ⟨S_216, h_216⟩ := h_216
                        (try rw [show (2 : Int32).toInt = 2 from (show (2 : Int32).toInt = 2 from rfl)] at h_216)
                        have n_216 : r_216.toInt = (tV V : Int) := by omega
                        clear h_216
                        refine EZ_bipush 16 (by decide) dL_listens_219 ?_
                        refine ZZ_ne (tV V : Int) 16 n_216 (show (16 : Int32).toInt = 16 from rfl) 250 dL_listens_221 (by decide) (fun c_221 => ?_) (fun c_221 => ?_)
                        · skip
                          refine EZ_aload_n 11 dL_listens_250 rfl rfl ?_
                          refine EZ_iload 8 dL_listens_251 rfl ?_
                          refine EZ_iload 7 dL_listens_253 rfl ?_
                          refine EZ_iconst 1 (by decide) dL_listens_255 ?_
                          refine EZ_callH zn1 (k_addTest l hfl S_216 r_16 r_27 1 True (b1 trivial)) cwH_179 (As := [.ref 0, .int r_16, .int r_27, .int 1]) (st := []) rfl (rok (Nat.le_of_ble_eq_true rfl) (Nat.le_of_ble_eq_true rfl) (by omega) (by omega)) (Nat.le_of_ble_eq_true rfl) dL_listens_256 rfl (zkI (fun r_256 mi_256 ml_256 h_256 => ?_))
                          obtain ⟨V_256, H_256, S_256, h_256⟩ := h_256
                          (try rw [show r_16.toInt = (sm : Int) from hsm] at h_256)
                          (try rw [show r_27.toInt = (ch : Int) from hch] at h_256)
                          obtain ⟨_, _, n_256, e1_256, e2_256⟩ := (h_256.resolve_left (fun q => q.1 okt)).resolve_left (fun q => by have h9 := q.2.1; omega)
                          subst e1_256; subst e2_256
                          rw [fit_yes wn.2 wm.2 hsm hch trivial] at n_256
                          have hcl := cntF_le (fitL V (nV V) (mV V) (tV V) (2 ^ mV V)) (hbS V (nV V) sm ch (mV V))
                          refine EZ_istore [(13, .int r_256), (12, .int 1), (11, .int r_128), (10, .int r_121), (9, .int 1), (8, .int r_102), (7, .int r_44), (6, .int r_34), (5, .int r_27), (4, .int r_16), (3, .int (((1 : Int32) <<< (r_2 &&& 31)) - 1)), (2, .int r_2), (0, .ref 0), (1, .int xx)] dL_listens_259 (by decide) rfl ?_
                          refine EZ_iload 1 dL_listens_261 rfl ?_
                          refine YZ_eq 1 (show (1 : Int32).toInt = 1 from rfl) 286 dL_listens_263 (by decide) (fun c_263 => ?_) (fun c_263 => ?_)
                          · exact absurd c_263 (by decide)
                          · skip
                            refine EZ_aload_n 12 dL_listens_266 rfl rfl ?_
                            refine EZ_callH zn1 (k_undo l hfl S_256) cwH_147 (As := [.ref 0]) (st := []) rfl (rok (Nat.le_of_ble_eq_true rfl) (Nat.le_of_ble_eq_true rfl) (by omega) (by omega)) (Nat.le_of_ble_eq_true rfl) dL_listens_267 rfl (zkI (fun r_267 mi_267 ml_267 h_267 => ?_))
                            obtain ⟨V_267, H_267, S_267, h_267⟩ := h_267
                            obtain ⟨U1, T1, e1_267, e2_267, e3_267, n_267⟩ := h_267.resolve_left (fun q => by cases q.1)
                            have e4_267 : V :: (H).take 3 = U1 :: T1 := e1_267
                            cases e4_267
                            subst e2_267; subst e3_267
                            refine YZ_lt r_267.toInt rfl 286 dL_listens_270 (by decide) (fun c_270 => ?_) (fun c_270 => ?_)
                            · exact absurd c_270 (by omega)
                            · skip
                              refine EZ_aload_n 12 dL_listens_273 rfl rfl ?_
                              refine EZ_callV (j_diagnoses l hfl S_267) cw_L_169 (As := []) (st := []) wi_yX5_diagnoses we_yX5_diagnoses (ci := 5) (q := (RX5, TX5, 7)) rfl rfl (wl_atO tw_0) rfl (rok (Nat.le_of_ble_eq_true rfl) (Nat.le_of_ble_eq_true rfl) (by omega) (by omega)) (Nat.le_of_ble_eq_true rfl) dL_listens_274 (fun _ _ h => h) rfl (zkI (fun r_274 mi_274 ml_274 h_274 => ?_))
                              obtain ⟨S_274, h_274⟩ := h_274
                              refine EZ_iload 5 dL_listens_277 rfl ?_
                              refine ZZ_ne (((fitL V (nV V) (mV V) (tV V) (2 ^ mV V)).length : Nat) : Int) (((fitL V (nV V) (mV V) (tV V) (2 ^ mV V)).length : Nat) : Int) h_274 h_102 286 dL_listens_279 (by decide) (fun c_279 => ?_) (fun c_279 => ?_)
                              · exact absurd c_279 (by omega)
                              · skip
                                refine EZ_iconst 1 (by decide) dL_listens_282 ?_
                                refine EZ_goto 287 dL_listens_283 (by decide) ?_
                                refine EZ_istore [(12, .int 1), (13, .int r_256), (11, .int r_128), (10, .int r_121), (9, .int 1), (8, .int r_102), (7, .int r_44), (6, .int r_34), (5, .int r_27), (4, .int r_16), (3, .int (((1 : Int32) <<< (r_2 &&& 31)) - 1)), (2, .int r_2), (0, .ref 0), (1, .int xx)] dL_listens_287 (by decide) rfl ?_
                                refine EZ_aload_n 12 dL_listens_289 rfl rfl ?_
                                refine EZ_iload 9 dL_listens_290 rfl ?_
                                refine EZ_iload 8 dL_listens_292 rfl ?_
                                refine EZ_iconst 0 (by decide) dL_listens_294 ?_
                                refine EZ_callH zn1 (k_addTest l hfl S_274 r_16 r_27 0 False (b0 not_false)) cwH_179 (As := [.ref 0, .int r_16, .int r_27, .int 0]) (st := []) rfl (rok (Nat.le_of_ble_eq_true rfl) (Nat.le_of_ble_eq_true rfl) (by omega) (by omega)) (Nat.le_of_ble_eq_true rfl) dL_listens_295 rfl (zkI (fun r_295 mi_295 ml_295 h_295 => ?_))
                                obtain ⟨V_295, H_295, S_295, h_295⟩ := h_295
                                (try rw [show r_16.toInt = (sm : Int) from hsm] at h_295)
                                (try rw [show r_27.toInt = (ch : Int) from hch] at h_295)
                                obtain ⟨_, _, n_295, e1_295, e2_295⟩ := (h_295.resolve_left (fun q => q.1 okt)).resolve_left (fun q => by have h9 := q.2.1; omega)
                                subst e1_295; subst e2_295
                                have n_296 := fit_no (V := V) (t := tV V) (P := False) wn.2 wm.2 hsm hch not_false (2 ^ mV V)
                                refine EZ_istore [(14, .int r_295), (12, .int 1), (13, .int r_256), (11, .int r_128), (10, .int r_121), (9, .int 1), (8, .int r_102), (7, .int r_44), (6, .int r_34), (5, .int r_27), (4, .int r_16), (3, .int (((1 : Int32) <<< (r_2 &&& 31)) - 1)), (2, .int r_2), (0, .ref 0), (1, .int xx)] dL_listens_298 (by decide) rfl ?_
                                refine EZ_iload 1 dL_listens_300 rfl ?_
                                refine YZ_eq 1 (show (1 : Int32).toInt = 1 from rfl) 344 dL_listens_302 (by decide) (fun c_302 => ?_) (fun c_302 => ?_)
                                · exact absurd c_302 (by decide)
                                · skip
                                  refine EZ_aload_n 13 dL_listens_305 rfl rfl ?_
                                  refine EZ_callH zn1 (k_undo l hfl S_295) cwH_147 (As := [.ref 0]) (st := []) rfl (rok (Nat.le_of_ble_eq_true rfl) (Nat.le_of_ble_eq_true rfl) (by omega) (by omega)) (Nat.le_of_ble_eq_true rfl) dL_listens_306 rfl (zkI (fun r_306 mi_306 ml_306 h_306 => ?_))
                                  obtain ⟨V_306, H_306, S_306, h_306⟩ := h_306
                                  obtain ⟨U1, T1, e1_306, e2_306, e3_306, n_306⟩ := h_306.resolve_left (fun q => by cases q.1)
                                  have e4_306 : V :: (H.take 3).take 3 = U1 :: T1 := e1_306
                                  cases e4_306
                                  subst e2_306; subst e3_306
                                  refine YZ_lt r_306.toInt rfl 344 dL_listens_309 (by decide) (fun c_309 => ?_) (fun c_309 => ?_)
                                  · exact absurd c_309 (by omega)
                                  · skip
                                    refine EZ_aload_n 13 dL_listens_312 rfl rfl ?_
                                    refine EZ_callV (j_diagnoses l hfl S_306) cw_L_169 (As := []) (st := []) wi_yX5_diagnoses we_yX5_diagnoses (ci := 5) (q := (RX5, TX5, 7)) rfl rfl (wl_atO tw_0) rfl (rok (Nat.le_of_ble_eq_true rfl) (Nat.le_of_ble_eq_true rfl) (by omega) (by omega)) (Nat.le_of_ble_eq_true rfl) dL_listens_313 (fun _ _ h => h) rfl (zkI (fun r_313 mi_313 ml_313 h_313 => ?_))
                                    obtain ⟨S_313, h_313⟩ := h_313
                                    refine EZ_iload 6 dL_listens_316 rfl ?_
                                    refine ZZ_ne (((fitL V (nV V) (mV V) (tV V) (2 ^ mV V)).length : Nat) : Int) (((fitL V (nV V) (mV V) (tV V) (2 ^ mV V)).length : Nat) : Int) h_313 h_102 344 dL_listens_318 (by decide) (fun c_318 => ?_) (fun c_318 => ?_)
                                    · exact absurd c_318 (by omega)
                                    · skip
                                      refine EZ_iload 2 dL_listens_321 rfl ?_
                                      refine EZ_iload 0 dL_listens_323 rfl ?_
                                      refine EZ_iadd dL_listens_325 ?_
                                      refine EZ_iload 6 dL_listens_326 rfl ?_
                                      refine ZZ_ne (((cntF (fitL V (nV V) (mV V) (tV V) (2 ^ mV V)) (hbS V (nV V) sm ch (mV V)) : Nat) : Int) + r_295.toInt) (((fitL V (nV V) (mV V) (tV V) (2 ^ mV V)).length : Nat) : Int) (tI_add n_256 rfl (by omega)) h_102 344 dL_listens_328 (by decide) (fun c_328 => ?_) (fun c_328 => ?_)
                                      · exact absurd c_328 (by omega)
                                      · skip
                                        refine EZ_aload_n 13 dL_listens_331 rfl rfl ?_
                                        refine EZ_iload 10 dL_listens_332 rfl ?_
                                        refine EZ_callH zn1 (k_bestTest l hfl S_313 r_16) cwH_182 (As := [.ref 0, .int r_16]) (st := []) rfl (rok (Nat.le_of_ble_eq_true rfl) (Nat.le_of_ble_eq_true rfl) (by omega) (by omega)) (Nat.le_of_ble_eq_true rfl) dL_listens_334 rfl (zkI (fun r_334 mi_334 ml_334 h_334 => ?_))
                                        obtain ⟨S_334, h_334⟩ := h_334
                                        (try rw [show r_16.toInt = (sm : Int) from hsm] at h_334)
                                        have n_334 := (h_334.resolve_right (fun q => q.1 oks)).2
                                        refine YZ_lt r_334.toInt rfl 344 dL_listens_337 (by decide) (fun c_337 => ?_) (fun c_337 => ?_)
                                        · exact absurd c_337 (by omega)
                                        · skip
                                          refine EZ_iconst 1 (by decide) dL_listens_340 ?_
                                          refine EZ_goto 345 dL_listens_341 (by decide) ?_
                                          refine EZ_istore [(12, .int 1), (14, .int r_295), (13, .int r_256), (11, .int r_128), (10, .int r_121), (9, .int 1), (8, .int r_102), (7, .int r_44), (6, .int r_34), (5, .int r_27), (4, .int r_16), (3, .int (((1 : Int32) <<< (r_2 &&& 31)) - 1)), (2, .int r_2), (0, .ref 0), (1, .int xx)] dL_listens_345 (by decide) rfl ?_
                                          refine EZ_iload 0 dL_listens_347 rfl ?_
                                          refine YZ_eq 1 (show (1 : Int32).toInt = 1 from rfl) 394 dL_listens_349 (by decide) (fun c_349 => ?_) (fun c_349 => ?_)
                                          · exact absurd c_349 (by decide)
                                          · skip
                                            refine EZ_iload 7 dL_listens_352 rfl ?_
                                            refine EZ_iload 4 dL_listens_354 rfl ?_
                                            refine EZ_iand dL_listens_356 ?_
                                            refine YZ_eq ((r_44 &&& r_121).toInt) rfl 370 dL_listens_357 (by decide) (fun c_357 => ?_) (fun c_357 => ?_)
                                            · skip
                                              refine EZ_iload 7 dL_listens_370 rfl ?_
                                              refine EZ_iload 3 dL_listens_372 rfl ?_
                                              refine EZ_iconst (-1) (by decide) dL_listens_374 ?_
                                              refine EZ_ixor dL_listens_375 ?_
                                              refine EZ_iand dL_listens_376 ?_
                                              refine YZ_ne ((r_44 &&& (r_128 ^^^ ((-1) : Int32))).toInt) rfl 390 dL_listens_377 (by decide) (fun c_377 => ?_) (fun c_377 => ?_)
                                              · skip
                                                refine EZ_iconst 1 (by decide) dL_listens_390 ?_
                                                refine EZ_goto 395 dL_listens_391 (by decide) ?_
                                                refine EZ_zret rfl rfl (by omega) (by omega) dL_listens_395 ?_
                                                exact okQI ⟨_, S_334, rfl⟩
                                              · skip
                                                refine EZ_iload 5 dL_listens_380 rfl ?_
                                                refine YZ_ne 1 (show (1 : Int32).toInt = 1 from rfl) 390 dL_listens_382 (by decide) (fun c_382 => ?_) (fun c_382 => ?_)
                                                · skip
                                                  refine EZ_iconst 1 (by decide) dL_listens_390 ?_
                                                  refine EZ_goto 395 dL_listens_391 (by decide) ?_
                                                  refine EZ_zret rfl rfl (by omega) (by omega) dL_listens_395 ?_
                                                  exact okQI ⟨_, S_334, rfl⟩
                                                · exact absurd c_382 (by decide)
                                            · skip
                                              refine EZ_iload 5 dL_listens_360 rfl ?_
                                              refine YZ_ne 1 (show (1 : Int32).toInt = 1 from rfl) 370 dL_listens_362 (by decide) (fun c_362 => ?_) (fun c_362 => ?_)
                                              · skip
                                                refine EZ_iload 7 dL_listens_370 rfl ?_
                                                refine EZ_iload 3 dL_listens_372 rfl ?_
                                                refine EZ_iconst (-1) (by decide) dL_listens_374 ?_
                                                refine EZ_ixor dL_listens_375 ?_
                                                refine EZ_iand dL_listens_376 ?_
                                                refine YZ_ne ((r_44 &&& (r_128 ^^^ ((-1) : Int32))).toInt) rfl 390 dL_listens_377 (by decide) (fun c_377 => ?_) (fun c_377 => ?_)
                                                · skip
                                                  refine EZ_iconst 1 (by decide) dL_listens_390 ?_
                                                  refine EZ_goto 395 dL_listens_391 (by decide) ?_
                                                  refine EZ_zret rfl rfl (by omega) (by omega) dL_listens_395 ?_
                                                  exact okQI ⟨_, S_334, rfl⟩
                                                · skip
                                                  refine EZ_iload 5 dL_listens_380 rfl ?_
                                                  refine YZ_ne 1 (show (1 : Int32).toInt = 1 from rfl) 390 dL_listens_382 (by decide) (fun c_382 => ?_) (fun c_382 => ?_)
                                                  · skip
                                                    refine EZ_iconst 1 (by decide) dL_listens_390 ?_
                                                    refine EZ_goto 395 dL_listens_391 (by decide) ?_
                                                    refine EZ_zret rfl rfl (by omega) (by omega) dL_listens_395 ?_
                                                    exact okQI ⟨_, S_334, rfl⟩
                                                  · exact absurd c_382 (by decide)
                                              · exact absurd c_362 (by decide)
                        · skip
                          refine EZ_iload 0 dL_listens_224 rfl ?_
                          refine YZ_eq 1 (show (1 : Int32).toInt = 1 from rfl) 248 dL_listens_226 (by decide) (fun c_226 => ?_) (fun c_226 => ?_)
                          · exact absurd c_226 (by decide)
                          · skip
                            refine EZ_aload_n 11 dL_listens_229 rfl rfl ?_
                            refine EZ_iload 8 dL_listens_230 rfl ?_
                            refine EZ_iload 7 dL_listens_232 rfl ?_
                            refine EZ_iconst 1 (by decide) dL_listens_234 ?_
                            refine EZ_callH zn1 (k_addTest l hfl S_216 r_16 r_27 1 True (b1 trivial)) cwH_179 (As := [.ref 0, .int r_16, .int r_27, .int 1]) (st := []) rfl (rok (Nat.le_of_ble_eq_true rfl) (Nat.le_of_ble_eq_true rfl) (by omega) (by omega)) (Nat.le_of_ble_eq_true rfl) dL_listens_235 rfl (zkI (fun r_235 mi_235 ml_235 h_235 => ?_))
                            obtain ⟨V_235, H_235, S_235, h_235⟩ := h_235
                            (try rw [show r_16.toInt = (sm : Int) from hsm] at h_235)
                            (try rw [show r_27.toInt = (ch : Int) from hch] at h_235)
                            obtain ⟨_, _, n_235, e1_235, e2_235⟩ := (h_235.resolve_left (fun q => q.1 okt)).resolve_right (fun q => by have h9 := q.2.1; omega)
                            subst e1_235; subst e2_235
                            refine EZ_sipush (-902) (by decide) dL_listens_238 ?_
                            refine ZZ_ne (-902) (-902) n_235 (show ((-902) : Int32).toInt = (-902) from rfl) 248 dL_listens_241 (by decide) (fun c_241 => ?_) (fun c_241 => ?_)
                            · exact absurd c_241 (by omega)
                            · skip
                              refine EZ_iconst 1 (by decide) dL_listens_244 ?_
                              refine EZ_goto 249 dL_listens_245 (by decide) ?_
                              refine EZ_zret rfl rfl (by omega) (by omega) dL_listens_249 ?_
                              exact okQI ⟨_, S_235, rfl⟩
          · exact absurd c_96 (by omega)
end LWS4
