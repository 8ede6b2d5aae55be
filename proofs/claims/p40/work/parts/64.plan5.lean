section PL5
/-- what reading leaves: the draft and the plan may change -/
def PFr (mi mj : MI) : Prop := (∀ g, (g < 9 ∨ 17 ≤ g) → g ≠ 58 → mj g = mi g) ∧ mj 58 1 = mi 58 1
theorem hF9_s {h : Int64} {L : List Int32} {b : Int32} : hF9 h (L ++ [b]) = 31 * hF9 h L + b.toInt64 := by unfold hF9; rw [List.foldl_append]; rfl
theorem dg_0 {x : Int32} {V : Nat → Int32} {N : Nat} (hx : x.toInt = (N : Int)) : 31 * (31 * (31 * (31 * (31 * (31 * ((31 : Int64) * 3067 + x.toInt64) + (V 0).toInt64) + (V 1).toInt64) + (V 2).toInt64) + (V 3).toInt64) + (V 4).toInt64) + (V 5).toInt64 = hF9 3067 ([nI N] ++ (List.range (6 + 2 * 0)).map V) := by
  rw [← tI_nIx hx]; rfl
theorem dg_c {h : Int64} {V : Nat → Int32} {N c : Nat} (hh : h = hF9 3067 ([nI N] ++ (List.range (6 + 2 * c)).map V)) : 31 * (31 * h + (V (6 + 2 * c)).toInt64) + (V (7 + 2 * c)).toInt64 = hF9 3067 ([nI N] ++ (List.range (6 + 2 * (c + 1))).map V) := by
  rw [show 6 + 2 * (c + 1) = 6 + 2 * c + 1 + 1 by omega, ← mp_s, ← mp_s, hF9_s, hF9_s, ← hh, show 6 + 2 * c + 1 = 7 + 2 * c by omega]
theorem dg_m {h : Int64} {V : Nat → Int32} {n m : Nat} {L : List Int32} {a b : Int32} {x y : Nat} (hh : h = hF9 3067 L) (ha : a.toInt = (x : Int)) (hb : b.toInt = (y : Int)) : 31 * (31 * (31 * h + a.toInt64) + b.toInt64) + (V 26).toInt64 = hF9 3067 ((((L ++ [nI x]) ++ [nI y]) ++ [V 26]) ++ (List.range 0).map (fun k => V (27 + k))) := by
  rw [List.range_zero, List.map_nil, List.append_nil, hF9_s, hF9_s, hF9_s, ← tI_nIx ha, ← tI_nIx hb, ← hh]
theorem dg_k {h : Int64} {f : Nat → Int32} {L : List Int32} {k : Nat} {v : Int32} (hh : h = hF9 3067 (L ++ (List.range k).map f)) (hv : v = f k) : 31 * h + v.toInt64 = hF9 3067 (L ++ (List.range (k + 1)).map f) := by
  rw [← mp_s, hF9_s, ← hh, hv]
theorem dg_t {h : Int64} {V : Nat → Int32} {L : List Int32} (hh : h = hF9 3067 L) : 31 * h + (V 32).toInt64 = hF9 3067 ((L ++ [V 32]) ++ (List.range (3 * 0)).map (fun k => V (33 + k))) := by
  rw [show (List.range (3 * 0)).map (fun k => V (33 + k)) = [] from rfl, List.append_nil, hF9_s, ← hh]
theorem dg_e {h : Int64} {L : List Int32} {a b c : Int32} {x z : Nat} {y : Int} (hh : h = hF9 3067 L) (ha : a.toInt = (x : Int)) (hb : b.toInt = y) (hc : c.toInt = (z : Int)) : 31 * (31 * (31 * h + a.toInt64) + b.toInt64) + c.toInt64 = hF9 3067 (((L ++ [nI x]) ++ [Int32.ofInt y]) ++ [nI z]) := by
  rw [hF9_s, hF9_s, hF9_s, ← tI_nIx ha, ← tI_nIx hc, ← oI_x hb, ← hh]
set_option maxHeartbeats 1600000 in
set_option maxRecDepth 100000 in
theorem c_X5_digest (l : Launch) (hfl : l.stackTraces = false) (mi : MI) (ml : MJ) (V : Nat → Int32) (hV : WFV V) (hD : DR 1 mi V) (n : Nat) (hn : (V 5).toInt = (n : Int)) (h10 : n ≤ 10) (m : Nat) (hm : (V 26).toInt = (m : Int)) (h5 : m ≤ 5) (t : Nat) (ht : (V 32).toInt = (t : Int)) (h16 : t ≤ 16) (N : Nat) (hN : (mi 58 1).toInt = (N : Int)) (hN2 : N ≤ 120) (sz : Nat) (hsz : (mi 17 2).toInt = (sz : Int)) : Ct l yX5_digest (.code yX5_digest cX5_digest 5 (some .long)) 6 0 0 [.ref 0] (wl mi ml) (QJ (fun r mi9 ml9 => ml = ml9 ∧ Fr [51, 52] mi mi9 ∧ r = hF9 3067 (dgL V N n m t sz))) noX := by
  refine Ct_of (ini := false) pn_X5 hfl (fun h => nomatch h) (Nat.le_of_ble_eq_true rfl) ?_
  show E l RX5 cX5_digest 5 (some .long) false [] (rmE 6 0 0) (wl mi ml) (TgM (wl mi ml) 0 0 (QJ (fun r mi9 ml9 => ml = ml9 ∧ Fr [51, 52] mi mi9 ∧ r = hF9 3067 (dgL V N n m t sz))) noX) 0 0 0 [(0, .ref 0)] [] (wl mi ml)
  refine E_ldc2 wk_X5_290 dX5_digest_0 ?_
  refine E_lstore_n [(1, .long 3067), (0, .ref 0)] dX5_digest_3 rfl (by decide) rfl ?_
  refine E_ldc2 wk_X5_292 dX5_digest_4 ?_
  refine E_lload_n 0 dX5_digest_7 rfl rfl ?_
  refine E_lmul dX5_digest_8 ?_
  refine E_aload_n 1 dX5_digest_9 rfl rfl ?_
  refine gf_X5_43 tw_0 rfl dX5_digest_10 ?_
  refine gf_X5_266 (mi 58 1) tw_58 rfl rfl dX5_digest_13 ?_
  refine E_i2l dX5_digest_16 ?_
  refine E_ladd dX5_digest_17 ?_
  refine E_lstore_n [(1, .long (((31 : Int64) * 3067) + ((mi 58 1).toInt64))), (0, .ref 0)] dX5_digest_18 rfl (by decide) rfl ?_
  refine E_ldc2 wk_X5_292 dX5_digest_19 ?_
  refine E_lload_n 0 dX5_digest_22 rfl rfl ?_
  refine E_lmul dX5_digest_23 ?_
  refine E_aload_n 1 dX5_digest_24 rfl rfl ?_
  refine gf_X5_10 tw_0 rfl dX5_digest_25 ?_
  refine gf_X5_118 (V 0) isD_1.t rfl hD.1.1 dX5_digest_28 ?_
  refine E_i2l dX5_digest_31 ?_
  refine E_ladd dX5_digest_32 ?_
  refine E_lstore_n [(1, .long (((31 : Int64) * (((31 : Int64) * 3067) + ((mi 58 1).toInt64))) + ((V 0).toInt64))), (0, .ref 0)] dX5_digest_33 rfl (by decide) rfl ?_
  refine E_ldc2 wk_X5_292 dX5_digest_34 ?_
  refine E_lload_n 0 dX5_digest_37 rfl rfl ?_
  refine E_lmul dX5_digest_38 ?_
  refine E_aload_n 1 dX5_digest_39 rfl rfl ?_
  refine gf_X5_10 tw_0 rfl dX5_digest_40 ?_
  refine gf_X5_121 (V 1) isD_1.t rfl hD.1.2.1 dX5_digest_43 ?_
  refine E_i2l dX5_digest_46 ?_
  refine E_ladd dX5_digest_47 ?_
  refine E_lstore_n [(1, .long (((31 : Int64) * (((31 : Int64) * (((31 : Int64) * 3067) + ((mi 58 1).toInt64))) + ((V 0).toInt64))) + ((V 1).toInt64))), (0, .ref 0)] dX5_digest_48 rfl (by decide) rfl ?_
  refine E_ldc2 wk_X5_292 dX5_digest_49 ?_
  refine E_lload_n 0 dX5_digest_52 rfl rfl ?_
  refine E_lmul dX5_digest_53 ?_
  refine E_aload_n 1 dX5_digest_54 rfl rfl ?_
  refine gf_X5_10 tw_0 rfl dX5_digest_55 ?_
  refine gf_X5_124 (V 2) isD_1.t rfl hD.1.2.2.1 dX5_digest_58 ?_
  refine E_i2l dX5_digest_61 ?_
  refine E_ladd dX5_digest_62 ?_
  refine E_lstore_n [(1, .long (((31 : Int64) * (((31 : Int64) * (((31 : Int64) * (((31 : Int64) * 3067) + ((mi 58 1).toInt64))) + ((V 0).toInt64))) + ((V 1).toInt64))) + ((V 2).toInt64))), (0, .ref 0)] dX5_digest_63 rfl (by decide) rfl ?_
  refine E_ldc2 wk_X5_292 dX5_digest_64 ?_
  refine E_lload_n 0 dX5_digest_67 rfl rfl ?_
  refine E_lmul dX5_digest_68 ?_
  refine E_aload_n 1 dX5_digest_69 rfl rfl ?_
  refine gf_X5_10 tw_0 rfl dX5_digest_70 ?_
  refine gf_X5_132 (V 3) isD_1.t rfl hD.1.2.2.2.1 dX5_digest_73 ?_
  refine E_i2l dX5_digest_76 ?_
  refine E_ladd dX5_digest_77 ?_
  refine E_lstore_n [(1, .long (((31 : Int64) * (((31 : Int64) * (((31 : Int64) * (((31 : Int64) * (((31 : Int64) * 3067) + ((mi 58 1).toInt64))) + ((V 0).toInt64))) + ((V 1).toInt64))) + ((V 2).toInt64))) + ((V 3).toInt64))), (0, .ref 0)] dX5_digest_78 rfl (by decide) rfl ?_
  refine E_ldc2 wk_X5_292 dX5_digest_79 ?_
  refine E_lload_n 0 dX5_digest_82 rfl rfl ?_
  refine E_lmul dX5_digest_83 ?_
  refine E_aload_n 1 dX5_digest_84 rfl rfl ?_
  refine gf_X5_10 tw_0 rfl dX5_digest_85 ?_
  refine gf_X5_135 (V 4) isD_1.t rfl hD.1.2.2.2.2 dX5_digest_88 ?_
  refine E_i2l dX5_digest_91 ?_
  refine E_ladd dX5_digest_92 ?_
  refine E_lstore_n [(1, .long (((31 : Int64) * (((31 : Int64) * (((31 : Int64) * (((31 : Int64) * (((31 : Int64) * (((31 : Int64) * 3067) + ((mi 58 1).toInt64))) + ((V 0).toInt64))) + ((V 1).toInt64))) + ((V 2).toInt64))) + ((V 3).toInt64))) + ((V 4).toInt64))), (0, .ref 0)] dX5_digest_93 rfl (by decide) rfl ?_
  refine E_ldc2 wk_X5_292 dX5_digest_94 ?_
  refine E_lload_n 0 dX5_digest_97 rfl rfl ?_
  refine E_lmul dX5_digest_98 ?_
  refine E_aload_n 1 dX5_digest_99 rfl rfl ?_
  refine gf_X5_10 tw_0 rfl dX5_digest_100 ?_
  refine gf_X5_80 (V 5) isD_1.t rfl hD.2.1.1 dX5_digest_103 ?_
  refine E_i2l dX5_digest_106 ?_
  refine E_ladd dX5_digest_107 ?_
  refine E_lstore_n [(1, .long (((31 : Int64) * (((31 : Int64) * (((31 : Int64) * (((31 : Int64) * (((31 : Int64) * (((31 : Int64) * (((31 : Int64) * 3067) + ((mi 58 1).toInt64))) + ((V 0).toInt64))) + ((V 1).toInt64))) + ((V 2).toInt64))) + ((V 3).toInt64))) + ((V 4).toInt64))) + ((V 5).toInt64))), (0, .ref 0)] dX5_digest_108 rfl (by decide) rfl ?_
  refine E_iconst 0 (by decide) dX5_digest_109 ?_
  refine E_istore_n [(3, .int 0), (1, .long (((31 : Int64) * (((31 : Int64) * (((31 : Int64) * (((31 : Int64) * (((31 : Int64) * (((31 : Int64) * (((31 : Int64) * 3067) + ((mi 58 1).toInt64))) + ((V 0).toInt64))) + ((V 1).toInt64))) + ((V 2).toInt64))) + ((V 3).toInt64))) + ((V 4).toInt64))) + ((V 5).toInt64))), (0, .ref 0)] dX5_digest_110 rfl (by decide) rfl ?_
  have J111 : ∀ (Nm : Nat) (xc : Int32) (h : Int64) (c : Nat), n - c < Nm → xc.toInt = (c : Int) → c ≤ n → h = hF9 3067 ([nI N] ++ (List.range (6 + 2 * c)).map V) → E l RX5 cX5_digest 5 (some .long) false [] (rmE 6 0 0) (wl mi ml) (TgM (wl mi ml) 0 0 (QJ (fun r mi9 ml9 => ml = ml9 ∧ Fr [51, 52] mi mi9 ∧ r = hF9 3067 (dgL V N n m t sz))) noX) 0 0 111 [(0, .ref 0), (1, .long h), (3, .int xc)] [] (wl mi ml) := by
    intro Nm
    induction Nm with
    | zero => intros; omega
    | succ Nm ih111 =>
      intro xc h c hN111 hc hcn hh
      refine E_iload_n 2 dX5_digest_111 rfl rfl ?_
      refine E_aload_n 0 dX5_digest_112 rfl rfl ?_
      refine gf_X5_10 tw_0 rfl dX5_digest_113 ?_
      refine gf_X5_80 (V 5) isD_1.t rfl hD.2.1.1 dX5_digest_116 ?_
      refine Z_ge (c : Int) (n : Int) hc hn 160 dX5_digest_119 (by decide) (fun c_119 => ?_) (fun c_119 => ?_)
      · skip
        obtain rfl : n = c := by omega
        refine E_ldc2 wk_X5_292 dX5_digest_160 ?_
        refine E_lload_n 1 dX5_digest_163 rfl rfl ?_
        refine E_lmul dX5_digest_164 ?_
        refine E_aload_n 0 dX5_digest_165 rfl rfl ?_
        refine E_callV (c_X5_products l hfl mi ml V hV hD n hn h10) cw_X5_294 (As := []) (st := [.long ((31 : Int64) * h)]) wi_yX5_products we_yX5_products (ci := 5) (q := (RX5, TX5, 7)) rfl rfl (wl_atO tw_0) rfl ⟨Nat.le_of_ble_eq_true rfl, Nat.le_of_ble_eq_true rfl, Nat.le_of_ble_eq_true rfl, Nat.le_of_ble_eq_true rfl⟩ (Nat.le_of_ble_eq_true rfl) dX5_digest_166 (fun _ _ h => h) rfl (kI (fun r_166 mi_166 ml_166 h_166 => ?_))
        obtain ⟨rfl, h_166⟩ := h_166
        refine E_i2l dX5_digest_169 ?_
        refine E_ladd dX5_digest_170 ?_
        refine E_lstore_n [(1, .long (((31 : Int64) * h) + (r_166.toInt64))), (0, .ref 0), (3, .int xc)] dX5_digest_171 rfl (by decide) rfl ?_
        refine E_ldc2 wk_X5_292 dX5_digest_172 ?_
        refine E_lload_n 0 dX5_digest_175 rfl rfl ?_
        refine E_lmul dX5_digest_176 ?_
        refine E_aload_n 1 dX5_digest_177 rfl rfl ?_
        refine E_callV (c_X5_hits l hfl mi_166 ml V hV (hD.r8 (h_166.1 1 (by decide)) (h_166.1 2 (by decide)) (h_166.1 3 (by decide)) (h_166.1 4 (by decide)) (h_166.1 5 (by decide)) (h_166.1 6 (by decide)) (h_166.1 7 (by decide)) (h_166.1 8 (by decide))) n hn h10) cw_X5_297 (As := []) (st := [.long ((31 : Int64) * (((31 : Int64) * h) + (r_166.toInt64)))]) wi_yX5_hits we_yX5_hits (ci := 5) (q := (RX5, TX5, 7)) rfl rfl (wl_atO tw_0) rfl ⟨Nat.le_of_ble_eq_true rfl, Nat.le_of_ble_eq_true rfl, Nat.le_of_ble_eq_true rfl, Nat.le_of_ble_eq_true rfl⟩ (Nat.le_of_ble_eq_true rfl) dX5_digest_178 (fun _ _ h => h) rfl (kI (fun r_178 mi_178 ml_178 h_178 => ?_))
        obtain ⟨rfl, h_178⟩ := h_178
        refine E_i2l dX5_digest_181 ?_
        refine E_ladd dX5_digest_182 ?_
        refine E_lstore_n [(1, .long (((31 : Int64) * (((31 : Int64) * h) + (r_166.toInt64))) + (r_178.toInt64))), (0, .ref 0), (3, .int xc)] dX5_digest_183 rfl (by decide) rfl ?_
        refine E_ldc2 wk_X5_292 dX5_digest_184 ?_
        refine E_lload_n 0 dX5_digest_187 rfl rfl ?_
        refine E_lmul dX5_digest_188 ?_
        refine E_aload_n 1 dX5_digest_189 rfl rfl ?_
        refine gf_X5_10 tw_0 rfl dX5_digest_190 ?_
        refine gf_X5_138 (V 26) isD_1.t rfl ((congrFun (h_178.1 1 (by decide)) 8).trans ((congrFun (h_166.1 1 (by decide)) 8).trans hD.2.1.2.1)) dX5_digest_193 ?_
        refine E_i2l dX5_digest_196 ?_
        refine E_ladd dX5_digest_197 ?_
        refine E_lstore_n [(1, .long (((31 : Int64) * (((31 : Int64) * (((31 : Int64) * h) + (r_166.toInt64))) + (r_178.toInt64))) + ((V 26).toInt64))), (0, .ref 0), (3, .int xc)] dX5_digest_198 rfl (by decide) rfl ?_
        refine E_iconst 0 (by decide) dX5_digest_199 ?_
        refine E_istore_n [(3, .int 0), (1, .long (((31 : Int64) * (((31 : Int64) * (((31 : Int64) * h) + (r_166.toInt64))) + (r_178.toInt64))) + ((V 26).toInt64))), (0, .ref 0)] dX5_digest_200 rfl (by decide) rfl ?_
        have J201 : ∀ (Nm : Nat) (xk : Int32) (h2 : Int64) (k : Nat), m - k < Nm → xk.toInt = (k : Int) → k ≤ m → h2 = hF9 3067 ((((([nI N] ++ (List.range (6 + 2 * n)).map V) ++ [nI (prV V (2 ^ n - 1) n).length]) ++ [nI (hsA V (prV V (2 ^ n - 1) n) n)]) ++ [V 26]) ++ (List.range k).map (fun k => V (27 + k))) → E l RX5 cX5_digest 5 (some .long) false [] (rmE 6 0 0) (wl mi ml) (TgM (wl mi ml) 0 0 (QJ (fun r mi9 ml9 => ml = ml9 ∧ Fr [51, 52] mi mi9 ∧ r = hF9 3067 (dgL V N n m t sz))) noX) 0 0 201 [(0, .ref 0), (1, .long h2), (3, .int xk)] [] (wl mi_178 ml) := by
          intro Nm
          induction Nm with
          | zero => intros; omega
          | succ Nm ih201 =>
            intro xk h2 k hN201 hk hkm hh2
            refine E_iload_n 2 dX5_digest_201 rfl rfl ?_
            refine E_aload_n 0 dX5_digest_202 rfl rfl ?_
            refine gf_X5_10 tw_0 rfl dX5_digest_203 ?_
            refine gf_X5_138 (V 26) isD_1.t rfl ((congrFun (h_178.1 1 (by decide)) 8).trans ((congrFun (h_166.1 1 (by decide)) 8).trans hD.2.1.2.1)) dX5_digest_206 ?_
            refine Z_ge (k : Int) (m : Int) hk hm 234 dX5_digest_209 (by decide) (fun c_209 => ?_) (fun c_209 => ?_)
            · skip
              obtain rfl : m = k := by omega
              refine E_ldc2 wk_X5_292 dX5_digest_234 ?_
              refine E_lload_n 1 dX5_digest_237 rfl rfl ?_
              refine E_lmul dX5_digest_238 ?_
              refine E_aload_n 0 dX5_digest_239 rfl rfl ?_
              refine gf_X5_10 tw_0 rfl dX5_digest_240 ?_
              refine gf_X5_127 (V 32) isD_1.t rfl ((congrFun (h_178.1 1 (by decide)) 10).trans ((congrFun (h_166.1 1 (by decide)) 10).trans hD.2.1.2.2)) dX5_digest_243 ?_
              refine E_i2l dX5_digest_246 ?_
              refine E_ladd dX5_digest_247 ?_
              refine E_lstore_n [(1, .long (((31 : Int64) * h2) + ((V 32).toInt64))), (0, .ref 0), (3, .int xk)] dX5_digest_248 rfl (by decide) rfl ?_
              refine E_iconst 0 (by decide) dX5_digest_249 ?_
              refine E_istore_n [(3, .int 0), (1, .long (((31 : Int64) * h2) + ((V 32).toInt64))), (0, .ref 0)] dX5_digest_250 rfl (by decide) rfl ?_
              have J251 : ∀ (Nm : Nat) (xj : Int32) (h3 : Int64) (j : Nat), t - j < Nm → xj.toInt = (j : Int) → j ≤ t → h3 = hF9 3067 ((((((([nI N] ++ (List.range (6 + 2 * n)).map V) ++ [nI (prV V (2 ^ n - 1) n).length]) ++ [nI (hsA V (prV V (2 ^ n - 1) n) n)]) ++ [V 26]) ++ (List.range m).map (fun k => V (27 + k))) ++ [V 32]) ++ (List.range (3 * j)).map (fun k => V (33 + k))) → E l RX5 cX5_digest 5 (some .long) false [] (rmE 6 0 0) (wl mi ml) (TgM (wl mi ml) 0 0 (QJ (fun r mi9 ml9 => ml = ml9 ∧ Fr [51, 52] mi mi9 ∧ r = hF9 3067 (dgL V N n m t sz))) noX) 0 0 251 [(0, .ref 0), (1, .long h3), (3, .int xj)] [] (wl mi_178 ml) := by
                intro Nm
                induction Nm with
                | zero => intros; omega
                | succ Nm ih251 =>
                  intro xj h3 j hN251 hj hjt hh3
                  refine E_iload_n 2 dX5_digest_251 rfl rfl ?_
                  refine E_aload_n 0 dX5_digest_252 rfl rfl ?_
                  refine gf_X5_10 tw_0 rfl dX5_digest_253 ?_
                  refine gf_X5_127 (V 32) isD_1.t rfl ((congrFun (h_178.1 1 (by decide)) 10).trans ((congrFun (h_166.1 1 (by decide)) 10).trans hD.2.1.2.2)) dX5_digest_256 ?_
                  refine Z_ge (j : Int) (t : Int) hj ht 301 dX5_digest_259 (by decide) (fun c_259 => ?_) (fun c_259 => ?_)
                  · skip
                    obtain rfl : t = j := by omega
                    refine E_ldc2 wk_X5_292 dX5_digest_301 ?_
                    refine E_lload_n 1 dX5_digest_304 rfl rfl ?_
                    refine E_lmul dX5_digest_305 ?_
                    refine E_aload_n 0 dX5_digest_306 rfl rfl ?_
                    refine E_callV (c_X5_diagnoses l hfl mi_178 ml V hV (hD.r8 ((h_178.1 1 (by decide)).trans (h_166.1 1 (by decide))) ((h_178.1 2 (by decide)).trans (h_166.1 2 (by decide))) ((h_178.1 3 (by decide)).trans (h_166.1 3 (by decide))) ((h_178.1 4 (by decide)).trans (h_166.1 4 (by decide))) ((h_178.1 5 (by decide)).trans (h_166.1 5 (by decide))) ((h_178.1 6 (by decide)).trans (h_166.1 6 (by decide))) ((h_178.1 7 (by decide)).trans (h_166.1 7 (by decide))) ((h_178.1 8 (by decide)).trans (h_166.1 8 (by decide)))) n hn h10 m hm h5 t ht h16) cw_X5_300 (As := []) (st := [.long ((31 : Int64) * h3)]) wi_yX5_diagnoses we_yX5_diagnoses (ci := 5) (q := (RX5, TX5, 7)) rfl rfl (wl_atO tw_0) rfl ⟨Nat.le_of_ble_eq_true rfl, Nat.le_of_ble_eq_true rfl, Nat.le_of_ble_eq_true rfl, Nat.le_of_ble_eq_true rfl⟩ (Nat.le_of_ble_eq_true rfl) dX5_digest_307 (fun _ _ h => h) rfl (kI (fun r_307 mi_307 ml_307 h_307 => ?_))
                    obtain ⟨rfl, rfl, h_307⟩ := h_307
                    refine E_i2l dX5_digest_310 ?_
                    refine E_ladd dX5_digest_311 ?_
                    refine E_lstore_n [(1, .long (((31 : Int64) * h3) + (r_307.toInt64))), (0, .ref 0), (3, .int xj)] dX5_digest_312 rfl (by decide) rfl ?_
                    refine E_ldc2 wk_X5_292 dX5_digest_313 ?_
                    refine E_lload_n 0 dX5_digest_316 rfl rfl ?_
                    refine E_lmul dX5_digest_317 ?_
                    refine E_aload_n 1 dX5_digest_318 rfl rfl ?_
                    refine E_callV (c_X5_diagnosis l hfl mi_178 ml V hV (hD.r8 ((h_178.1 1 (by decide)).trans (h_166.1 1 (by decide))) ((h_178.1 2 (by decide)).trans (h_166.1 2 (by decide))) ((h_178.1 3 (by decide)).trans (h_166.1 3 (by decide))) ((h_178.1 4 (by decide)).trans (h_166.1 4 (by decide))) ((h_178.1 5 (by decide)).trans (h_166.1 5 (by decide))) ((h_178.1 6 (by decide)).trans (h_166.1 6 (by decide))) ((h_178.1 7 (by decide)).trans (h_166.1 7 (by decide))) ((h_178.1 8 (by decide)).trans (h_166.1 8 (by decide)))) n hn h10 m hm h5 t ht h16) cw_X5_303 (As := []) (st := [.long ((31 : Int64) * (((31 : Int64) * h3) + (r_307.toInt64)))]) wi_yX5_diagnosis we_yX5_diagnosis (ci := 5) (q := (RX5, TX5, 7)) rfl rfl (wl_atO tw_0) rfl ⟨Nat.le_of_ble_eq_true rfl, Nat.le_of_ble_eq_true rfl, Nat.le_of_ble_eq_true rfl, Nat.le_of_ble_eq_true rfl⟩ (Nat.le_of_ble_eq_true rfl) dX5_digest_319 (fun _ _ h => h) rfl (kI (fun r_319 mi_319 ml_319 h_319 => ?_))
                    obtain ⟨rfl, rfl, h_319⟩ := h_319
                    refine E_i2l dX5_digest_322 ?_
                    refine E_ladd dX5_digest_323 ?_
                    refine E_lstore_n [(1, .long (((31 : Int64) * (((31 : Int64) * h3) + (r_307.toInt64))) + (r_319.toInt64))), (0, .ref 0), (3, .int xj)] dX5_digest_324 rfl (by decide) rfl ?_
                    refine E_ldc2 wk_X5_292 dX5_digest_325 ?_
                    refine E_lload_n 0 dX5_digest_328 rfl rfl ?_
                    refine E_lmul dX5_digest_329 ?_
                    refine E_aload_n 1 dX5_digest_330 rfl rfl ?_
                    refine gf_X5_22 tw_0 rfl dX5_digest_331 ?_
                    refine gf_X5_284 (mi 17 2) tw_17 rfl ((congrFun (h_178.1 17 (by decide)) 2).trans (congrFun (h_166.1 17 (by decide)) 2)) dX5_digest_334 ?_
                    refine E_i2l dX5_digest_337 ?_
                    refine E_ladd dX5_digest_338 ?_
                    refine E_lstore_n [(1, .long (((31 : Int64) * (((31 : Int64) * (((31 : Int64) * h3) + (r_307.toInt64))) + (r_319.toInt64))) + ((mi 17 2).toInt64))), (0, .ref 0), (3, .int xj)] dX5_digest_339 rfl (by decide) rfl ?_
                    refine E_lload_n 0 dX5_digest_340 rfl rfl ?_
                    refine E_lret rfl (Nat.le_of_ble_eq_true rfl) (Nat.le_of_ble_eq_true rfl) dX5_digest_341 ?_
                    exact okQJ ⟨rfl, (Fr.trans (F := [51, 52]) h_166.1 h_178.1 (fun _ h => h) (fun _ h => h)), dg_e hh3 h_307 h_319 hsz⟩
                  · skip
                    refine E_iconst 0 (by decide) dX5_digest_262 ?_
                    refine E_istore [(4, .int 0), (0, .ref 0), (1, .long h3), (3, .int xj)] dX5_digest_263 (by decide) rfl ?_
                    have J265 : ∀ (Nm : Nat) (xw : Int32) (h4 : Int64) (w : Nat), 3 - w < Nm → xw.toInt = (w : Int) → w ≤ 3 → h4 = hF9 3067 ((((((([nI N] ++ (List.range (6 + 2 * n)).map V) ++ [nI (prV V (2 ^ n - 1) n).length]) ++ [nI (hsA V (prV V (2 ^ n - 1) n) n)]) ++ [V 26]) ++ (List.range m).map (fun k => V (27 + k))) ++ [V 32]) ++ (List.range (3 * j + w)).map (fun k => V (33 + k))) → E l RX5 cX5_digest 5 (some .long) false [] (rmE 6 0 0) (wl mi ml) (TgM (wl mi ml) 0 0 (QJ (fun r mi9 ml9 => ml = ml9 ∧ Fr [51, 52] mi mi9 ∧ r = hF9 3067 (dgL V N n m t sz))) noX) 0 0 265 [(0, .ref 0), (1, .long h4), (3, .int xj), (4, .int xw)] [] (wl mi_178 ml) := by
                      intro Nm
                      induction Nm with
                      | zero => intros; omega
                      | succ Nm ih265 =>
                        intro xw h4 w hN265 hw hw3 hh4
                        refine E_iload 3 dX5_digest_265 rfl ?_
                        refine E_iconst 2 (by decide) dX5_digest_267 ?_
                        refine Z_gt (w : Int) 2 hw (show (2 : Int32).toInt = 2 from rfl) 295 dX5_digest_268 (by decide) (fun c_268 => ?_) (fun c_268 => ?_)
                        · skip
                          refine E_iinc 2 (xj + 1) [(3, .int (xj + 1)), (0, .ref 0), (1, .long h4), (4, .int xw)] dX5_digest_295 rfl rfl (by decide) rfl ?_
                          refine E_goto 251 dX5_digest_298 (by decide) ?_
                          refine E_sub [1, 2, 0] rfl ?_
                          exact ih251 (xj + 1) _ (j + 1) (by omega) ((tI_add hj (show (1 : Int32).toInt = 1 from rfl) (by omega)).trans (by omega)) (by omega) (by rw [show 3 * (j + 1) = 3 * j + w by omega]; exact hh4)
                        · skip
                          refine E_ldc2 wk_X5_292 dX5_digest_271 ?_
                          refine E_lload_n 1 dX5_digest_274 rfl rfl ?_
                          refine E_lmul dX5_digest_275 ?_
                          refine E_aload_n 0 dX5_digest_276 rfl rfl ?_
                          refine gf_X5_10 tw_0 rfl dX5_digest_277 ?_
                          refine E_iload_n 2 dX5_digest_280 rfl rfl ?_
                          refine E_iload 3 dX5_digest_281 rfl ?_
                          refine E_callV (c_X1_testFact l hfl 1 isD_1 mi_178 ml xj xw j (hj.trans (by omega)) (w : Int) hw t ((congrArg Int32.toInt ((congrFun (h_178.1 1 (by decide)) 10).trans ((congrFun (h_166.1 1 (by decide)) 10).trans hD.2.1.2.2))).trans ht) (by omega) (by omega)) cw_X5_249 (As := [.int xj, .int xw]) (st := [.long ((31 : Int64) * h4)]) wi_yX1_testFact we_yX1_testFact (ci := 1) (q := (RX1, TX1, 15)) rfl rfl (wl_atO isD_1.t) rfl ⟨Nat.le_of_ble_eq_true rfl, Nat.le_of_ble_eq_true rfl, Nat.le_of_ble_eq_true rfl, Nat.le_of_ble_eq_true rfl⟩ (Nat.le_of_ble_eq_true rfl) dX5_digest_283 (fun _ _ h => h) rfl (kE ?_)
                          rw [show (if (w : Int) = 0 then mi_178 (1 + 4) j else if (w : Int) = 1 then mi_178 (1 + 5) j else mi_178 (1 + 6) j) = (V (33 + 3 * j + w)) from te_r (hD.r8 ((h_178.1 1 (by decide)).trans (h_166.1 1 (by decide))) ((h_178.1 2 (by decide)).trans (h_166.1 2 (by decide))) ((h_178.1 3 (by decide)).trans (h_166.1 3 (by decide))) ((h_178.1 4 (by decide)).trans (h_166.1 4 (by decide))) ((h_178.1 5 (by decide)).trans (h_166.1 5 (by decide))) ((h_178.1 6 (by decide)).trans (h_166.1 6 (by decide))) ((h_178.1 7 (by decide)).trans (h_166.1 7 (by decide))) ((h_178.1 8 (by decide)).trans (h_166.1 8 (by decide)))) (by omega) (by omega) rfl]
                          refine E_i2l dX5_digest_286 ?_
                          refine E_ladd dX5_digest_287 ?_
                          refine E_lstore_n [(1, .long (((31 : Int64) * h4) + ((V (33 + 3 * j + w)).toInt64))), (0, .ref 0), (3, .int xj), (4, .int xw)] dX5_digest_288 rfl (by decide) rfl ?_
                          refine E_iinc 3 (xw + 1) [(4, .int (xw + 1)), (1, .long (((31 : Int64) * h4) + ((V (33 + 3 * j + w)).toInt64))), (0, .ref 0), (3, .int xj)] dX5_digest_289 rfl rfl (by decide) rfl ?_
                          refine E_goto 265 dX5_digest_292 (by decide) ?_
                          refine E_sub [2, 1, 3, 0] rfl ?_
                          exact ih265 (xw + 1) _ (w + 1) (by omega) ((tI_add hw (show (1 : Int32).toInt = 1 from rfl) (by omega)).trans (by omega)) (by omega) (dg_k hh4 (by show V (33 + 3 * j + w) = V (33 + (3 * j + w)); rw [Nat.add_assoc]))
                    refine E_sub [1, 2, 3, 0] rfl ?_
                    exact J265 _ 0 _ 0 (Nat.lt_succ_self _) (show (0 : Int32).toInt = 0 from rfl) (Nat.zero_le _) hh3
              refine E_sub [2, 1, 0] rfl ?_
              exact J251 _ 0 _ 0 (Nat.lt_succ_self _) (show (0 : Int32).toInt = 0 from rfl) (Nat.zero_le _) (dg_t hh2)
            · skip
              refine E_ldc2 wk_X5_292 dX5_digest_212 ?_
              refine E_lload_n 1 dX5_digest_215 rfl rfl ?_
              refine E_lmul dX5_digest_216 ?_
              refine E_aload_n 0 dX5_digest_217 rfl rfl ?_
              refine gf_X5_10 tw_0 rfl dX5_digest_218 ?_
              refine E_iload_n 2 dX5_digest_221 rfl rfl ?_
              refine E_callV (c_X1_membersOfS l hfl 1 isD_1 mi_178 ml xk k (hk.trans (by omega)) m (((congrArg Int32.toInt ((congrFun (h_178.1 1 (by decide)) 8).trans ((congrFun (h_166.1 1 (by decide)) 8).trans hD.2.1.2.1))).trans hm).trans (by omega)) (by omega) (by omega)) cw_X5_223 (As := [.int xk]) (st := [.long ((31 : Int64) * h2)]) wi_yX1_membersOf we_yX1_membersOf (ci := 1) (q := (RX1, TX1, 15)) rfl rfl (wl_atO isD_1.t) rfl ⟨Nat.le_of_ble_eq_true rfl, Nat.le_of_ble_eq_true rfl, Nat.le_of_ble_eq_true rfl, Nat.le_of_ble_eq_true rfl⟩ (Nat.le_of_ble_eq_true rfl) dX5_digest_222 (fun _ _ h => h) rfl (kE ?_)
              rw [show mi_178 4 k = (V (27 + k)) from ((congrFun ((h_178.1 4 (by decide)).trans (h_166.1 4 (by decide))) k).trans (hD.2.2.2.1 k (by omega)))]
              refine E_i2l dX5_digest_225 ?_
              refine E_ladd dX5_digest_226 ?_
              refine E_lstore_n [(1, .long (((31 : Int64) * h2) + ((V (27 + k)).toInt64))), (0, .ref 0), (3, .int xk)] dX5_digest_227 rfl (by decide) rfl ?_
              refine E_iinc 2 (xk + 1) [(3, .int (xk + 1)), (1, .long (((31 : Int64) * h2) + ((V (27 + k)).toInt64))), (0, .ref 0)] dX5_digest_228 rfl rfl (by decide) rfl ?_
              refine E_goto 201 dX5_digest_231 (by decide) ?_
              refine E_sub [2, 1, 0] rfl ?_
              exact ih201 (xk + 1) _ (k + 1) (by omega) ((tI_add hk (show (1 : Int32).toInt = 1 from rfl) (by omega)).trans (by omega)) (by omega) (dg_k hh2 rfl)
        refine E_sub [2, 1, 0] rfl ?_
        exact J201 _ 0 _ 0 (Nat.lt_succ_self _) (show (0 : Int32).toInt = 0 from rfl) (Nat.zero_le _) (dg_m (n := n) (m := m) hh h_166.2 h_178.2)
      · skip
        refine E_ldc2 wk_X5_292 dX5_digest_122 ?_
        refine E_lload_n 1 dX5_digest_125 rfl rfl ?_
        refine E_lmul dX5_digest_126 ?_
        refine E_aload_n 0 dX5_digest_127 rfl rfl ?_
        refine gf_X5_10 tw_0 rfl dX5_digest_128 ?_
        refine E_iload_n 2 dX5_digest_131 rfl rfl ?_
        refine E_callV (c_X1_channelOf l hfl 1 isD_1 mi ml xc c n (hc.trans (by omega)) ((congrArg Int32.toInt hD.2.1.1).trans hn) (by omega) (by omega)) cw_X5_92 (As := [.int xc]) (st := [.long ((31 : Int64) * h)]) wi_yX1_channelOf we_yX1_channelOf (ci := 1) (q := (RX1, TX1, 15)) rfl rfl (wl_atO isD_1.t) rfl ⟨Nat.le_of_ble_eq_true rfl, Nat.le_of_ble_eq_true rfl, Nat.le_of_ble_eq_true rfl, Nat.le_of_ble_eq_true rfl⟩ (Nat.le_of_ble_eq_true rfl) dX5_digest_132 (fun _ _ h => h) rfl (kE ?_)
        rw [show mi 2 c = (V (6 + 2 * c)) from (hD.2.2.1 c (by omega)).1]
        refine E_i2l dX5_digest_135 ?_
        refine E_ladd dX5_digest_136 ?_
        refine E_lstore_n [(1, .long (((31 : Int64) * h) + ((V (6 + 2 * c)).toInt64))), (0, .ref 0), (3, .int xc)] dX5_digest_137 rfl (by decide) rfl ?_
        refine E_ldc2 wk_X5_292 dX5_digest_138 ?_
        refine E_lload_n 0 dX5_digest_141 rfl rfl ?_
        refine E_lmul dX5_digest_142 ?_
        refine E_aload_n 1 dX5_digest_143 rfl rfl ?_
        refine gf_X5_10 tw_0 rfl dX5_digest_144 ?_
        refine E_iload_n 2 dX5_digest_147 rfl rfl ?_
        refine E_callV (c_X1_levelOf l hfl 1 isD_1 mi ml xc c n (hc.trans (by omega)) ((congrArg Int32.toInt hD.2.1.1).trans hn) (by omega) (by omega)) cw_X5_143 (As := [.int xc]) (st := [.long ((31 : Int64) * (((31 : Int64) * h) + ((V (6 + 2 * c)).toInt64)))]) wi_yX1_levelOf we_yX1_levelOf (ci := 1) (q := (RX1, TX1, 15)) rfl rfl (wl_atO isD_1.t) rfl ⟨Nat.le_of_ble_eq_true rfl, Nat.le_of_ble_eq_true rfl, Nat.le_of_ble_eq_true rfl, Nat.le_of_ble_eq_true rfl⟩ (Nat.le_of_ble_eq_true rfl) dX5_digest_148 (fun _ _ h => h) rfl (kE ?_)
        rw [show mi 3 c = (V (7 + 2 * c)) from (hD.2.2.1 c (by omega)).2]
        refine E_i2l dX5_digest_151 ?_
        refine E_ladd dX5_digest_152 ?_
        refine E_lstore_n [(1, .long (((31 : Int64) * (((31 : Int64) * h) + ((V (6 + 2 * c)).toInt64))) + ((V (7 + 2 * c)).toInt64))), (0, .ref 0), (3, .int xc)] dX5_digest_153 rfl (by decide) rfl ?_
        refine E_iinc 2 (xc + 1) [(3, .int (xc + 1)), (1, .long (((31 : Int64) * (((31 : Int64) * h) + ((V (6 + 2 * c)).toInt64))) + ((V (7 + 2 * c)).toInt64))), (0, .ref 0)] dX5_digest_154 rfl rfl (by decide) rfl ?_
        refine E_goto 111 dX5_digest_157 (by decide) ?_
        refine E_sub [2, 1, 0] rfl ?_
        exact ih111 (xc + 1) _ (c + 1) (by omega) ((tI_add hc (show (1 : Int32).toInt = 1 from rfl) (by omega)).trans (by omega)) (by omega) (dg_c hh)
  refine E_sub [2, 1, 0] rfl ?_
  exact J111 _ 0 _ 0 (Nat.lt_succ_self _) (show (0 : Int32).toInt = 0 from rfl) (Nat.zero_le _) (dg_0 hN)
end PL5
