/-! THE LAW: its loop, its end -/
theorem v01_z {b : Int32} (h : ¬ v01 b = 1) : b = 0 := by
  by_cases e : b = 0
  · exact e
  · exact absurd (by unfold v01; rw [if_neg e]) h
theorem v01_nz {b : Int32} (h : v01 b = 1) : ¬ b = 0 := by
  intro e
  subst e
  exact absurd h (by decide)
theorem nI_nz {k : Nat} (h1 : 1 ≤ k) (h2 : k < 1000) : nI k ≠ 0 := by
  intro e
  have e2 := congrArg Int32.toInt e
  rw [nI_toInt (by omega), show (0 : Int32).toInt = 0 from rfl] at e2
  omega
theorem lg_self (a : Int64) : lg_cmp a a = 0 := by
  unfold lg_cmp
  rw [if_neg (show ¬ a > a from Int64.lt_irrefl), if_pos rfl]
set_option maxHeartbeats 400000 in
set_option maxRecDepth 100000 in
theorem lw_sw0 {d lc rc L T kk lf mc ms : Nat} {n : Nat} {K : Nat → mj_K} {f : Nat → Nat → Int32} {g : Nat → Nat → Option Nat} {y : mV} {v5 v6 v7 v9 v10 v11 vx : Int32} {w16 w17 w18 w19 w20 w21 w22 w23 w24 w25 w26 : Value} (hJ : LJ lc rc L T n K f g y v5 v6 v7 v9 v10) (hT : T ≤ 420) (hkk : kk < rc) (hlf : lf < lc) (hio : (y.2.2.2.2 kk).2 15 = 0) (k : lw_K d lc rc L (T + 6) mc ms v11) : mj_W m_law (d + 8) (7 + mc) (53 + ms) lw_QL 276 [.ref 0, .ref 1, .int (nI lc), .int (nI rc), .ref 144, .int v5, .int v6, .int v7, .ref 145, .int v9, .int v10, .int v11, .int vx, .int (nI kk), .int (nI lf), .int 0, w16, w17, w18, w19, w20, w21, w22, w23, w24, w25, w26] [] (n, K, f, g) := by
  refine mj_iload (i := 12) (q := 278) dL_law_276 rfl rfl ?_
  refine mj_num2 (v := nI 20) (q := 280) (by decide) dL_law_278 rfl ?_
  refine mj_cS2i (K := m_L_below) (q := 283) dL_law_280 ln_L_9 ok_L_below (Nat.le_of_ble_eq_true rfl) (by decide) rfl (s_below (by decide)) (fun r_280 h1 hq => ?_)
  obtain ⟨rfl, rfl⟩ := hq
  obtain ⟨c, hc, ec⟩ := vBelow_rng vx (n := 20) (by decide) (by decide)
  rw [ec]
  have hc9 : c = 0 ∨ c = 1 ∨ c = 2 ∨ c = 3 ∨ c = 4 ∨ c = 5 ∨ c = 6 ∨ c = 7 ∨ c = 8 ∨ c = 9 ∨ c = 10 ∨ c = 11 ∨ c = 12 ∨ c = 13 ∨ c = 14 ∨ 15 ≤ c := by omega
  rcases hc9 with rfl | rfl | rfl | rfl | rfl | rfl | rfl | rfl | rfl | rfl | rfl | rfl | rfl | rfl | rfl | hc9
  · refine mj_tabIn (off := 73) (q := 356) dL_law_283 (by decide) (by decide) rfl (by decide) ?_
    exact mj_budget (mc1 := mc) (ms1 := ms) (by omega) (by omega) (lc_turn hJ hT hkk hlf k)
  · refine mj_tabIn (off := 145) (q := 428) dL_law_283 (by decide) (by decide) rfl (by decide) ?_
    exact mj_budget (mc1 := mc) (ms1 := ms) (by omega) (by omega) (lc_guns hJ hT hkk hlf k)
  · refine mj_tabIn (off := 198) (q := 481) dL_law_283 (by decide) (by decide) rfl (by decide) ?_
    exact mj_budget (mc1 := mc) (ms1 := ms) (by omega) (by omega) (lc_fill hJ hT hkk hlf k)
  · refine mj_tabIn (off := 260) (q := 543) dL_law_283 (by decide) (by decide) rfl (by decide) ?_
    exact mj_budget (mc1 := mc) (ms1 := ms) (by omega) (by omega) (lc_crowd hJ hT hkk hlf k)
  · refine mj_tabIn (off := 289) (q := 572) dL_law_283 (by decide) (by decide) rfl (by decide) ?_
    exact mj_budget (mc1 := mc) (ms1 := ms) (by omega) (by omega) (lc_blast0 (io := 0) hJ hT hkk hlf hio k)
  · refine mj_tabIn (off := 289) (q := 572) dL_law_283 (by decide) (by decide) rfl (by decide) ?_
    exact mj_budget (mc1 := mc) (ms1 := ms) (by omega) (by omega) (lc_blast0 (io := 0) hJ hT hkk hlf hio k)
  · refine mj_tabIn (off := 420) (q := 703) dL_law_283 (by decide) (by decide) rfl (by decide) ?_
    exact mj_budget (mc1 := mc) (ms1 := ms) (by omega) (by omega) (lc_search hJ hT hkk hlf k)
  · refine mj_tabIn (off := 450) (q := 733) dL_law_283 (by decide) (by decide) rfl (by decide) ?_
    exact mj_budget (mc1 := mc) (ms1 := ms) (by omega) (by omega) (lc_test hJ hT hkk hlf k)
  · refine mj_tabIn (off := 450) (q := 733) dL_law_283 (by decide) (by decide) rfl (by decide) ?_
    exact mj_budget (mc1 := mc) (ms1 := ms) (by omega) (by omega) (lc_test hJ hT hkk hlf k)
  · refine mj_tabIn (off := 490) (q := 773) dL_law_283 (by decide) (by decide) rfl (by decide) ?_
    exact mj_budget (mc1 := mc) (ms1 := ms) (by omega) (by omega) (lc_sweep0 (io := 0) hJ hT hkk hlf hio k)
  · refine mj_tabIn (off := 490) (q := 773) dL_law_283 (by decide) (by decide) rfl (by decide) ?_
    exact mj_budget (mc1 := mc) (ms1 := ms) (by omega) (by omega) (lc_sweep0 (io := 0) hJ hT hkk hlf hio k)
  · refine mj_tabIn (off := 518) (q := 801) dL_law_283 (by decide) (by decide) rfl (by decide) ?_
    exact mj_budget (mc1 := mc) (ms1 := ms) (by omega) (by omega) (lc_groom0 (io := 0) hJ hT hkk hlf hio k)
  · refine mj_tabIn (off := 658) (q := 941) dL_law_283 (by decide) (by decide) rfl (by decide) ?_
    exact mj_budget (mc1 := mc) (ms1 := ms) (by omega) (by omega) (lc_open0 (io := 0) hJ hT hkk hlf hio k)
  · refine mj_tabIn (off := 658) (q := 941) dL_law_283 (by decide) (by decide) rfl (by decide) ?_
    exact mj_budget (mc1 := mc) (ms1 := ms) (by omega) (by omega) (lc_open0 (io := 0) hJ hT hkk hlf hio k)
  · refine mj_tabIn (off := 710) (q := 993) dL_law_283 (by decide) (by decide) rfl (by decide) ?_
    exact mj_budget (mc1 := mc) (ms1 := ms) (by omega) (by omega) (lc_close0 (io := 0) hJ hT hkk hlf hio k)
  · refine mj_tabOut (q := 1031) dL_law_283 (Or.inr (by rw [nI_toInt (by omega)]; omega)) (by decide) ?_
    exact lc_default hJ hT k
set_option maxHeartbeats 400000 in
set_option maxRecDepth 100000 in
theorem lw_sw1 {d lc rc L T kk lf mc ms : Nat} {n : Nat} {K : Nat → mj_K} {f : Nat → Nat → Int32} {g : Nat → Nat → Option Nat} {y : mV} {v5 v6 v7 v9 v10 v11 vx : Int32} {w16 w17 w18 w19 w20 w21 w22 w23 w24 w25 w26 : Value} (hJ : LJ lc rc L T n K f g y v5 v6 v7 v9 v10) (hT : T ≤ 420) (hkk : kk < rc) (hlf : lf < lc) (hio : ¬ (y.2.2.2.2 kk).2 15 = 0) (k : lw_K d lc rc L (T + 6) mc ms v11) : mj_W m_law (d + 8) (7 + mc) (53 + ms) lw_QL 276 [.ref 0, .ref 1, .int (nI lc), .int (nI rc), .ref 144, .int v5, .int v6, .int v7, .ref 145, .int v9, .int v10, .int v11, .int vx, .int (nI kk), .int (nI lf), .int 1, w16, w17, w18, w19, w20, w21, w22, w23, w24, w25, w26] [] (n, K, f, g) := by
  refine mj_iload (i := 12) (q := 278) dL_law_276 rfl rfl ?_
  refine mj_num2 (v := nI 20) (q := 280) (by decide) dL_law_278 rfl ?_
  refine mj_cS2i (K := m_L_below) (q := 283) dL_law_280 ln_L_9 ok_L_below (Nat.le_of_ble_eq_true rfl) (by decide) rfl (s_below (by decide)) (fun r_280 h1 hq => ?_)
  obtain ⟨rfl, rfl⟩ := hq
  obtain ⟨c, hc, ec⟩ := vBelow_rng vx (n := 20) (by decide) (by decide)
  rw [ec]
  have hc9 : c = 0 ∨ c = 1 ∨ c = 2 ∨ c = 3 ∨ c = 4 ∨ c = 5 ∨ c = 6 ∨ c = 7 ∨ c = 8 ∨ c = 9 ∨ c = 10 ∨ c = 11 ∨ c = 12 ∨ c = 13 ∨ c = 14 ∨ 15 ≤ c := by omega
  rcases hc9 with rfl | rfl | rfl | rfl | rfl | rfl | rfl | rfl | rfl | rfl | rfl | rfl | rfl | rfl | rfl | hc9
  · refine mj_tabIn (off := 73) (q := 356) dL_law_283 (by decide) (by decide) rfl (by decide) ?_
    exact mj_budget (mc1 := mc) (ms1 := ms) (by omega) (by omega) (lc_turn hJ hT hkk hlf k)
  · refine mj_tabIn (off := 145) (q := 428) dL_law_283 (by decide) (by decide) rfl (by decide) ?_
    exact mj_budget (mc1 := mc) (ms1 := ms) (by omega) (by omega) (lc_guns hJ hT hkk hlf k)
  · refine mj_tabIn (off := 198) (q := 481) dL_law_283 (by decide) (by decide) rfl (by decide) ?_
    exact mj_budget (mc1 := mc) (ms1 := ms) (by omega) (by omega) (lc_fill hJ hT hkk hlf k)
  · refine mj_tabIn (off := 260) (q := 543) dL_law_283 (by decide) (by decide) rfl (by decide) ?_
    exact mj_budget (mc1 := mc) (ms1 := ms) (by omega) (by omega) (lc_crowd hJ hT hkk hlf k)
  · refine mj_tabIn (off := 289) (q := 572) dL_law_283 (by decide) (by decide) rfl (by decide) ?_
    exact mj_budget (mc1 := mc) (ms1 := ms) (by omega) (by omega) (lc_blast1 (io := 0) hJ hT hkk hlf hio k)
  · refine mj_tabIn (off := 289) (q := 572) dL_law_283 (by decide) (by decide) rfl (by decide) ?_
    exact mj_budget (mc1 := mc) (ms1 := ms) (by omega) (by omega) (lc_blast1 (io := 0) hJ hT hkk hlf hio k)
  · refine mj_tabIn (off := 420) (q := 703) dL_law_283 (by decide) (by decide) rfl (by decide) ?_
    exact mj_budget (mc1 := mc) (ms1 := ms) (by omega) (by omega) (lc_search hJ hT hkk hlf k)
  · refine mj_tabIn (off := 450) (q := 733) dL_law_283 (by decide) (by decide) rfl (by decide) ?_
    exact mj_budget (mc1 := mc) (ms1 := ms) (by omega) (by omega) (lc_test hJ hT hkk hlf k)
  · refine mj_tabIn (off := 450) (q := 733) dL_law_283 (by decide) (by decide) rfl (by decide) ?_
    exact mj_budget (mc1 := mc) (ms1 := ms) (by omega) (by omega) (lc_test hJ hT hkk hlf k)
  · refine mj_tabIn (off := 490) (q := 773) dL_law_283 (by decide) (by decide) rfl (by decide) ?_
    exact mj_budget (mc1 := mc) (ms1 := ms) (by omega) (by omega) (lc_sweep1 (io := 0) hJ hT hkk hlf hio k)
  · refine mj_tabIn (off := 490) (q := 773) dL_law_283 (by decide) (by decide) rfl (by decide) ?_
    exact mj_budget (mc1 := mc) (ms1 := ms) (by omega) (by omega) (lc_sweep1 (io := 0) hJ hT hkk hlf hio k)
  · refine mj_tabIn (off := 518) (q := 801) dL_law_283 (by decide) (by decide) rfl (by decide) ?_
    exact mj_budget (mc1 := mc) (ms1 := ms) (by omega) (by omega) (lc_groom1 (io := 0) hJ hT hkk hlf hio k)
  · refine mj_tabIn (off := 658) (q := 941) dL_law_283 (by decide) (by decide) rfl (by decide) ?_
    exact mj_budget (mc1 := mc) (ms1 := ms) (by omega) (by omega) (lc_open1 (io := 0) hJ hT hkk hlf hio k)
  · refine mj_tabIn (off := 658) (q := 941) dL_law_283 (by decide) (by decide) rfl (by decide) ?_
    exact mj_budget (mc1 := mc) (ms1 := ms) (by omega) (by omega) (lc_open1 (io := 0) hJ hT hkk hlf hio k)
  · refine mj_tabIn (off := 710) (q := 993) dL_law_283 (by decide) (by decide) rfl (by decide) ?_
    exact mj_budget (mc1 := mc) (ms1 := ms) (by omega) (by omega) (lc_close1 (io := 0) hJ hT hkk hlf hio k)
  · refine mj_tabOut (q := 1031) dL_law_283 (Or.inr (by rw [nI_toInt (by omega)]; omega)) (by decide) ?_
    exact lc_default hJ hT k
set_option maxHeartbeats 400000 in
set_option maxRecDepth 100000 in
theorem lw_head {d lc rc L t mc ms : Nat} {n : Nat} {K : Nat → mj_K} {f : Nat → Nat → Int32} {g : Nat → Nat → Option Nat} {y : mV} {v5 v6 v7 v9 v10 : Int32} {w12 w13 w14 w15 w16 w17 w18 w19 w20 w21 w22 w23 w24 w25 w26 : Value} (hJ : LJ lc rc L (6 * t) n K f g y v5 v6 v7 v9 v10) (ht : t < 70) (k : lw_K d lc rc L (6 * t + 6) mc ms (nI t)) : mj_W m_law (d + 8) (7 + mc) (53 + ms) lw_QL 208 [.ref 0, .ref 1, .int (nI lc), .int (nI rc), .ref 144, .int v5, .int v6, .int v7, .ref 145, .int v9, .int v10, .int (nI t), w12, w13, w14, w15, w16, w17, w18, w19, w20, w21, w22, w23, w24, w25, w26] [] (n, K, f, g) := by
  have hJ0 := hJ
  obtain ⟨hn, k0, hL, hP, hN, rfl, rfl, h1lc, h1rc, -⟩ := hJ
  have kx := hP.1
  have hlc4 := hN.1
  have hrc6 := h1rc.2
  have hrc1 := h1rc.1
  refine mj_iload (i := 11) (q := 210) dL_law_208 rfl rfl ?_
  refine mj_num2 (v := nI 70) (q := 212) (by decide) dL_law_210 rfl ?_
  refine mj_icmp_ge (tgt := 1424) (q := 215) dL_law_212 (by decide) rfl (fun c_212 => absurd c_212 (nI_ge (a := t) (b := 70) ht (by decide))) (fun c_212 => ?_)
  refine mj_aload_n (i := 0) (q := 216) dL_law_215 rfl rfl rfl ?_
  refine mj_num2 (v := 11) (q := 218) (by decide) dL_law_216 rfl ?_
  refine mj_iload (i := 11) (q := 220) dL_law_218 rfl rfl ?_
  refine mj_num2 (v := 19) (q := 222) (by decide) dL_law_220 rfl ?_
  refine mj_irem (q := 223) (by decide) dL_law_222 rfl ?_
  refine mj_iadd (q := 224) dL_law_223 rfl ?_
  rw [n_time t ht]
  refine mj_cS2i (K := m_L_cell) (q := 227) dL_law_224 ln_L_22 ok_L_cell (Nat.le_of_ble_eq_true rfl) (by decide) rfl (s_cellS k0 hL (by omega)) (fun r_224 h1 hq => ?_)
  subst hq
  refine mj_iload (i := 11) (q := 229) dL_law_227 rfl rfl ?_
  refine mj_num2 (v := 19) (q := 231) (by decide) dL_law_229 rfl ?_
  refine mj_idiv (q := 232) (by decide) dL_law_231 rfl ?_
  refine mj_num1 (v := 4) (q := 233) rfl dL_law_232 rfl ?_
  refine mj_imul (q := 234) dL_law_233 rfl ?_
  refine mj_ishr (q := 235) dL_law_234 rfl ?_
  generalize r_224 >>> (nI t / 19 * 4 &&& 31) = vx
  refine mj_istore (i := 12) (q := 237) dL_law_235 rfl (by decide) rfl ?_
  dsimp only [List.set]
  refine mj_iload (i := 12) (q := 239) dL_law_237 rfl rfl ?_
  refine mj_num1 (v := 4) (q := 240) rfl dL_law_239 rfl ?_
  refine mj_ishr (q := 241) dL_law_240 rfl ?_
  refine mj_iload_n (i := 3) (q := 242) dL_law_241 rfl rfl rfl ?_
  refine mj_cS2i (K := m_L_below) (q := 245) dL_law_242 ln_L_9 ok_L_below (Nat.le_of_ble_eq_true rfl) (by decide) rfl (s_below (nI_nz (by omega) (by omega))) (fun r_242 h1 hq => ?_)
  obtain ⟨rfl, rfl⟩ := hq
  obtain ⟨kk, hkk, ekk⟩ := vBelow_rng (vx >>> (4 &&& 31)) (n := y.2.1) (by omega) (by omega)
  rw [ekk]
  refine mj_istore (i := 13) (q := 247) dL_law_245 rfl (by decide) rfl ?_
  dsimp only [List.set]
  refine mj_iload (i := 12) (q := 249) dL_law_247 rfl rfl ?_
  refine mj_num1 (v := 3) (q := 250) rfl dL_law_249 rfl ?_
  refine mj_ishr (q := 251) dL_law_250 rfl ?_
  refine mj_iload_n (i := 2) (q := 252) dL_law_251 rfl rfl rfl ?_
  refine mj_cS2i (K := m_L_below) (q := 255) dL_law_252 ln_L_9 ok_L_below (Nat.le_of_ble_eq_true rfl) (by decide) rfl (s_below (nI_nz (by omega) (by omega))) (fun r_252 h1 hq => ?_)
  obtain ⟨rfl, rfl⟩ := hq
  obtain ⟨lf, hlf, elf⟩ := vBelow_rng (vx >>> (3 &&& 31)) (n := y.1) (by omega) (by omega)
  rw [elf]
  refine mj_istore (i := 14) (q := 257) dL_law_255 rfl (by decide) rfl ?_
  dsimp only [List.set]
  refine mj_aload_n (i := 1) (q := 258) dL_law_257 rfl rfl rfl ?_
  refine mj_iload (i := 13) (q := 260) dL_law_258 rfl rfl ?_
  refine mj_num2 (v := nI 6) (q := 262) (by decide) dL_law_260 rfl ?_
  refine mj_cV2i (K := m_X5_ofRun) (q := 265) dL_law_262 ln_L_33 ok_X5_ofRun (Nat.le_of_ble_eq_true rfl) (by decide) (by assumption) rfl rfl (s_ofRun hP hN hkk (by decide)) (fun r_262 h1 hq => ?_)
  obtain ⟨rfl, rfl⟩ := hq
  refine mj_num1 (v := 1) (q := 266) rfl dL_law_265 rfl ?_
  refine mj_icmp_ne (tgt := 273) (q := 269) dL_law_266 (by decide) rfl (fun c_266 => ?_) (fun c_266 => ?_)
  · refine mj_num1 (v := 0) (q := 274) rfl dL_law_273 rfl ?_
    refine mj_istore (i := 15) (q := 276) dL_law_274 rfl (by decide) rfl ?_
    dsimp only [List.set]
    exact lw_sw0 hJ0 (by omega) hkk hlf (v01_z c_266) k
  · refine mj_num1 (v := 1) (q := 270) rfl dL_law_269 rfl ?_
    refine mj_goto (q := 274) dL_law_270 (by decide) ?_
    refine mj_istore (i := 15) (q := 276) dL_law_274 rfl (by decide) rfl ?_
    dsimp only [List.set]
    exact lw_sw1 hJ0 (by omega) hkk hlf (v01_nz c_266) k
set_option maxHeartbeats 400000 in
set_option maxRecDepth 100000 in
theorem lw_after {d lc rc L T t mc ms : Nat} {n : Nat} {K : Nat → mj_K} {f : Nat → Nat → Int32} {g : Nat → Nat → Option Nat} {y : mV} {v5 v6 v7 v9 v10 : Int32} {w12 w13 w14 w15 w16 w17 w18 w19 w20 w21 w22 w23 w24 w25 w26 : Value} (hJ : LJ lc rc L T n K f g y v5 v6 v7 v9 v10) (k : mj_W m_law (d + 8) mc ms lw_QL 208 [.ref 0, .ref 1, .int (nI lc), .int (nI rc), .ref 144, .int v5, .int v6, .int v7, .ref 145, .int v9, .int v10, .int (nI (t + 1)), w12, w13, w14, w15, w16, w17, w18, w19, w20, w21, w22, w23, w24, w25, w26] [] (n, K, f, g)) : mj_W m_law (d + 8) mc ms lw_QL 1358 [.ref 0, .ref 1, .int (nI lc), .int (nI rc), .ref 144, .int v5, .int v6, .int v7, .ref 145, .int v9, .int v10, .int (nI t), w12, w13, w14, w15, w16, w17, w18, w19, w20, w21, w22, w23, w24, w25, w26] [] (n, K, f, g) := by
  have hJ0 := hJ
  obtain ⟨hn, k0, hL, hP, hN, rfl, rfl, h1lc, h1rc, kar, kea, hY, ⟨b, hb, rfl, h7⟩, ⟨q, hq20, rfl, h8⟩, rfl, hE, rfl, rfl⟩ := hJ
  have kx := hP.1
  have hrc8 := hN.2.1
  refine mj_aload_n (i := 1) (q := 1359) dL_law_1358 rfl rfl rfl ?_
  refine mj_num1 (v := nI 5) (q := 1360) (by decide) dL_law_1359 rfl ?_
  refine mj_cV1i (K := m_X5_many) (q := 1363) dL_law_1360 ln_L_46 ok_X5_many (Nat.le_of_ble_eq_true rfl) (by decide) (by assumption) rfl rfl (s_many hP hN (by decide)) (fun r_1360 h1 hq => ?_)
  obtain ⟨rfl, rfl⟩ := hq
  refine mj_num2 (v := 50) (q := 1365) (by decide) dL_law_1363 rfl ?_
  refine mj_iload (i := 5) (q := 1367) dL_law_1365 rfl rfl ?_
  refine mj_isub (q := 1368) dL_law_1367 rfl ?_
  refine mj_icmp_ne (tgt := 1416) (q := 1371) dL_law_1368 (by decide) rfl (fun c_1368 => absurd h7 c_1368) (fun c_1368 => ?_)
  refine mj_aload_n (i := 1) (q := 1372) dL_law_1371 rfl rfl rfl ?_
  refine mj_num2 (v := nI 6) (q := 1374) (by decide) dL_law_1372 rfl ?_
  refine mj_cV1i (K := m_X5_many) (q := 1377) dL_law_1374 ln_L_46 ok_X5_many (Nat.le_of_ble_eq_true rfl) (by decide) (by assumption) rfl rfl (s_many hP hN (by decide)) (fun r_1374 h1 hq => ?_)
  obtain ⟨rfl, rfl⟩ := hq
  refine mj_num2 (v := 100) (q := 1379) (by decide) dL_law_1377 rfl ?_
  refine mj_num1 (v := 5) (q := 1380) rfl dL_law_1379 rfl ?_
  refine mj_iload (i := 6) (q := 1382) dL_law_1380 rfl rfl ?_
  refine mj_imul (q := 1383) dL_law_1382 rfl ?_
  refine mj_isub (q := 1384) dL_law_1383 rfl ?_
  refine mj_icmp_ne (tgt := 1416) (q := 1387) dL_law_1384 (by decide) rfl (fun c_1384 => absurd h8 c_1384) (fun c_1384 => ?_)
  refine mj_aload_n (i := 1) (q := 1388) dL_law_1387 rfl rfl rfl ?_
  refine mj_num2 (v := nI 12) (q := 1390) (by decide) dL_law_1388 rfl ?_
  refine mj_cV1i (K := m_X5_many) (q := 1393) dL_law_1390 ln_L_46 ok_X5_many (Nat.le_of_ble_eq_true rfl) (by decide) (by assumption) rfl rfl (s_many hP hN (by decide)) (fun r_1390 h1 hq => ?_)
  obtain ⟨rfl, rfl⟩ := hq
  refine mj_aload_n (i := 1) (q := 1394) dL_law_1393 rfl rfl rfl ?_
  refine mj_num2 (v := nI 13) (q := 1396) (by decide) dL_law_1394 rfl ?_
  refine mj_cV1i (K := m_X5_many) (q := 1399) dL_law_1396 ln_L_46 ok_X5_many (Nat.le_of_ble_eq_true rfl) (by decide) (by assumption) rfl rfl (s_many hP hN (by decide)) (fun r_1396 h1 hq => ?_)
  obtain ⟨rfl, rfl⟩ := hq
  refine mj_iadd (q := 1400) dL_law_1399 rfl ?_
  refine mj_iload (i := 10) (q := 1402) dL_law_1400 rfl rfl ?_
  refine mj_icmp_ne (tgt := 1416) (q := 1405) dL_law_1402 (by decide) rfl (fun c_1402 => absurd rfl c_1402) (fun c_1402 => ?_)
  refine mj_aload_n (i := 1) (q := 1406) dL_law_1405 rfl rfl rfl ?_
  refine mj_iload_n (i := 2) (q := 1407) dL_law_1406 rfl rfl rfl ?_
  refine mj_iload_n (i := 3) (q := 1408) dL_law_1407 rfl rfl rfl ?_
  refine mj_aload (i := 4) (q := 1410) dL_law_1408 rfl rfl ?_
  refine mj_cS4i (K := m_L_isSo) (q := 1413) dL_law_1410 ln_L_97 ok_L_isSo (Nat.le_of_ble_eq_true rfl) (by decide) rfl (s_isSoJ hP hN kar (Nat.le_refl _) (by omega) h1rc.1 h1rc.2 hY) (fun r_1410 h1 hq => ?_)
  obtain ⟨rfl, rfl⟩ := hq
  refine mj_if_ne (tgt := 1418) (q := 1416) dL_law_1413 (by decide) rfl (fun c_1413 => ?_) (fun c_1413 => absurd c_1413 (by decide))
  refine mj_iinc (i := 11) (q := 1421) dL_law_1418 rfl rfl (by decide) rfl ?_
  dsimp only [List.set]
  refine mj_goto (q := 208) dL_law_1421 (by decide) ?_
  rw [show nI t + Int32.ofInt 1 = nI (t + 1) from nI_1 t]
  exact k
set_option maxHeartbeats 400000 in
set_option maxRecDepth 100000 in
theorem lw_end {d lc rc L T t mc ms : Nat} {n : Nat} {K : Nat → mj_K} {f : Nat → Nat → Int32} {g : Nat → Nat → Option Nat} {y : mV} {v5 v6 v7 v9 v10 : Int32} {w12 w13 w14 w15 w16 w17 w18 w19 w20 w21 w22 w23 w24 w25 w26 : Value} (hJ : LJ lc rc L T n K f g y v5 v6 v7 v9 v10) : mj_W m_law (d + 8) mc ms lw_QL 1424 [.ref 0, .ref 1, .int (nI lc), .int (nI rc), .ref 144, .int v5, .int v6, .int v7, .ref 145, .int v9, .int v10, .int (nI t), w12, w13, w14, w15, w16, w17, w18, w19, w20, w21, w22, w23, w24, w25, w26] [] (n, K, f, g) := by
  have hJ0 := hJ
  obtain ⟨hn, k0, hL, hP, hN, rfl, rfl, h1lc, h1rc, kar, kea, hY, ⟨b, hb, rfl, h7⟩, ⟨q, hq20, rfl, h8⟩, rfl, hE, rfl, rfl⟩ := hJ
  have kx := hP.1
  have hrc8 := hN.2.1
  refine mj_aload_n (i := 1) (q := 1425) dL_law_1424 rfl rfl rfl ?_
  refine mj_cV0l (K := m_X5_digest) (q := 1428) dL_law_1425 ln_L_101 ok_X5_digest (Nat.le_of_ble_eq_true rfl) (by decide) (by assumption) rfl rfl (s_digest hP hN) (fun r_1425 h1 hq => ?_)
  obtain ⟨rfl, f1, rfl, hFr⟩ := hq
  have hN1 : MN f1 2 y := hN.keep hFr (Or.inl (by decide))
  have hY1 : JY (f1 144) y T := by rw [hFr 144 (Or.inr (by decide))]; exact hY
  refine mj_lstore (i := 11) (q := 1430) dL_law_1428 rfl (by decide) rfl ?_
  dsimp only [List.set]
  refine mj_aload_n (i := 1) (q := 1431) dL_law_1430 rfl rfl rfl ?_
  refine mj_iload_n (i := 2) (q := 1432) dL_law_1431 rfl rfl rfl ?_
  refine mj_iload_n (i := 3) (q := 1433) dL_law_1432 rfl rfl rfl ?_
  refine mj_aload (i := 4) (q := 1435) dL_law_1433 rfl rfl ?_
  refine mj_cS4i (K := m_L_isSo) (q := 1438) dL_law_1435 ln_L_97 ok_L_isSo (Nat.le_of_ble_eq_true rfl) (by decide) rfl (s_isSoJ hP hN1 kar (Nat.le_refl _) (by omega) h1rc.1 h1rc.2 hY1) (fun r_1435 h1 hq => ?_)
  obtain ⟨rfl, rfl⟩ := hq
  refine mj_if_eq (tgt := 1455) (q := 1441) dL_law_1438 (by decide) rfl (fun c_1438 => absurd c_1438 (by decide)) (fun c_1438 => ?_)
  refine mj_aload_n (i := 1) (q := 1442) dL_law_1441 rfl rfl rfl ?_
  refine mj_cV0l (K := m_X5_digest) (q := 1445) dL_law_1442 ln_L_101 ok_X5_digest (Nat.le_of_ble_eq_true rfl) (by decide) (by assumption) rfl rfl (s_digest hP hN1) (fun r_1442 h1 hq => ?_)
  obtain ⟨rfl, f2, rfl, hFr2⟩ := hq
  refine mj_lload (i := 11) (q := 1447) dL_law_1445 rfl rfl ?_
  refine mj_lcmp (q := 1448) dL_law_1447 rfl ?_
  refine mj_if_ne (tgt := 1455) (q := 1451) dL_law_1448 (by decide) rfl (fun c_1448 => absurd (lg_self _) c_1448) (fun c_1448 => ?_)
  refine mj_num1 (v := 1) (q := 1452) rfl dL_law_1451 rfl ?_
  refine mj_goto (q := 1456) dL_law_1452 (by decide) ?_
  exact mj_ireturn dL_law_1456 ⟨_, rfl, rfl⟩ rfl
set_option maxHeartbeats 400000 in
set_option maxRecDepth 100000 in
theorem lw_loop {d lc rc L : Nat} : ∀ (j t : Nat) (n : Nat) (K : Nat → mj_K) (f : Nat → Nat → Int32) (g : Nat → Nat → Option Nat) (y : mV) (v5 v6 v7 v9 v10 : Int32) (w12 w13 w14 w15 w16 w17 w18 w19 w20 w21 w22 w23 w24 w25 w26 : Value), t + j = 70 → LJ lc rc L (6 * t) n K f g y v5 v6 v7 v9 v10 → mj_W m_law (d + 8) (7 * j) (53 * j) lw_QL 208 [.ref 0, .ref 1, .int (nI lc), .int (nI rc), .ref 144, .int v5, .int v6, .int v7, .ref 145, .int v9, .int v10, .int (nI t), w12, w13, w14, w15, w16, w17, w18, w19, w20, w21, w22, w23, w24, w25, w26] [] (n, K, f, g) := by
  intro j
  induction j with
  | zero =>
    intro t n K f g y v5 v6 v7 v9 v10 w12 w13 w14 w15 w16 w17 w18 w19 w20 w21 w22 w23 w24 w25 w26 hij hJ
    have hi : t = 70 := by omega
    subst hi
    refine mj_iload (i := 11) (q := 210) dL_law_208 rfl rfl ?_
    refine mj_num2 (v := nI 70) (q := 212) (by decide) dL_law_210 rfl ?_
    refine mj_icmp_ge (tgt := 1424) (q := 215) dL_law_212 (by decide) rfl (fun c_212 => ?_) (fun c_212 => absurd (nI_le (a := 70) (b := 70) (Nat.le_refl _) (by decide)) c_212)
    exact lw_end (t := 70) hJ
  | succ j ih =>
    intro t n K f g y v5 v6 v7 v9 v10 w12 w13 w14 w15 w16 w17 w18 w19 w20 w21 w22 w23 w24 w25 w26 hij hJ
    refine mj_budget (mc1 := 7 + 7 * j) (ms1 := 53 + 53 * j) (by omega) (by omega) ?_
    refine lw_head hJ (by omega) (fun n1 K1 f1 g1 y1 u5 u6 u7 u9 u10 u12 u13 u14 u15 u16 u17 u18 u19 u20 u21 u22 u23 u24 u25 u26 hJ1 => ?_)
    exact lw_after hJ1 (ih (t + 1) n1 K1 f1 g1 y1 u5 u6 u7 u9 u10 _ _ _ _ _ _ _ _ _ _ _ _ _ _ _ (by omega) hJ1)
