/-! THE LAW'S isSo: what it asks of a run -/
def vSumD (x : sV) : Nat → Int32
  | 0 => 0
  | l + 1 => vSumD x l + x.2.2.2.1 l
def vSoRun (y : mV) (i : Nat) (area : Int32) : Prop :=
  (∀ l, l < (y.2.2.2.2 i).1.1 → 1 ≤ vOfLayer y i l 0 ∧ vOfLayer y i l 0 ≤ 300 ∧ 0 ≤ vOfLayer y i l 1 ∧ vOfLayer y i l 1 ≤ 100 ∧ 0 ≤ vOfLayer y i l 2 ∧ vOfLayer y i l 2 ≤ 3) ∧
  vOfRun y i 2 = vSumD (y.2.2.2.2 i).1 (y.2.2.2.2 i).1.1 ∧ (vOfRun y i 3 = 1 → ¬ nI (y.2.2.2.2 i).1.1 = 0) ∧ 0 ≤ vOfRun y i 4 ∧ vOfRun y i 4 ≤ 999 ∧ (vOfRun y i 4 = 0 ↔ vOfRun y i 5 = -1) ∧
  (vOfRun y i 5 < nI (y.2.2.2.2 i).1.1 - 1 ∨ vOfRun y i 5 = -1) ∧ 0 ≤ vOfRun y i 10 ∧ vOfRun y i 10 < area ∧ 0 ≤ vOfRun y i 8 ∧ vOfRun y i 8 ≤ 7 ∧ (¬ vOfRun y i 7 ≤ 0 → vOfRun y i 8 = 1 ∨ vOfRun y i 8 = 2)

set_option maxHeartbeats 4000000 in
set_option maxRecDepth 100000 in
theorem so_run {d x m ar i L : Nat} {al sl op ri us to v1 v2 : Int32} {Q : mj_Q} {v11 v12 v13 v14 : Value} {n : Nat} {K : Nat → mj_K} {f : Nat → Nat → Int32} {g : Nat → Nat → Option Nat} {y : mV} (hP : LPn K g x m) (hN : MN f m y) (hi : i < y.2.1) (hK : K ar = (0, L, 0)) (hiL : i < L) (hL9 : L ≤ 1000) (hS : vSoRun y i (f ar i)) (k : ∀ v14, mj_W m_L_isSo (d + 6) 0 0 Q 21 [.ref x, .int v1, .int v2, .ref ar, .int (al + vSumD (y.2.2.2.2 i).1 (y.2.2.2.2 i).1.1 * f ar i), .int (sl + vOfRun y i 12), .int (op + vOfRun y i 6), .int ri, .int (us + vOfRun y i 11), .int (to + f ar i), .int (nI (i + 1)), .int (nI (y.2.2.2.2 i).1.1), .int (vSumD (y.2.2.2.2 i).1 (y.2.2.2.2 i).1.1), .int (vOfRun y i 5), v14] [] (n, K, f, g)) : mj_W m_L_isSo (d + 6) 0 0 Q 27 [.ref x, .int v1, .int v2, .ref ar, .int al, .int sl, .int op, .int ri, .int us, .int to, .int (nI i), v11, v12, v13, v14] [] (n, K, f, g) := by
  have hP2 := hP
  have hN2 := hN
  have kx := hP.1
  obtain ⟨lc, rc, mu, ls, rs⟩ := y
  have hi : i < rc := hi
  have hc8 : (rs i).1.1 ≤ 8 := (hN2.2.2.2.2.2.2.1 i hi).1.1
  obtain ⟨hla, hdeep, hwet, hr0, hr9, hiff, hsh, hp0, hp1, hb0, hb7, hdud⟩ := hS
  dsimp only at hla hdeep hwet hr0 hr9 hiff hsh hp0 hp1 hb0 hb7 hdud
  have hpos : ¬ (nI (rs i).1.1 < 0) := nI_pos (by omega)
  have k377 : ∀ v14, mj_W m_L_isSo (d + 6) 0 0 Q 377 [.ref x, .int v1, .int v2, .ref ar, .int (al + vSumD (rs i).1 (rs i).1.1 * f ar i), .int (sl + vOfRun (lc, rc, mu, ls, rs) i 12), .int (op + vOfRun (lc, rc, mu, ls, rs) i 6), .int ri, .int (us + vOfRun (lc, rc, mu, ls, rs) i 11), .int (to + f ar i), .int (nI i), .int (nI (rs i).1.1), .int (vSumD (rs i).1 (rs i).1.1), .int (vOfRun (lc, rc, mu, ls, rs) i 5), v14] [] (n, K, f, g) := by
    intro v14
    refine mj_aload_n (i := 0) (q := 378) dL_isSo_377 rfl rfl rfl ?_
    refine mj_iload (i := 10) (q := 380) dL_isSo_378 rfl rfl ?_
    refine mj_num2 (v := nI 7) (q := 382) (by decide) dL_isSo_380 rfl ?_
    refine mj_cV2i (K := m_X5_ofRun) (q := 385) dL_isSo_382 ln_L_33 ok_X5_ofRun (Nat.le_of_ble_eq_true rfl) (by decide) (by assumption) rfl rfl (s_ofRun hP2 hN2 hi (by decide)) (fun r_382 h1 hq => ?_)
    obtain ⟨rfl, rfl⟩ := hq
    refine mj_if_le (tgt := 414) (q := 388) dL_isSo_385 (by decide) rfl (fun c_385 => ?_) (fun c_385 => ?_)
    · refine mj_iinc (i := 10) (q := 417) dL_isSo_414 rfl rfl (by decide) rfl ?_
      dsimp only [List.set]
      refine mj_goto (q := 21) dL_isSo_417 (by decide) ?_
      rw [show nI i + Int32.ofInt 1 = nI (i + 1) from nI_1 i]
      exact k v14
    · refine mj_aload_n (i := 0) (q := 389) dL_isSo_388 rfl rfl rfl ?_
      refine mj_iload (i := 10) (q := 391) dL_isSo_389 rfl rfl ?_
      refine mj_num2 (v := nI 8) (q := 393) (by decide) dL_isSo_391 rfl ?_
      refine mj_cV2i (K := m_X5_ofRun) (q := 396) dL_isSo_393 ln_L_33 ok_X5_ofRun (Nat.le_of_ble_eq_true rfl) (by decide) (by assumption) rfl rfl (s_ofRun hP2 hN2 hi (by decide)) (fun r_393 h1 hq => ?_)
      obtain ⟨rfl, rfl⟩ := hq
      refine mj_num1 (v := 1) (q := 397) rfl dL_isSo_396 rfl ?_
      refine mj_icmp_eq (tgt := 414) (q := 400) dL_isSo_397 (by decide) rfl (fun c_397 => ?_) (fun c_397 => ?_)
      · refine mj_iinc (i := 10) (q := 417) dL_isSo_414 rfl rfl (by decide) rfl ?_
        dsimp only [List.set]
        refine mj_goto (q := 21) dL_isSo_417 (by decide) ?_
        rw [show nI i + Int32.ofInt 1 = nI (i + 1) from nI_1 i]
        exact k v14
      · refine mj_aload_n (i := 0) (q := 401) dL_isSo_400 rfl rfl rfl ?_
        refine mj_iload (i := 10) (q := 403) dL_isSo_401 rfl rfl ?_
        refine mj_num2 (v := nI 8) (q := 405) (by decide) dL_isSo_403 rfl ?_
        refine mj_cV2i (K := m_X5_ofRun) (q := 408) dL_isSo_405 ln_L_33 ok_X5_ofRun (Nat.le_of_ble_eq_true rfl) (by decide) (by assumption) rfl rfl (s_ofRun hP2 hN2 hi (by decide)) (fun r_405 h1 hq => ?_)
        obtain ⟨rfl, rfl⟩ := hq
        refine mj_num1 (v := 2) (q := 409) rfl dL_isSo_408 rfl ?_
        refine mj_icmp_eq (tgt := 414) (q := 412) dL_isSo_409 (by decide) rfl (fun c_409 => ?_) (fun c_409 => (hdud c_385).elim (fun z => absurd z c_397) (fun z => absurd z c_409))
        refine mj_iinc (i := 10) (q := 417) dL_isSo_414 rfl rfl (by decide) rfl ?_
        dsimp only [List.set]
        refine mj_goto (q := 21) dL_isSo_417 (by decide) ?_
        rw [show nI i + Int32.ofInt 1 = nI (i + 1) from nI_1 i]
        exact k v14
  have k325 : ∀ v14, mj_W m_L_isSo (d + 6) 0 0 Q 325 [.ref x, .int v1, .int v2, .ref ar, .int (al + vSumD (rs i).1 (rs i).1.1 * f ar i), .int (sl + vOfRun (lc, rc, mu, ls, rs) i 12), .int (op + vOfRun (lc, rc, mu, ls, rs) i 6), .int ri, .int (us + vOfRun (lc, rc, mu, ls, rs) i 11), .int (to + f ar i), .int (nI i), .int (nI (rs i).1.1), .int (vSumD (rs i).1 (rs i).1.1), .int (vOfRun (lc, rc, mu, ls, rs) i 5), v14] [] (n, K, f, g) := by
    intro v14
    refine mj_aload_n (i := 0) (q := 326) dL_isSo_325 rfl rfl rfl ?_
    refine mj_iload (i := 10) (q := 328) dL_isSo_326 rfl rfl ?_
    refine mj_num2 (v := nI 10) (q := 330) (by decide) dL_isSo_328 rfl ?_
    refine mj_cV2i (K := m_X5_ofRun) (q := 333) dL_isSo_330 ln_L_33 ok_X5_ofRun (Nat.le_of_ble_eq_true rfl) (by decide) (by assumption) rfl rfl (s_ofRun hP2 hN2 hi (by decide)) (fun r_330 h1 hq => ?_)
    obtain ⟨rfl, rfl⟩ := hq
    refine mj_if_lt (tgt := 375) (q := 336) dL_isSo_333 (by decide) rfl (fun c_333 => absurd c_333 (Int32.not_lt.mpr hp0)) (fun c_333 => ?_)
    refine mj_aload_n (i := 0) (q := 337) dL_isSo_336 rfl rfl rfl ?_
    refine mj_iload (i := 10) (q := 339) dL_isSo_337 rfl rfl ?_
    refine mj_num2 (v := nI 10) (q := 341) (by decide) dL_isSo_339 rfl ?_
    refine mj_cV2i (K := m_X5_ofRun) (q := 344) dL_isSo_341 ln_L_33 ok_X5_ofRun (Nat.le_of_ble_eq_true rfl) (by decide) (by assumption) rfl rfl (s_ofRun hP2 hN2 hi (by decide)) (fun r_341 h1 hq => ?_)
    obtain ⟨rfl, rfl⟩ := hq
    refine mj_aload_n (i := 3) (q := 345) dL_isSo_344 rfl rfl rfl ?_
    refine mj_iload (i := 10) (q := 347) dL_isSo_345 rfl rfl ?_
    refine mj_ialdn (q := 348) dL_isSo_347 rfl (by assumption) ⟨hiL, hL9⟩ ?_
    refine mj_icmp_ge (tgt := 375) (q := 351) dL_isSo_348 (by decide) rfl (fun c_348 => absurd c_348 (Int32.not_le.mpr hp1)) (fun c_348 => ?_)
    refine mj_aload_n (i := 0) (q := 352) dL_isSo_351 rfl rfl rfl ?_
    refine mj_iload (i := 10) (q := 354) dL_isSo_352 rfl rfl ?_
    refine mj_num2 (v := nI 8) (q := 356) (by decide) dL_isSo_354 rfl ?_
    refine mj_cV2i (K := m_X5_ofRun) (q := 359) dL_isSo_356 ln_L_33 ok_X5_ofRun (Nat.le_of_ble_eq_true rfl) (by decide) (by assumption) rfl rfl (s_ofRun hP2 hN2 hi (by decide)) (fun r_356 h1 hq => ?_)
    obtain ⟨rfl, rfl⟩ := hq
    refine mj_if_lt (tgt := 375) (q := 362) dL_isSo_359 (by decide) rfl (fun c_359 => absurd c_359 (Int32.not_lt.mpr hb0)) (fun c_359 => ?_)
    refine mj_aload_n (i := 0) (q := 363) dL_isSo_362 rfl rfl rfl ?_
    refine mj_iload (i := 10) (q := 365) dL_isSo_363 rfl rfl ?_
    refine mj_num2 (v := nI 8) (q := 367) (by decide) dL_isSo_365 rfl ?_
    refine mj_cV2i (K := m_X5_ofRun) (q := 370) dL_isSo_367 ln_L_33 ok_X5_ofRun (Nat.le_of_ble_eq_true rfl) (by decide) (by assumption) rfl rfl (s_ofRun hP2 hN2 hi (by decide)) (fun r_367 h1 hq => ?_)
    obtain ⟨rfl, rfl⟩ := hq
    refine mj_num2 (v := 7) (q := 372) (by decide) dL_isSo_370 rfl ?_
    refine mj_icmp_le (tgt := 377) (q := 375) dL_isSo_372 (by decide) rfl (fun c_372 => ?_) (fun c_372 => absurd hb7 c_372)
    exact k377 v14
  have k310 : ∀ v14, mj_W m_L_isSo (d + 6) 0 0 Q 310 [.ref x, .int v1, .int v2, .ref ar, .int (al + vSumD (rs i).1 (rs i).1.1 * f ar i), .int (sl + vOfRun (lc, rc, mu, ls, rs) i 12), .int (op + vOfRun (lc, rc, mu, ls, rs) i 6), .int ri, .int (us + vOfRun (lc, rc, mu, ls, rs) i 11), .int (to + f ar i), .int (nI i), .int (nI (rs i).1.1), .int (vSumD (rs i).1 (rs i).1.1), .int (vOfRun (lc, rc, mu, ls, rs) i 5), v14] [] (n, K, f, g) := by
    intro v14
    refine mj_iload (i := 13) (q := 312) dL_isSo_310 rfl rfl ?_
    refine mj_iload (i := 11) (q := 314) dL_isSo_312 rfl rfl ?_
    refine mj_num1 (v := 1) (q := 315) rfl dL_isSo_314 rfl ?_
    refine mj_isub (q := 316) dL_isSo_315 rfl ?_
    refine mj_icmp_lt (tgt := 325) (q := 319) dL_isSo_316 (by decide) rfl (fun c_316 => ?_) (fun c_316 => ?_)
    · exact k325 v14
    · refine mj_iload (i := 13) (q := 321) dL_isSo_319 rfl rfl ?_
      refine mj_num1 (v := (-1)) (q := 322) rfl dL_isSo_321 rfl ?_
      refine mj_icmp_ne (tgt := 375) (q := 325) dL_isSo_322 (by decide) rfl (fun c_322 => absurd (hsh.resolve_left c_316) c_322) (fun c_322 => ?_)
      exact k325 v14
  have k258 : ∀ v14, mj_W m_L_isSo (d + 6) 0 0 Q 258 [.ref x, .int v1, .int v2, .ref ar, .int (al + vSumD (rs i).1 (rs i).1.1 * f ar i), .int (sl + vOfRun (lc, rc, mu, ls, rs) i 12), .int (op + vOfRun (lc, rc, mu, ls, rs) i 6), .int ri, .int (us + vOfRun (lc, rc, mu, ls, rs) i 11), .int (to + f ar i), .int (nI i), .int (nI (rs i).1.1), .int (vSumD (rs i).1 (rs i).1.1), .int (vOfRun (lc, rc, mu, ls, rs) i 5), v14] [] (n, K, f, g) := by
    intro v14
    refine mj_aload_n (i := 0) (q := 259) dL_isSo_258 rfl rfl rfl ?_
    refine mj_iload (i := 10) (q := 261) dL_isSo_259 rfl rfl ?_
    refine mj_num1 (v := nI 4) (q := 262) (by decide) dL_isSo_261 rfl ?_
    refine mj_cV2i (K := m_X5_ofRun) (q := 265) dL_isSo_262 ln_L_33 ok_X5_ofRun (Nat.le_of_ble_eq_true rfl) (by decide) (by assumption) rfl rfl (s_ofRun hP2 hN2 hi (by decide)) (fun r_262 h1 hq => ?_)
    obtain ⟨rfl, rfl⟩ := hq
    refine mj_if_lt (tgt := 375) (q := 268) dL_isSo_265 (by decide) rfl (fun c_265 => absurd c_265 (Int32.not_lt.mpr hr0)) (fun c_265 => ?_)
    refine mj_aload_n (i := 0) (q := 269) dL_isSo_268 rfl rfl rfl ?_
    refine mj_iload (i := 10) (q := 271) dL_isSo_269 rfl rfl ?_
    refine mj_num1 (v := nI 4) (q := 272) (by decide) dL_isSo_271 rfl ?_
    refine mj_cV2i (K := m_X5_ofRun) (q := 275) dL_isSo_272 ln_L_33 ok_X5_ofRun (Nat.le_of_ble_eq_true rfl) (by decide) (by assumption) rfl rfl (s_ofRun hP2 hN2 hi (by decide)) (fun r_272 h1 hq => ?_)
    obtain ⟨rfl, rfl⟩ := hq
    refine mj_num3 (v := 999) (q := 278) (by decide) dL_isSo_275 rfl ?_
    refine mj_icmp_gt (tgt := 375) (q := 281) dL_isSo_278 (by decide) rfl (fun c_278 => absurd c_278 (Int32.not_lt.mpr hr9)) (fun c_278 => ?_)
    refine mj_aload_n (i := 0) (q := 282) dL_isSo_281 rfl rfl rfl ?_
    refine mj_iload (i := 10) (q := 284) dL_isSo_282 rfl rfl ?_
    refine mj_num1 (v := nI 4) (q := 285) (by decide) dL_isSo_284 rfl ?_
    refine mj_cV2i (K := m_X5_ofRun) (q := 288) dL_isSo_285 ln_L_33 ok_X5_ofRun (Nat.le_of_ble_eq_true rfl) (by decide) (by assumption) rfl rfl (s_ofRun hP2 hN2 hi (by decide)) (fun r_285 h1 hq => ?_)
    obtain ⟨rfl, rfl⟩ := hq
    refine mj_if_ne (tgt := 295) (q := 291) dL_isSo_288 (by decide) rfl (fun c_288 => ?_) (fun c_288 => ?_)
    · refine mj_num1 (v := 0) (q := 296) rfl dL_isSo_295 rfl ?_
      refine mj_iload (i := 13) (q := 298) dL_isSo_296 rfl rfl ?_
      refine mj_num1 (v := (-1)) (q := 299) rfl dL_isSo_298 rfl ?_
      refine mj_icmp_ne (tgt := 306) (q := 302) dL_isSo_299 (by decide) rfl (fun c_299 => ?_) (fun c_299 => ?_)
      · refine mj_num1 (v := 0) (q := 307) rfl dL_isSo_306 rfl ?_
        refine mj_icmp_ne (tgt := 375) (q := 310) dL_isSo_307 (by decide) rfl (fun c_307 => absurd rfl c_307) (fun c_307 => ?_)
        exact k310 v14
      · refine mj_num1 (v := 1) (q := 303) rfl dL_isSo_302 rfl ?_
        refine mj_goto (q := 307) dL_isSo_303 (by decide) ?_
        refine mj_icmp_ne (tgt := 375) (q := 310) dL_isSo_307 (by decide) rfl (fun c_307 => absurd (hiff.mpr c_299) c_288) (fun c_307 => ?_)
        exact absurd c_307 (by decide)
    · refine mj_num1 (v := 1) (q := 292) rfl dL_isSo_291 rfl ?_
      refine mj_goto (q := 296) dL_isSo_292 (by decide) ?_
      refine mj_iload (i := 13) (q := 298) dL_isSo_296 rfl rfl ?_
      refine mj_num1 (v := (-1)) (q := 299) rfl dL_isSo_298 rfl ?_
      refine mj_icmp_ne (tgt := 306) (q := 302) dL_isSo_299 (by decide) rfl (fun c_299 => ?_) (fun c_299 => ?_)
      · refine mj_num1 (v := 0) (q := 307) rfl dL_isSo_306 rfl ?_
        refine mj_icmp_ne (tgt := 375) (q := 310) dL_isSo_307 (by decide) rfl (fun c_307 => absurd (hiff.mp c_288) c_299) (fun c_307 => ?_)
        exact absurd c_307 (by decide)
      · refine mj_num1 (v := 1) (q := 303) rfl dL_isSo_302 rfl ?_
        refine mj_goto (q := 307) dL_isSo_303 (by decide) ?_
        refine mj_icmp_ne (tgt := 375) (q := 310) dL_isSo_307 (by decide) rfl (fun c_307 => absurd rfl c_307) (fun c_307 => ?_)
        exact k310 v14
  have k161 : ∀ v14, mj_W m_L_isSo (d + 6) 0 0 Q 161 [.ref x, .int v1, .int v2, .ref ar, .int al, .int sl, .int op, .int ri, .int us, .int to, .int (nI i), .int (nI (rs i).1.1), .int (vSumD (rs i).1 (rs i).1.1), .int (nI (rs i).1.1), v14] [] (n, K, f, g) := by
    intro v14
    refine mj_aload_n (i := 0) (q := 162) dL_isSo_161 rfl rfl rfl ?_
    refine mj_iload (i := 10) (q := 164) dL_isSo_162 rfl rfl ?_
    refine mj_num1 (v := nI 5) (q := 165) (by decide) dL_isSo_164 rfl ?_
    refine mj_cV2i (K := m_X5_ofRun) (q := 168) dL_isSo_165 ln_L_33 ok_X5_ofRun (Nat.le_of_ble_eq_true rfl) (by decide) (by assumption) rfl rfl (s_ofRun hP2 hN2 hi (by decide)) (fun r_165 h1 hq => ?_)
    obtain ⟨rfl, rfl⟩ := hq
    refine mj_istore (i := 13) (q := 170) dL_isSo_168 rfl (by decide) rfl ?_
    dsimp only [List.set]
    refine mj_iload (i := 4) (q := 172) dL_isSo_170 rfl rfl ?_
    refine mj_iload (i := 12) (q := 174) dL_isSo_172 rfl rfl ?_
    refine mj_aload_n (i := 3) (q := 175) dL_isSo_174 rfl rfl rfl ?_
    refine mj_iload (i := 10) (q := 177) dL_isSo_175 rfl rfl ?_
    refine mj_ialdn (q := 178) dL_isSo_177 rfl (by assumption) ⟨hiL, hL9⟩ ?_
    refine mj_imul (q := 179) dL_isSo_178 rfl ?_
    refine mj_iadd (q := 180) dL_isSo_179 rfl ?_
    refine mj_istore (i := 4) (q := 182) dL_isSo_180 rfl (by decide) rfl ?_
    dsimp only [List.set]
    refine mj_iload (i := 9) (q := 184) dL_isSo_182 rfl rfl ?_
    refine mj_aload_n (i := 3) (q := 185) dL_isSo_184 rfl rfl rfl ?_
    refine mj_iload (i := 10) (q := 187) dL_isSo_185 rfl rfl ?_
    refine mj_ialdn (q := 188) dL_isSo_187 rfl (by assumption) ⟨hiL, hL9⟩ ?_
    refine mj_iadd (q := 189) dL_isSo_188 rfl ?_
    refine mj_istore (i := 9) (q := 191) dL_isSo_189 rfl (by decide) rfl ?_
    dsimp only [List.set]
    refine mj_iload (i := 5) (q := 193) dL_isSo_191 rfl rfl ?_
    refine mj_aload_n (i := 0) (q := 194) dL_isSo_193 rfl rfl rfl ?_
    refine mj_iload (i := 10) (q := 196) dL_isSo_194 rfl rfl ?_
    refine mj_num2 (v := nI 12) (q := 198) (by decide) dL_isSo_196 rfl ?_
    refine mj_cV2i (K := m_X5_ofRun) (q := 201) dL_isSo_198 ln_L_33 ok_X5_ofRun (Nat.le_of_ble_eq_true rfl) (by decide) (by assumption) rfl rfl (s_ofRun hP2 hN2 hi (by decide)) (fun r_198 h1 hq => ?_)
    obtain ⟨rfl, rfl⟩ := hq
    refine mj_iadd (q := 202) dL_isSo_201 rfl ?_
    refine mj_istore (i := 5) (q := 204) dL_isSo_202 rfl (by decide) rfl ?_
    dsimp only [List.set]
    refine mj_iload (i := 6) (q := 206) dL_isSo_204 rfl rfl ?_
    refine mj_aload_n (i := 0) (q := 207) dL_isSo_206 rfl rfl rfl ?_
    refine mj_iload (i := 10) (q := 209) dL_isSo_207 rfl rfl ?_
    refine mj_num2 (v := nI 6) (q := 211) (by decide) dL_isSo_209 rfl ?_
    refine mj_cV2i (K := m_X5_ofRun) (q := 214) dL_isSo_211 ln_L_33 ok_X5_ofRun (Nat.le_of_ble_eq_true rfl) (by decide) (by assumption) rfl rfl (s_ofRun hP2 hN2 hi (by decide)) (fun r_211 h1 hq => ?_)
    obtain ⟨rfl, rfl⟩ := hq
    refine mj_iadd (q := 215) dL_isSo_214 rfl ?_
    refine mj_istore (i := 6) (q := 217) dL_isSo_215 rfl (by decide) rfl ?_
    dsimp only [List.set]
    refine mj_iload (i := 8) (q := 219) dL_isSo_217 rfl rfl ?_
    refine mj_aload_n (i := 0) (q := 220) dL_isSo_219 rfl rfl rfl ?_
    refine mj_iload (i := 10) (q := 222) dL_isSo_220 rfl rfl ?_
    refine mj_num2 (v := nI 11) (q := 224) (by decide) dL_isSo_222 rfl ?_
    refine mj_cV2i (K := m_X5_ofRun) (q := 227) dL_isSo_224 ln_L_33 ok_X5_ofRun (Nat.le_of_ble_eq_true rfl) (by decide) (by assumption) rfl rfl (s_ofRun hP2 hN2 hi (by decide)) (fun r_224 h1 hq => ?_)
    obtain ⟨rfl, rfl⟩ := hq
    refine mj_iadd (q := 228) dL_isSo_227 rfl ?_
    refine mj_istore (i := 8) (q := 230) dL_isSo_228 rfl (by decide) rfl ?_
    dsimp only [List.set]
    refine mj_aload_n (i := 0) (q := 231) dL_isSo_230 rfl rfl rfl ?_
    refine mj_iload (i := 10) (q := 233) dL_isSo_231 rfl rfl ?_
    refine mj_num1 (v := nI 2) (q := 234) (by decide) dL_isSo_233 rfl ?_
    refine mj_cV2i (K := m_X5_ofRun) (q := 237) dL_isSo_234 ln_L_33 ok_X5_ofRun (Nat.le_of_ble_eq_true rfl) (by decide) (by assumption) rfl rfl (s_ofRun hP2 hN2 hi (by decide)) (fun r_234 h1 hq => ?_)
    obtain ⟨rfl, rfl⟩ := hq
    refine mj_iload (i := 12) (q := 239) dL_isSo_237 rfl rfl ?_
    refine mj_icmp_ne (tgt := 375) (q := 242) dL_isSo_239 (by decide) rfl (fun c_239 => absurd hdeep c_239) (fun c_239 => ?_)
    refine mj_aload_n (i := 0) (q := 243) dL_isSo_242 rfl rfl rfl ?_
    refine mj_iload (i := 10) (q := 245) dL_isSo_243 rfl rfl ?_
    refine mj_num1 (v := nI 3) (q := 246) (by decide) dL_isSo_245 rfl ?_
    refine mj_cV2i (K := m_X5_ofRun) (q := 249) dL_isSo_246 ln_L_33 ok_X5_ofRun (Nat.le_of_ble_eq_true rfl) (by decide) (by assumption) rfl rfl (s_ofRun hP2 hN2 hi (by decide)) (fun r_246 h1 hq => ?_)
    obtain ⟨rfl, rfl⟩ := hq
    refine mj_num1 (v := 1) (q := 250) rfl dL_isSo_249 rfl ?_
    refine mj_icmp_ne (tgt := 258) (q := 253) dL_isSo_250 (by decide) rfl (fun c_250 => ?_) (fun c_250 => ?_)
    · exact k258 v14
    · refine mj_iload (i := 11) (q := 255) dL_isSo_253 rfl rfl ?_
      refine mj_if_eq (tgt := 375) (q := 258) dL_isSo_255 (by decide) rfl (fun c_255 => absurd c_255 (hwet c_250)) (fun c_255 => ?_)
      exact k258 v14
  have kl : ∀ (j l : Nat) (v14 : Value), l + j = (rs i).1.1 → mj_W m_L_isSo (d + 6) 0 0 Q 56 [.ref x, .int v1, .int v2, .ref ar, .int al, .int sl, .int op, .int ri, .int us, .int to, .int (nI i), .int (nI (rs i).1.1), .int (vSumD (rs i).1 l), .int (nI l), v14] [] (n, K, f, g) := by
    intro j
    induction j with
    | zero =>
      intro l v14 hl
      have hl : l = (rs i).1.1 := by omega
      subst hl
      refine mj_iload (i := 13) (q := 58) dL_isSo_56 rfl rfl ?_
      refine mj_iload (i := 11) (q := 60) dL_isSo_58 rfl rfl ?_
      refine mj_icmp_ge (tgt := 161) (q := 63) dL_isSo_60 (by decide) rfl (fun c_60 => ?_) (fun c_60 => absurd (Int32.le_refl _) c_60)
      exact k161 v14
    | succ j ih =>
      intro l v14 hlj
      have hl : l < (rs i).1.1 := by omega
      obtain ⟨a1, a2, a3, a4, a5, a6⟩ := hla l hl
      refine mj_iload (i := 13) (q := 58) dL_isSo_56 rfl rfl ?_
      refine mj_iload (i := 11) (q := 60) dL_isSo_58 rfl rfl ?_
      refine mj_icmp_ge (tgt := 161) (q := 63) dL_isSo_60 (by decide) rfl (fun c_60 => absurd c_60 (nI_ge (a := l) (b := (rs i).1.1) hl (by omega))) (fun c_60 => ?_)
      refine mj_aload_n (i := 0) (q := 64) dL_isSo_63 rfl rfl rfl ?_
      refine mj_iload (i := 10) (q := 66) dL_isSo_64 rfl rfl ?_
      refine mj_iload (i := 13) (q := 68) dL_isSo_66 rfl rfl ?_
      refine mj_num1 (v := nI 2) (q := 69) (by decide) dL_isSo_68 rfl ?_
      refine mj_cV3i (K := m_X5_ofLayer) (q := 72) dL_isSo_69 ln_L_80 ok_X5_ofLayer (Nat.le_of_ble_eq_true rfl) (by decide) (by assumption) rfl rfl (s_ofLayer hP2 hN2 hi hl (by decide)) (fun r_69 h1 hq => ?_)
      obtain ⟨rfl, rfl⟩ := hq
      refine mj_istore (i := 14) (q := 74) dL_isSo_72 rfl (by decide) rfl ?_
      dsimp only [List.set]
      refine mj_iload (i := 12) (q := 76) dL_isSo_74 rfl rfl ?_
      refine mj_aload_n (i := 0) (q := 77) dL_isSo_76 rfl rfl rfl ?_
      refine mj_iload (i := 10) (q := 79) dL_isSo_77 rfl rfl ?_
      refine mj_iload (i := 13) (q := 81) dL_isSo_79 rfl rfl ?_
      refine mj_num1 (v := nI 0) (q := 82) (by decide) dL_isSo_81 rfl ?_
      refine mj_cV3i (K := m_X5_ofLayer) (q := 85) dL_isSo_82 ln_L_80 ok_X5_ofLayer (Nat.le_of_ble_eq_true rfl) (by decide) (by assumption) rfl rfl (s_ofLayer hP2 hN2 hi hl (by decide)) (fun r_82 h1 hq => ?_)
      obtain ⟨rfl, rfl⟩ := hq
      refine mj_iadd (q := 86) dL_isSo_85 rfl ?_
      refine mj_istore (i := 12) (q := 88) dL_isSo_86 rfl (by decide) rfl ?_
      dsimp only [List.set]
      refine mj_aload_n (i := 0) (q := 89) dL_isSo_88 rfl rfl rfl ?_
      refine mj_iload (i := 10) (q := 91) dL_isSo_89 rfl rfl ?_
      refine mj_iload (i := 13) (q := 93) dL_isSo_91 rfl rfl ?_
      refine mj_num1 (v := nI 0) (q := 94) (by decide) dL_isSo_93 rfl ?_
      refine mj_cV3i (K := m_X5_ofLayer) (q := 97) dL_isSo_94 ln_L_80 ok_X5_ofLayer (Nat.le_of_ble_eq_true rfl) (by decide) (by assumption) rfl rfl (s_ofLayer hP2 hN2 hi hl (by decide)) (fun r_94 h1 hq => ?_)
      obtain ⟨rfl, rfl⟩ := hq
      refine mj_num1 (v := 1) (q := 98) rfl dL_isSo_97 rfl ?_
      refine mj_icmp_lt (tgt := 153) (q := 101) dL_isSo_98 (by decide) rfl (fun c_98 => absurd c_98 (Int32.not_lt.mpr a1)) (fun c_98 => ?_)
      refine mj_aload_n (i := 0) (q := 102) dL_isSo_101 rfl rfl rfl ?_
      refine mj_iload (i := 10) (q := 104) dL_isSo_102 rfl rfl ?_
      refine mj_iload (i := 13) (q := 106) dL_isSo_104 rfl rfl ?_
      refine mj_num1 (v := nI 0) (q := 107) (by decide) dL_isSo_106 rfl ?_
      refine mj_cV3i (K := m_X5_ofLayer) (q := 110) dL_isSo_107 ln_L_80 ok_X5_ofLayer (Nat.le_of_ble_eq_true rfl) (by decide) (by assumption) rfl rfl (s_ofLayer hP2 hN2 hi hl (by decide)) (fun r_107 h1 hq => ?_)
      obtain ⟨rfl, rfl⟩ := hq
      refine mj_num3 (v := 300) (q := 113) (by decide) dL_isSo_110 rfl ?_
      refine mj_icmp_gt (tgt := 153) (q := 116) dL_isSo_113 (by decide) rfl (fun c_113 => absurd c_113 (Int32.not_lt.mpr a2)) (fun c_113 => ?_)
      refine mj_aload_n (i := 0) (q := 117) dL_isSo_116 rfl rfl rfl ?_
      refine mj_iload (i := 10) (q := 119) dL_isSo_117 rfl rfl ?_
      refine mj_iload (i := 13) (q := 121) dL_isSo_119 rfl rfl ?_
      refine mj_num1 (v := nI 1) (q := 122) (by decide) dL_isSo_121 rfl ?_
      refine mj_cV3i (K := m_X5_ofLayer) (q := 125) dL_isSo_122 ln_L_80 ok_X5_ofLayer (Nat.le_of_ble_eq_true rfl) (by decide) (by assumption) rfl rfl (s_ofLayer hP2 hN2 hi hl (by decide)) (fun r_122 h1 hq => ?_)
      obtain ⟨rfl, rfl⟩ := hq
      refine mj_if_lt (tgt := 153) (q := 128) dL_isSo_125 (by decide) rfl (fun c_125 => absurd c_125 (Int32.not_lt.mpr a3)) (fun c_125 => ?_)
      refine mj_aload_n (i := 0) (q := 129) dL_isSo_128 rfl rfl rfl ?_
      refine mj_iload (i := 10) (q := 131) dL_isSo_129 rfl rfl ?_
      refine mj_iload (i := 13) (q := 133) dL_isSo_131 rfl rfl ?_
      refine mj_num1 (v := nI 1) (q := 134) (by decide) dL_isSo_133 rfl ?_
      refine mj_cV3i (K := m_X5_ofLayer) (q := 137) dL_isSo_134 ln_L_80 ok_X5_ofLayer (Nat.le_of_ble_eq_true rfl) (by decide) (by assumption) rfl rfl (s_ofLayer hP2 hN2 hi hl (by decide)) (fun r_134 h1 hq => ?_)
      obtain ⟨rfl, rfl⟩ := hq
      refine mj_num2 (v := 100) (q := 139) (by decide) dL_isSo_137 rfl ?_
      refine mj_icmp_gt (tgt := 153) (q := 142) dL_isSo_139 (by decide) rfl (fun c_139 => absurd c_139 (Int32.not_lt.mpr a4)) (fun c_139 => ?_)
      refine mj_iload (i := 14) (q := 144) dL_isSo_142 rfl rfl ?_
      refine mj_if_lt (tgt := 153) (q := 147) dL_isSo_144 (by decide) rfl (fun c_144 => absurd c_144 (Int32.not_lt.mpr a5)) (fun c_144 => ?_)
      refine mj_iload (i := 14) (q := 149) dL_isSo_147 rfl rfl ?_
      refine mj_num1 (v := 3) (q := 150) rfl dL_isSo_149 rfl ?_
      refine mj_icmp_le (tgt := 155) (q := 153) dL_isSo_150 (by decide) rfl (fun c_150 => ?_) (fun c_150 => absurd a6 c_150)
      refine mj_iinc (i := 13) (q := 158) dL_isSo_155 rfl rfl (by decide) rfl ?_
      dsimp only [List.set]
      refine mj_goto (q := 56) dL_isSo_158 (by decide) ?_
      rw [show nI l + Int32.ofInt 1 = nI (l + 1) from nI_1 l]
      exact ih (l + 1) _ (by omega)
  refine mj_aload_n (i := 0) (q := 28) dL_isSo_27 rfl rfl rfl ?_
  refine mj_iload (i := 10) (q := 30) dL_isSo_28 rfl rfl ?_
  refine mj_num1 (v := nI 1) (q := 31) (by decide) dL_isSo_30 rfl ?_
  refine mj_cV2i (K := m_X5_ofRun) (q := 34) dL_isSo_31 ln_L_33 ok_X5_ofRun (Nat.le_of_ble_eq_true rfl) (by decide) (by assumption) rfl rfl (s_ofRun hP2 hN2 hi (by decide)) (fun r_31 h1 hq => ?_)
  obtain ⟨rfl, rfl⟩ := hq
  refine mj_istore (i := 11) (q := 36) dL_isSo_34 rfl (by decide) rfl ?_
  dsimp only [List.set]
  refine mj_num1 (v := 0) (q := 37) rfl dL_isSo_36 rfl ?_
  refine mj_istore (i := 12) (q := 39) dL_isSo_37 rfl (by decide) rfl ?_
  dsimp only [List.set]
  refine mj_iload (i := 11) (q := 41) dL_isSo_39 rfl rfl ?_
  refine mj_if_lt (tgt := 51) (q := 44) dL_isSo_41 (by decide) rfl (fun c_41 => absurd c_41 hpos) (fun c_41 => ?_)
  refine mj_iload (i := 11) (q := 46) dL_isSo_44 rfl rfl ?_
  refine mj_num2 (v := 8) (q := 48) (by decide) dL_isSo_46 rfl ?_
  refine mj_icmp_le (tgt := 53) (q := 51) dL_isSo_48 (by decide) rfl (fun c_48 => ?_) (fun c_48 => absurd (nI_le (b := 8) hc8 (by omega)) c_48)
  refine mj_num1 (v := nI 0) (q := 54) (by decide) dL_isSo_53 rfl ?_
  refine mj_istore (i := 13) (q := 56) dL_isSo_54 rfl (by decide) rfl ?_
  dsimp only [List.set]
  exact kl (rs i).1.1 0 _ (by omega)
