/-! THE LAW: the cases of a time -/
set_option maxHeartbeats 400000 in
set_option maxRecDepth 100000 in
theorem lc_turn0_0 {d lc rc L T kk lf mc ms : Nat} {n : Nat} {K : Nat → mj_K} {f : Nat → Nat → Int32} {g : Nat → Nat → Option Nat} {y : mV} {v5 v6 v7 v9 v10 v11 vx io : Int32} {w18 w19 w20 w21 w22 w23 w24 w25 w26 : Value} (hJ : LJ lc rc L T n K f g y v5 v6 v7 v9 v10) (hT : T ≤ 420) (hkk : kk < rc) (hlf : lf < lc) (z2 : y.2.2.2.1 lf 2 = 0) (k : lw_K d lc rc L (T + 6) mc ms v11) : mj_W m_law (d + 8) mc ms lw_QL 393 [.ref 0, .ref 1, .int (nI lc), .int (nI rc), .ref 144, .int v5, .int v6, .int v7, .ref 145, .int v9, .int v10, .int v11, .int vx, .int (nI kk), .int (nI lf), .int io, .int 0, .int 0, w18, w19, w20, w21, w22, w23, w24, w25, w26] [] (n, K, f, g) := by
  have hJ0 := hJ
  obtain ⟨hn, k0, hL, hP, hN, rfl, rfl, h1lc, h1rc, kar, kea, hY, ⟨b, hb, rfl, h7⟩, ⟨q, hq20, rfl, h8⟩, rfl, hE, rfl, rfl⟩ := hJ
  have kx := hP.1
  refine mj_aload_n (i := 1) (q := 394) dL_law_393 rfl rfl rfl ?_
  refine mj_iload (i := 14) (q := 396) dL_law_394 rfl rfl ?_
  refine mj_iload (i := 17) (q := 398) dL_law_396 rfl rfl ?_
  refine mj_cV2i (K := m_X5_turn) (q := 401) dL_law_398 ln_L_39 ok_X5_turn (Nat.le_of_ble_eq_true rfl) (by decide) (by assumption) rfl rfl (s_turn hP hN hlf (Or.inl rfl)) (fun r_398 h1 hq => ?_)
  obtain ⟨rfl, f1, rfl, hN1, hFr⟩ := hq
  rw [z2]
  have e3 : vOfLift (vPutLift y lf (upd (y.2.2.2.1 lf) 2 0)) lf 2 = 0 := by
    show v01 (mj_row y.2.2.2.1 lf (upd (y.2.2.2.1 lf) 2 0) lf 2) = _
    rw [mj_rowe, upd_e]
    rfl
  refine mj_iload (i := 16) (q := 403) dL_law_401 rfl rfl ?_
  refine mj_icmp_ne (tgt := 426) (q := 406) dL_law_403 (by decide) rfl (fun c_403 => absurd rfl c_403) (fun c_403 => ?_)
  refine mj_aload_n (i := 1) (q := 407) dL_law_406 rfl rfl rfl ?_
  refine mj_iload (i := 14) (q := 409) dL_law_407 rfl rfl ?_
  refine mj_num1 (v := nI 2) (q := 410) (by decide) dL_law_409 rfl ?_
  refine mj_cV2i (K := m_X5_ofLift) (q := 413) dL_law_410 ln_L_36 ok_X5_ofLift (Nat.le_of_ble_eq_true rfl) (by decide) (by assumption) rfl rfl (s_ofLift hP hN1 hlf (by decide)) (fun r_410 h1 hq => ?_)
  obtain ⟨rfl, rfl⟩ := hq
  rw [e3]
  refine mj_iload (i := 17) (q := 415) dL_law_413 rfl rfl ?_
  refine mj_if_eq (tgt := 422) (q := 418) dL_law_415 (by decide) rfl (fun c_415 => ?_) (fun c_415 => absurd rfl c_415)
  refine mj_num1 (v := 0) (q := 423) rfl dL_law_422 rfl ?_
  refine mj_icmp_eq (tgt := 1358) (q := 426) dL_law_423 (by decide) rfl (fun c_423 => ?_) (fun c_423 => absurd rfl c_423)
  exact k _ _ _ _ _ _ _ _ _ _ _ _ _ _ _ _ _ _ _ _ _ _ _ _ _ (hJ0.step hN1 rfl rfl hFr (JY.mono (hY.turn) (by omega)) (fun _ => rfl) (fun _ _ => rfl))
set_option maxHeartbeats 400000 in
set_option maxRecDepth 100000 in
theorem lc_turn0_1 {d lc rc L T kk lf mc ms : Nat} {n : Nat} {K : Nat → mj_K} {f : Nat → Nat → Int32} {g : Nat → Nat → Option Nat} {y : mV} {v5 v6 v7 v9 v10 v11 vx io : Int32} {w18 w19 w20 w21 w22 w23 w24 w25 w26 : Value} (hJ : LJ lc rc L T n K f g y v5 v6 v7 v9 v10) (hT : T ≤ 420) (hkk : kk < rc) (hlf : lf < lc) (z2 : y.2.2.2.1 lf 2 = 0) (k : lw_K d lc rc L (T + 6) mc ms v11) : mj_W m_law (d + 8) mc ms lw_QL 393 [.ref 0, .ref 1, .int (nI lc), .int (nI rc), .ref 144, .int v5, .int v6, .int v7, .ref 145, .int v9, .int v10, .int v11, .int vx, .int (nI kk), .int (nI lf), .int io, .int 0, .int 1, w18, w19, w20, w21, w22, w23, w24, w25, w26] [] (n, K, f, g) := by
  have hJ0 := hJ
  obtain ⟨hn, k0, hL, hP, hN, rfl, rfl, h1lc, h1rc, kar, kea, hY, ⟨b, hb, rfl, h7⟩, ⟨q, hq20, rfl, h8⟩, rfl, hE, rfl, rfl⟩ := hJ
  have kx := hP.1
  refine mj_aload_n (i := 1) (q := 394) dL_law_393 rfl rfl rfl ?_
  refine mj_iload (i := 14) (q := 396) dL_law_394 rfl rfl ?_
  refine mj_iload (i := 17) (q := 398) dL_law_396 rfl rfl ?_
  refine mj_cV2i (K := m_X5_turn) (q := 401) dL_law_398 ln_L_39 ok_X5_turn (Nat.le_of_ble_eq_true rfl) (by decide) (by assumption) rfl rfl (s_turn hP hN hlf (Or.inr rfl)) (fun r_398 h1 hq => ?_)
  obtain ⟨rfl, f1, rfl, hN1, hFr⟩ := hq
  rw [z2]
  have e3 : vOfLift (vPutLift y lf (upd (y.2.2.2.1 lf) 2 1)) lf 2 = 1 := by
    show v01 (mj_row y.2.2.2.1 lf (upd (y.2.2.2.1 lf) 2 1) lf 2) = _
    rw [mj_rowe, upd_e]
    rfl
  refine mj_iload (i := 16) (q := 403) dL_law_401 rfl rfl ?_
  refine mj_icmp_ne (tgt := 426) (q := 406) dL_law_403 (by decide) rfl (fun c_403 => absurd rfl c_403) (fun c_403 => ?_)
  refine mj_aload_n (i := 1) (q := 407) dL_law_406 rfl rfl rfl ?_
  refine mj_iload (i := 14) (q := 409) dL_law_407 rfl rfl ?_
  refine mj_num1 (v := nI 2) (q := 410) (by decide) dL_law_409 rfl ?_
  refine mj_cV2i (K := m_X5_ofLift) (q := 413) dL_law_410 ln_L_36 ok_X5_ofLift (Nat.le_of_ble_eq_true rfl) (by decide) (by assumption) rfl rfl (s_ofLift hP hN1 hlf (by decide)) (fun r_410 h1 hq => ?_)
  obtain ⟨rfl, rfl⟩ := hq
  rw [e3]
  refine mj_iload (i := 17) (q := 415) dL_law_413 rfl rfl ?_
  refine mj_if_eq (tgt := 422) (q := 418) dL_law_415 (by decide) rfl (fun c_415 => absurd c_415 (by decide)) (fun c_415 => ?_)
  refine mj_num1 (v := 1) (q := 419) rfl dL_law_418 rfl ?_
  refine mj_goto (q := 423) dL_law_419 (by decide) ?_
  refine mj_icmp_eq (tgt := 1358) (q := 426) dL_law_423 (by decide) rfl (fun c_423 => ?_) (fun c_423 => absurd rfl c_423)
  exact k _ _ _ _ _ _ _ _ _ _ _ _ _ _ _ _ _ _ _ _ _ _ _ _ _ (hJ0.step hN1 rfl rfl hFr (JY.mono (hY.turn) (by omega)) (fun _ => rfl) (fun _ _ => rfl))
set_option maxHeartbeats 400000 in
set_option maxRecDepth 100000 in
theorem lc_turn0 {d lc rc L T kk lf mc ms : Nat} {n : Nat} {K : Nat → mj_K} {f : Nat → Nat → Int32} {g : Nat → Nat → Option Nat} {y : mV} {v5 v6 v7 v9 v10 v11 vx io : Int32} {w16 w17 w18 w19 w20 w21 w22 w23 w24 w25 w26 : Value} (hJ : LJ lc rc L T n K f g y v5 v6 v7 v9 v10) (hT : T ≤ 420) (hkk : kk < rc) (hlf : lf < lc) (z2 : y.2.2.2.1 lf 2 = 0) (k : lw_K d lc rc L (T + 6) mc ms v11) : mj_W m_law (d + 8) mc ms lw_QL 356 [.ref 0, .ref 1, .int (nI lc), .int (nI rc), .ref 144, .int v5, .int v6, .int v7, .ref 145, .int v9, .int v10, .int v11, .int vx, .int (nI kk), .int (nI lf), .int io, w16, w17, w18, w19, w20, w21, w22, w23, w24, w25, w26] [] (n, K, f, g) := by
  have hJ0 := hJ
  obtain ⟨hn, k0, hL, hP, hN, rfl, rfl, h1lc, h1rc, kar, kea, hY, ⟨b, hb, rfl, h7⟩, ⟨q, hq20, rfl, h8⟩, rfl, hE, rfl, rfl⟩ := hJ
  have kx := hP.1
  have e2 : vOfLift y lf 2 = 0 := by
    show v01 (y.2.2.2.1 lf 2) = _
    rw [z2]
    rfl
  refine mj_aload_n (i := 1) (q := 357) dL_law_356 rfl rfl rfl ?_
  refine mj_iload (i := 14) (q := 359) dL_law_357 rfl rfl ?_
  refine mj_num1 (v := nI 2) (q := 360) (by decide) dL_law_359 rfl ?_
  refine mj_cV2i (K := m_X5_ofLift) (q := 363) dL_law_360 ln_L_36 ok_X5_ofLift (Nat.le_of_ble_eq_true rfl) (by decide) (by assumption) rfl rfl (s_ofLift hP hN hlf (by decide)) (fun r_360 h1 hq => ?_)
  obtain ⟨rfl, rfl⟩ := hq
  rw [e2]
  refine mj_num1 (v := 1) (q := 364) rfl dL_law_363 rfl ?_
  refine mj_icmp_ne (tgt := 371) (q := 367) dL_law_364 (by decide) rfl (fun c_364 => ?_) (fun c_364 => absurd c_364 (by decide))
  refine mj_num1 (v := 0) (q := 372) rfl dL_law_371 rfl ?_
  refine mj_istore (i := 16) (q := 374) dL_law_372 rfl (by decide) rfl ?_
  dsimp only [List.set]
  refine mj_iload (i := 12) (q := 376) dL_law_374 rfl rfl ?_
  refine mj_num2 (v := 6) (q := 378) (by decide) dL_law_376 rfl ?_
  refine mj_ishr (q := 379) dL_law_378 rfl ?_
  refine mj_num1 (v := nI 4) (q := 380) (by decide) dL_law_379 rfl ?_
  refine mj_cS2i (K := m_L_below) (q := 383) dL_law_380 ln_L_9 ok_L_below (Nat.le_of_ble_eq_true rfl) (by decide) rfl (s_below (by decide)) (fun r_380 h1 hq => ?_)
  obtain ⟨rfl, rfl⟩ := hq
  refine mj_if_le (tgt := 390) (q := 386) dL_law_383 (by decide) rfl (fun c_383 => ?_) (fun c_383 => ?_)
  · refine mj_num1 (v := 0) (q := 391) rfl dL_law_390 rfl ?_
    refine mj_istore (i := 17) (q := 393) dL_law_391 rfl (by decide) rfl ?_
    dsimp only [List.set]
    exact lc_turn0_0 hJ0 hT hkk hlf z2 k
  · refine mj_num1 (v := 1) (q := 387) rfl dL_law_386 rfl ?_
    refine mj_goto (q := 391) dL_law_387 (by decide) ?_
    refine mj_istore (i := 17) (q := 393) dL_law_391 rfl (by decide) rfl ?_
    dsimp only [List.set]
    exact lc_turn0_1 hJ0 hT hkk hlf z2 k
set_option maxHeartbeats 400000 in
set_option maxRecDepth 100000 in
theorem lc_turn1_0 {d lc rc L T kk lf mc ms : Nat} {n : Nat} {K : Nat → mj_K} {f : Nat → Nat → Int32} {g : Nat → Nat → Option Nat} {y : mV} {v5 v6 v7 v9 v10 v11 vx io : Int32} {w18 w19 w20 w21 w22 w23 w24 w25 w26 : Value} (hJ : LJ lc rc L T n K f g y v5 v6 v7 v9 v10) (hT : T ≤ 420) (hkk : kk < rc) (hlf : lf < lc) (z2 : y.2.2.2.1 lf 2 = 1) (k : lw_K d lc rc L (T + 6) mc ms v11) : mj_W m_law (d + 8) mc ms lw_QL 393 [.ref 0, .ref 1, .int (nI lc), .int (nI rc), .ref 144, .int v5, .int v6, .int v7, .ref 145, .int v9, .int v10, .int v11, .int vx, .int (nI kk), .int (nI lf), .int io, .int 1, .int 0, w18, w19, w20, w21, w22, w23, w24, w25, w26] [] (n, K, f, g) := by
  have hJ0 := hJ
  obtain ⟨hn, k0, hL, hP, hN, rfl, rfl, h1lc, h1rc, kar, kea, hY, ⟨b, hb, rfl, h7⟩, ⟨q, hq20, rfl, h8⟩, rfl, hE, rfl, rfl⟩ := hJ
  have kx := hP.1
  refine mj_aload_n (i := 1) (q := 394) dL_law_393 rfl rfl rfl ?_
  refine mj_iload (i := 14) (q := 396) dL_law_394 rfl rfl ?_
  refine mj_iload (i := 17) (q := 398) dL_law_396 rfl rfl ?_
  refine mj_cV2i (K := m_X5_turn) (q := 401) dL_law_398 ln_L_39 ok_X5_turn (Nat.le_of_ble_eq_true rfl) (by decide) (by assumption) rfl rfl (s_turn hP hN hlf (Or.inl rfl)) (fun r_398 h1 hq => ?_)
  obtain ⟨rfl, f1, rfl, hN1, hFr⟩ := hq
  rw [z2]
  have e3 : vOfLift (vPutLift y lf (upd (y.2.2.2.1 lf) 2 0)) lf 2 = 0 := by
    show v01 (mj_row y.2.2.2.1 lf (upd (y.2.2.2.1 lf) 2 0) lf 2) = _
    rw [mj_rowe, upd_e]
    rfl
  refine mj_iload (i := 16) (q := 403) dL_law_401 rfl rfl ?_
  refine mj_icmp_ne (tgt := 426) (q := 406) dL_law_403 (by decide) rfl (fun c_403 => absurd rfl c_403) (fun c_403 => ?_)
  refine mj_aload_n (i := 1) (q := 407) dL_law_406 rfl rfl rfl ?_
  refine mj_iload (i := 14) (q := 409) dL_law_407 rfl rfl ?_
  refine mj_num1 (v := nI 2) (q := 410) (by decide) dL_law_409 rfl ?_
  refine mj_cV2i (K := m_X5_ofLift) (q := 413) dL_law_410 ln_L_36 ok_X5_ofLift (Nat.le_of_ble_eq_true rfl) (by decide) (by assumption) rfl rfl (s_ofLift hP hN1 hlf (by decide)) (fun r_410 h1 hq => ?_)
  obtain ⟨rfl, rfl⟩ := hq
  rw [e3]
  refine mj_iload (i := 17) (q := 415) dL_law_413 rfl rfl ?_
  refine mj_if_eq (tgt := 422) (q := 418) dL_law_415 (by decide) rfl (fun c_415 => ?_) (fun c_415 => absurd rfl c_415)
  refine mj_num1 (v := 0) (q := 423) rfl dL_law_422 rfl ?_
  refine mj_icmp_eq (tgt := 1358) (q := 426) dL_law_423 (by decide) rfl (fun c_423 => ?_) (fun c_423 => absurd rfl c_423)
  exact k _ _ _ _ _ _ _ _ _ _ _ _ _ _ _ _ _ _ _ _ _ _ _ _ _ (hJ0.step hN1 rfl rfl hFr (JY.mono (hY.turn) (by omega)) (fun _ => rfl) (fun _ _ => rfl))
set_option maxHeartbeats 400000 in
set_option maxRecDepth 100000 in
theorem lc_turn1_1 {d lc rc L T kk lf mc ms : Nat} {n : Nat} {K : Nat → mj_K} {f : Nat → Nat → Int32} {g : Nat → Nat → Option Nat} {y : mV} {v5 v6 v7 v9 v10 v11 vx io : Int32} {w18 w19 w20 w21 w22 w23 w24 w25 w26 : Value} (hJ : LJ lc rc L T n K f g y v5 v6 v7 v9 v10) (hT : T ≤ 420) (hkk : kk < rc) (hlf : lf < lc) (z2 : y.2.2.2.1 lf 2 = 1) (k : lw_K d lc rc L (T + 6) mc ms v11) : mj_W m_law (d + 8) mc ms lw_QL 393 [.ref 0, .ref 1, .int (nI lc), .int (nI rc), .ref 144, .int v5, .int v6, .int v7, .ref 145, .int v9, .int v10, .int v11, .int vx, .int (nI kk), .int (nI lf), .int io, .int 1, .int 1, w18, w19, w20, w21, w22, w23, w24, w25, w26] [] (n, K, f, g) := by
  have hJ0 := hJ
  obtain ⟨hn, k0, hL, hP, hN, rfl, rfl, h1lc, h1rc, kar, kea, hY, ⟨b, hb, rfl, h7⟩, ⟨q, hq20, rfl, h8⟩, rfl, hE, rfl, rfl⟩ := hJ
  have kx := hP.1
  refine mj_aload_n (i := 1) (q := 394) dL_law_393 rfl rfl rfl ?_
  refine mj_iload (i := 14) (q := 396) dL_law_394 rfl rfl ?_
  refine mj_iload (i := 17) (q := 398) dL_law_396 rfl rfl ?_
  refine mj_cV2i (K := m_X5_turn) (q := 401) dL_law_398 ln_L_39 ok_X5_turn (Nat.le_of_ble_eq_true rfl) (by decide) (by assumption) rfl rfl (s_turn hP hN hlf (Or.inr rfl)) (fun r_398 h1 hq => ?_)
  obtain ⟨rfl, f1, rfl, hN1, hFr⟩ := hq
  rw [z2]
  have e3 : vOfLift (vPutLift y lf (upd (y.2.2.2.1 lf) 2 1)) lf 2 = 1 := by
    show v01 (mj_row y.2.2.2.1 lf (upd (y.2.2.2.1 lf) 2 1) lf 2) = _
    rw [mj_rowe, upd_e]
    rfl
  refine mj_iload (i := 16) (q := 403) dL_law_401 rfl rfl ?_
  refine mj_icmp_ne (tgt := 426) (q := 406) dL_law_403 (by decide) rfl (fun c_403 => absurd rfl c_403) (fun c_403 => ?_)
  refine mj_aload_n (i := 1) (q := 407) dL_law_406 rfl rfl rfl ?_
  refine mj_iload (i := 14) (q := 409) dL_law_407 rfl rfl ?_
  refine mj_num1 (v := nI 2) (q := 410) (by decide) dL_law_409 rfl ?_
  refine mj_cV2i (K := m_X5_ofLift) (q := 413) dL_law_410 ln_L_36 ok_X5_ofLift (Nat.le_of_ble_eq_true rfl) (by decide) (by assumption) rfl rfl (s_ofLift hP hN1 hlf (by decide)) (fun r_410 h1 hq => ?_)
  obtain ⟨rfl, rfl⟩ := hq
  rw [e3]
  refine mj_iload (i := 17) (q := 415) dL_law_413 rfl rfl ?_
  refine mj_if_eq (tgt := 422) (q := 418) dL_law_415 (by decide) rfl (fun c_415 => absurd c_415 (by decide)) (fun c_415 => ?_)
  refine mj_num1 (v := 1) (q := 419) rfl dL_law_418 rfl ?_
  refine mj_goto (q := 423) dL_law_419 (by decide) ?_
  refine mj_icmp_eq (tgt := 1358) (q := 426) dL_law_423 (by decide) rfl (fun c_423 => ?_) (fun c_423 => absurd rfl c_423)
  exact k _ _ _ _ _ _ _ _ _ _ _ _ _ _ _ _ _ _ _ _ _ _ _ _ _ (hJ0.step hN1 rfl rfl hFr (JY.mono (hY.turn) (by omega)) (fun _ => rfl) (fun _ _ => rfl))
set_option maxHeartbeats 400000 in
set_option maxRecDepth 100000 in
theorem lc_turn1 {d lc rc L T kk lf mc ms : Nat} {n : Nat} {K : Nat → mj_K} {f : Nat → Nat → Int32} {g : Nat → Nat → Option Nat} {y : mV} {v5 v6 v7 v9 v10 v11 vx io : Int32} {w16 w17 w18 w19 w20 w21 w22 w23 w24 w25 w26 : Value} (hJ : LJ lc rc L T n K f g y v5 v6 v7 v9 v10) (hT : T ≤ 420) (hkk : kk < rc) (hlf : lf < lc) (z2 : y.2.2.2.1 lf 2 = 1) (k : lw_K d lc rc L (T + 6) mc ms v11) : mj_W m_law (d + 8) mc ms lw_QL 356 [.ref 0, .ref 1, .int (nI lc), .int (nI rc), .ref 144, .int v5, .int v6, .int v7, .ref 145, .int v9, .int v10, .int v11, .int vx, .int (nI kk), .int (nI lf), .int io, w16, w17, w18, w19, w20, w21, w22, w23, w24, w25, w26] [] (n, K, f, g) := by
  have hJ0 := hJ
  obtain ⟨hn, k0, hL, hP, hN, rfl, rfl, h1lc, h1rc, kar, kea, hY, ⟨b, hb, rfl, h7⟩, ⟨q, hq20, rfl, h8⟩, rfl, hE, rfl, rfl⟩ := hJ
  have kx := hP.1
  have e2 : vOfLift y lf 2 = 1 := by
    show v01 (y.2.2.2.1 lf 2) = _
    rw [z2]
    rfl
  refine mj_aload_n (i := 1) (q := 357) dL_law_356 rfl rfl rfl ?_
  refine mj_iload (i := 14) (q := 359) dL_law_357 rfl rfl ?_
  refine mj_num1 (v := nI 2) (q := 360) (by decide) dL_law_359 rfl ?_
  refine mj_cV2i (K := m_X5_ofLift) (q := 363) dL_law_360 ln_L_36 ok_X5_ofLift (Nat.le_of_ble_eq_true rfl) (by decide) (by assumption) rfl rfl (s_ofLift hP hN hlf (by decide)) (fun r_360 h1 hq => ?_)
  obtain ⟨rfl, rfl⟩ := hq
  rw [e2]
  refine mj_num1 (v := 1) (q := 364) rfl dL_law_363 rfl ?_
  refine mj_icmp_ne (tgt := 371) (q := 367) dL_law_364 (by decide) rfl (fun c_364 => absurd rfl c_364) (fun c_364 => ?_)
  refine mj_num1 (v := 1) (q := 368) rfl dL_law_367 rfl ?_
  refine mj_goto (q := 372) dL_law_368 (by decide) ?_
  refine mj_istore (i := 16) (q := 374) dL_law_372 rfl (by decide) rfl ?_
  dsimp only [List.set]
  refine mj_iload (i := 12) (q := 376) dL_law_374 rfl rfl ?_
  refine mj_num2 (v := 6) (q := 378) (by decide) dL_law_376 rfl ?_
  refine mj_ishr (q := 379) dL_law_378 rfl ?_
  refine mj_num1 (v := nI 4) (q := 380) (by decide) dL_law_379 rfl ?_
  refine mj_cS2i (K := m_L_below) (q := 383) dL_law_380 ln_L_9 ok_L_below (Nat.le_of_ble_eq_true rfl) (by decide) rfl (s_below (by decide)) (fun r_380 h1 hq => ?_)
  obtain ⟨rfl, rfl⟩ := hq
  refine mj_if_le (tgt := 390) (q := 386) dL_law_383 (by decide) rfl (fun c_383 => ?_) (fun c_383 => ?_)
  · refine mj_num1 (v := 0) (q := 391) rfl dL_law_390 rfl ?_
    refine mj_istore (i := 17) (q := 393) dL_law_391 rfl (by decide) rfl ?_
    dsimp only [List.set]
    exact lc_turn1_0 hJ0 hT hkk hlf z2 k
  · refine mj_num1 (v := 1) (q := 387) rfl dL_law_386 rfl ?_
    refine mj_goto (q := 391) dL_law_387 (by decide) ?_
    refine mj_istore (i := 17) (q := 393) dL_law_391 rfl (by decide) rfl ?_
    dsimp only [List.set]
    exact lc_turn1_1 hJ0 hT hkk hlf z2 k
theorem lc_turn {d lc rc L T kk lf mc ms : Nat} {n : Nat} {K : Nat → mj_K} {f : Nat → Nat → Int32} {g : Nat → Nat → Option Nat} {y : mV} {v5 v6 v7 v9 v10 v11 vx io : Int32} {w16 w17 w18 w19 w20 w21 w22 w23 w24 w25 w26 : Value} (hJ : LJ lc rc L T n K f g y v5 v6 v7 v9 v10) (hT : T ≤ 420) (hkk : kk < rc) (hlf : lf < lc) (k : lw_K d lc rc L (T + 6) mc ms v11) : mj_W m_law (d + 8) mc ms lw_QL 356 [.ref 0, .ref 1, .int (nI lc), .int (nI rc), .ref 144, .int v5, .int v6, .int v7, .ref 145, .int v9, .int v10, .int v11, .int vx, .int (nI kk), .int (nI lf), .int io, w16, w17, w18, w19, w20, w21, w22, w23, w24, w25, w26] [] (n, K, f, g) := by
  have hN := hJ.2.2.2.2.1
  have e1 := hJ.2.2.2.2.2.1
  rcases (hN.2.2.2.2.2.1 lf (by omega)).2.1 with z | z
  · exact lc_turn0 hJ hT hkk hlf z k
  · exact lc_turn1 hJ hT hkk hlf z k
set_option maxHeartbeats 400000 in
set_option maxRecDepth 100000 in
theorem lc_fill {d lc rc L T kk lf mc ms : Nat} {n : Nat} {K : Nat → mj_K} {f : Nat → Nat → Int32} {g : Nat → Nat → Option Nat} {y : mV} {v5 v6 v7 v9 v10 v11 vx io : Int32} {w16 w17 w18 w19 w20 w21 w22 w23 w24 w25 w26 : Value} (hJ : LJ lc rc L T n K f g y v5 v6 v7 v9 v10) (hT : T ≤ 420) (hkk : kk < rc) (hlf : lf < lc) (k : lw_K d lc rc L (T + 6) mc ms v11) : mj_W m_law (d + 8) mc ms lw_QL 481 [.ref 0, .ref 1, .int (nI lc), .int (nI rc), .ref 144, .int v5, .int v6, .int v7, .ref 145, .int v9, .int v10, .int v11, .int vx, .int (nI kk), .int (nI lf), .int io, w16, w17, w18, w19, w20, w21, w22, w23, w24, w25, w26] [] (n, K, f, g) := by
  have hJ0 := hJ
  obtain ⟨hn, k0, hL, hP, hN, rfl, rfl, h1lc, h1rc, kar, kea, hY, ⟨b, hb, rfl, h7⟩, ⟨q, hq20, rfl, h8⟩, rfl, hE, rfl, rfl⟩ := hJ
  have kx := hP.1
  refine mj_num1 (v := 1) (q := 482) rfl dL_law_481 rfl ?_
  refine mj_iload (i := 12) (q := 484) dL_law_482 rfl rfl ?_
  refine mj_num1 (v := 3) (q := 485) rfl dL_law_484 rfl ?_
  refine mj_ishr (q := 486) dL_law_485 rfl ?_
  refine mj_num3 (v := nI 500) (q := 489) (by decide) dL_law_486 rfl ?_
  refine mj_cS2i (K := m_L_below) (q := 492) dL_law_489 ln_L_9 ok_L_below (Nat.le_of_ble_eq_true rfl) (by decide) rfl (s_below (by decide)) (fun r_489 h1 hq => ?_)
  obtain ⟨rfl, rfl⟩ := hq
  obtain ⟨j, hj, ej⟩ := vBelow_rng (vShr vx 3) (n := 500) (by decide) (by decide)
  have ej2 : vBelow (vx >>> (3 &&& 31)) (nI 500) = nI j := ej
  rw [ej2]
  refine mj_iadd (q := 493) dL_law_492 rfl ?_
  have nj := nI_toInt (n := j) (by omega)
  have n1 : (1 : Int32).toInt = 1 := rfl
  have n5k : (5000 : Int32).toInt = 5000 := rfl
  have s1 := ir_add (x := 1) (y := nI j) (by omega) (by omega)
  have hv1 : 1 ≤ 1 + nI j := Int32.le_iff_toInt_le.mpr (by omega)
  have hv2 : 1 + nI j ≤ 5000 := Int32.le_iff_toInt_le.mpr (by omega)
  have w6 := hY.2.2.2.2.1
  unfold IR at w6
  have s2 := ir_add (x := y.2.2.1 6) (y := 1 + nI j) (by omega) (by omega)
  have mn := ir_min (x := y.2.2.1 6 + (1 + nI j)) (y := 5000)
  have hmn : IR 0 5000 (vMin (y.2.2.1 6 + (1 + nI j)) 5000) := ⟨by omega, by omega⟩
  have hcm := vMin_comm (y.2.2.1 6 + (1 + nI j)) 5000
  refine mj_istore (i := 16) (q := 495) dL_law_493 rfl (by decide) rfl ?_
  dsimp only [List.set]
  refine mj_aload_n (i := 1) (q := 496) dL_law_495 rfl rfl rfl ?_
  refine mj_num1 (v := nI 4) (q := 497) (by decide) dL_law_496 rfl ?_
  refine mj_cV1i (K := m_X5_many) (q := 500) dL_law_497 ln_L_46 ok_X5_many (Nat.le_of_ble_eq_true rfl) (by decide) (by assumption) rfl rfl (s_many hP hN (by decide)) (fun r_497 h1 hq => ?_)
  obtain ⟨rfl, rfl⟩ := hq
  refine mj_istore (i := 17) (q := 502) dL_law_500 rfl (by decide) rfl ?_
  dsimp only [List.set]
  refine mj_aload_n (i := 1) (q := 503) dL_law_502 rfl rfl rfl ?_
  refine mj_iload (i := 16) (q := 505) dL_law_503 rfl rfl ?_
  refine mj_cV1i (K := m_X5_fill) (q := 508) dL_law_505 ln_L_50 ok_X5_fill (Nat.le_of_ble_eq_true rfl) (by decide) (by assumption) rfl rfl (s_fill hP hN hv1 hv2) (fun r_505 h1 hq => ?_)
  obtain ⟨rfl, f1, rfl, hN1, hFr⟩ := hq
  refine mj_num3 (v := 5000) (q := 511) (by decide) dL_law_508 rfl ?_
  refine mj_iload (i := 17) (q := 513) dL_law_511 rfl rfl ?_
  refine mj_iload (i := 16) (q := 515) dL_law_513 rfl rfl ?_
  refine mj_iadd (q := 516) dL_law_515 rfl ?_
  refine mj_mmin (q := 519) dL_law_516 ln_L_53 (Nat.le_of_ble_eq_true rfl) rfl ?_
  refine mj_icmp_ne (tgt := 541) (q := 522) dL_law_519 (by decide) rfl (fun c_519 => absurd hcm c_519) (fun c_519 => ?_)
  refine mj_aload_n (i := 1) (q := 523) dL_law_522 rfl rfl rfl ?_
  refine mj_num1 (v := nI 4) (q := 524) (by decide) dL_law_523 rfl ?_
  refine mj_cV1i (K := m_X5_many) (q := 527) dL_law_524 ln_L_46 ok_X5_many (Nat.le_of_ble_eq_true rfl) (by decide) (by assumption) rfl rfl (s_many hP hN1 (by decide)) (fun r_524 h1 hq => ?_)
  obtain ⟨rfl, rfl⟩ := hq
  refine mj_num3 (v := 5000) (q := 530) (by decide) dL_law_527 rfl ?_
  refine mj_iload (i := 17) (q := 532) dL_law_530 rfl rfl ?_
  refine mj_iload (i := 16) (q := 534) dL_law_532 rfl rfl ?_
  refine mj_iadd (q := 535) dL_law_534 rfl ?_
  refine mj_mmin (q := 538) dL_law_535 ln_L_53 (Nat.le_of_ble_eq_true rfl) rfl ?_
  refine mj_icmp_eq (tgt := 1358) (q := 541) dL_law_538 (by decide) rfl (fun c_538 => ?_) (fun c_538 => absurd hcm c_538)
  exact k _ _ _ _ _ _ _ _ _ _ _ _ _ _ _ _ _ _ _ _ _ _ _ _ _ (hJ0.step hN1 rfl rfl hFr (JY.mono (hY.fill hmn) (by omega)) (fun _ => rfl) (fun j hj => upd_n (by omega)))
set_option maxHeartbeats 400000 in
set_option maxRecDepth 100000 in
theorem lc_search {d lc rc L T kk lf mc ms : Nat} {n : Nat} {K : Nat → mj_K} {f : Nat → Nat → Int32} {g : Nat → Nat → Option Nat} {y : mV} {v5 v6 v7 v9 v10 v11 vx io : Int32} {w16 w17 w18 w19 w20 w21 w22 w23 w24 w25 w26 : Value} (hJ : LJ lc rc L T n K f g y v5 v6 v7 v9 v10) (hT : T ≤ 420) (hkk : kk < rc) (hlf : lf < lc) (k : lw_K d lc rc L (T + 6) mc ms v11) : mj_W m_law (d + 8) mc ms lw_QL 703 [.ref 0, .ref 1, .int (nI lc), .int (nI rc), .ref 144, .int v5, .int v6, .int v7, .ref 145, .int v9, .int v10, .int v11, .int vx, .int (nI kk), .int (nI lf), .int io, w16, w17, w18, w19, w20, w21, w22, w23, w24, w25, w26] [] (n, K, f, g) := by
  have hJ0 := hJ
  obtain ⟨hn, k0, hL, hP, hN, rfl, rfl, h1lc, h1rc, kar, kea, hY, ⟨b, hb, rfl, h7⟩, ⟨q, hq20, rfl, h8⟩, rfl, hE, rfl, rfl⟩ := hJ
  have kx := hP.1
  refine mj_aload_n (i := 1) (q := 704) dL_law_703 rfl rfl rfl ?_
  refine mj_iload (i := 13) (q := 706) dL_law_704 rfl rfl ?_
  refine mj_num2 (v := nI 7) (q := 708) (by decide) dL_law_706 rfl ?_
  refine mj_cV2i (K := m_X5_ofRun) (q := 711) dL_law_708 ln_L_33 ok_X5_ofRun (Nat.le_of_ble_eq_true rfl) (by decide) (by assumption) rfl rfl (s_ofRun hP hN hkk (by decide)) (fun r_708 h1 hq => ?_)
  obtain ⟨rfl, rfl⟩ := hq
  refine mj_if_le (tgt := 1358) (q := 714) dL_law_711 (by decide) rfl (fun c_711 => ?_) (fun c_711 => ?_)
  · exact k _ _ _ _ _ _ _ _ _ _ _ _ _ _ _ _ _ _ _ _ _ _ _ _ _ (hJ0.mono (by omega))
  · have n0 : (0 : Int32).toInt = 0 := rfl
    have n1 : (1 : Int32).toInt = 1 := rfl
    have hs0 := Int32.lt_iff_toInt_lt.mp (Int32.not_le.mp c_711)
    have hs1 : 1 ≤ (y.2.2.2.2 kk).2 10 := Int32.le_iff_toInt_le.mpr (by
      have hs2 : (0 : Int32).toInt < ((y.2.2.2.2 kk).2 10).toInt := hs0
      omega)
    have es : vOfRun (vPutRun y kk (vSet1 (y.2.2.2.2 kk) 10 ((y.2.2.2.2 kk).2 10 - 1))) kk 7 = (y.2.2.2.2 kk).2 10 - 1 := by
      show (mj_row y.2.2.2.2 kk (vSet1 (y.2.2.2.2 kk) 10 ((y.2.2.2.2 kk).2 10 - 1)) kk).2 10 = _
      rw [mj_rowe]
      exact vSet1_e _ _ _
    refine mj_aload_n (i := 1) (q := 715) dL_law_714 rfl rfl rfl ?_
    refine mj_iload (i := 13) (q := 717) dL_law_715 rfl rfl ?_
    refine mj_cV1i (K := m_X5_search) (q := 720) dL_law_717 ln_L_64 ok_X5_search (Nat.le_of_ble_eq_true rfl) (by decide) (by assumption) rfl rfl (s_search hP hN hkk hs1) (fun r_717 h1 hq => ?_)
    obtain ⟨rfl, f1, rfl, hN1, hFr⟩ := hq
    refine mj_aload_n (i := 1) (q := 721) dL_law_720 rfl rfl rfl ?_
    refine mj_iload (i := 13) (q := 723) dL_law_721 rfl rfl ?_
    refine mj_num2 (v := nI 7) (q := 725) (by decide) dL_law_723 rfl ?_
    refine mj_cV2i (K := m_X5_ofRun) (q := 728) dL_law_725 ln_L_33 ok_X5_ofRun (Nat.le_of_ble_eq_true rfl) (by decide) (by assumption) rfl rfl (s_ofRun hP hN1 hkk (by decide)) (fun r_725 h1 hq => ?_)
    obtain ⟨rfl, rfl⟩ := hq
    rw [es]
    refine mj_icmp_eq (tgt := 1358) (q := 731) dL_law_728 (by decide) rfl (fun c_728 => ?_) (fun c_728 => absurd rfl c_728)
    exact k _ _ _ _ _ _ _ _ _ _ _ _ _ _ _ _ _ _ _ _ _ _ _ _ _ (hJ0.step hN1 rfl rfl hFr (JY.mono (hY.search hkk) (by omega)) (fun j => putRow6 (by rfl) j) (fun _ _ => rfl))
set_option maxHeartbeats 400000 in
set_option maxRecDepth 100000 in
theorem lc_sweep0 {d lc rc L T kk lf mc ms : Nat} {n : Nat} {K : Nat → mj_K} {f : Nat → Nat → Int32} {g : Nat → Nat → Option Nat} {y : mV} {v5 v6 v7 v9 v10 v11 vx io : Int32} {w16 w17 w18 w19 w20 w21 w22 w23 w24 w25 w26 : Value} (hJ : LJ lc rc L T n K f g y v5 v6 v7 v9 v10) (hT : T ≤ 420) (hkk : kk < rc) (hlf : lf < lc) (hio : (y.2.2.2.2 kk).2 15 = 0) (k : lw_K d lc rc L (T + 6) mc ms v11) : mj_W m_law (d + 8) mc ms lw_QL 773 [.ref 0, .ref 1, .int (nI lc), .int (nI rc), .ref 144, .int v5, .int v6, .int v7, .ref 145, .int v9, .int v10, .int v11, .int vx, .int (nI kk), .int (nI lf), .int 0, w16, w17, w18, w19, w20, w21, w22, w23, w24, w25, w26] [] (n, K, f, g) := by
  have hJ0 := hJ
  obtain ⟨hn, k0, hL, hP, hN, rfl, rfl, h1lc, h1rc, kar, kea, hY, ⟨b, hb, rfl, h7⟩, ⟨q, hq20, rfl, h8⟩, rfl, hE, rfl, rfl⟩ := hJ
  have kx := hP.1
  refine mj_iload (i := 15) (q := 775) dL_law_773 rfl rfl ?_
  refine mj_if_ne (tgt := 1358) (q := 778) dL_law_775 (by decide) rfl (fun c_775 => absurd rfl c_775) (fun c_775 => ?_)
  have es : vOfRun (vPutRun y kk (vSet1 (y.2.2.2.2 kk) 17 1)) kk 13 = 1 := by
    show v01 ((mj_row y.2.2.2.2 kk (vSet1 (y.2.2.2.2 kk) 17 1) kk).2 17) = _
    rw [mj_rowe, show (vSet1 (y.2.2.2.2 kk) 17 1).2 17 = 1 from vSet1_e _ _ _]
    rfl
  refine mj_aload_n (i := 1) (q := 779) dL_law_778 rfl rfl rfl ?_
  refine mj_iload (i := 13) (q := 781) dL_law_779 rfl rfl ?_
  refine mj_cV1i (K := m_X5_sweep) (q := 784) dL_law_781 ln_L_73 ok_X5_sweep (Nat.le_of_ble_eq_true rfl) (by decide) (by assumption) rfl rfl (s_sweep hP hN hkk hio) (fun r_781 h1 hq => ?_)
  obtain ⟨rfl, f1, rfl, hN1, hFr⟩ := hq
  refine mj_if_eq (tgt := 1358) (q := 787) dL_law_784 (by decide) rfl (fun c_784 => ?_) (fun c_784 => ?_)
  · exact k _ _ _ _ _ _ _ _ _ _ _ _ _ _ _ _ _ _ _ _ _ _ _ _ _ (hJ0.step hN1 rfl rfl hFr (JY.mono (hY.sweep hkk) (by omega)) (fun j => putRow6 (by rfl) j) (fun _ _ => rfl))
  · refine mj_aload_n (i := 1) (q := 788) dL_law_787 rfl rfl rfl ?_
    refine mj_iload (i := 13) (q := 790) dL_law_788 rfl rfl ?_
    refine mj_num2 (v := nI 13) (q := 792) (by decide) dL_law_790 rfl ?_
    refine mj_cV2i (K := m_X5_ofRun) (q := 795) dL_law_792 ln_L_33 ok_X5_ofRun (Nat.le_of_ble_eq_true rfl) (by decide) (by assumption) rfl rfl (s_ofRun hP hN1 hkk (by decide)) (fun r_792 h1 hq => ?_)
    obtain ⟨rfl, rfl⟩ := hq
    rw [es]
    refine mj_num1 (v := 1) (q := 796) rfl dL_law_795 rfl ?_
    refine mj_icmp_eq (tgt := 1358) (q := 799) dL_law_796 (by decide) rfl (fun c_796 => ?_) (fun c_796 => absurd rfl c_796)
    exact k _ _ _ _ _ _ _ _ _ _ _ _ _ _ _ _ _ _ _ _ _ _ _ _ _ (hJ0.step hN1 rfl rfl hFr (JY.mono (hY.sweep hkk) (by omega)) (fun j => putRow6 (by rfl) j) (fun _ _ => rfl))
set_option maxHeartbeats 400000 in
set_option maxRecDepth 100000 in
theorem lc_sweep1 {d lc rc L T kk lf mc ms : Nat} {n : Nat} {K : Nat → mj_K} {f : Nat → Nat → Int32} {g : Nat → Nat → Option Nat} {y : mV} {v5 v6 v7 v9 v10 v11 vx io : Int32} {w16 w17 w18 w19 w20 w21 w22 w23 w24 w25 w26 : Value} (hJ : LJ lc rc L T n K f g y v5 v6 v7 v9 v10) (hT : T ≤ 420) (hkk : kk < rc) (hlf : lf < lc) (hio : ¬ (y.2.2.2.2 kk).2 15 = 0) (k : lw_K d lc rc L (T + 6) mc ms v11) : mj_W m_law (d + 8) mc ms lw_QL 773 [.ref 0, .ref 1, .int (nI lc), .int (nI rc), .ref 144, .int v5, .int v6, .int v7, .ref 145, .int v9, .int v10, .int v11, .int vx, .int (nI kk), .int (nI lf), .int 1, w16, w17, w18, w19, w20, w21, w22, w23, w24, w25, w26] [] (n, K, f, g) := by
  have hJ0 := hJ
  obtain ⟨hn, k0, hL, hP, hN, rfl, rfl, h1lc, h1rc, kar, kea, hY, ⟨b, hb, rfl, h7⟩, ⟨q, hq20, rfl, h8⟩, rfl, hE, rfl, rfl⟩ := hJ
  have kx := hP.1
  refine mj_iload (i := 15) (q := 775) dL_law_773 rfl rfl ?_
  refine mj_if_ne (tgt := 1358) (q := 778) dL_law_775 (by decide) rfl (fun c_775 => ?_) (fun c_775 => absurd c_775 (by decide))
  exact k _ _ _ _ _ _ _ _ _ _ _ _ _ _ _ _ _ _ _ _ _ _ _ _ _ (hJ0.mono (by omega))
theorem vOpenV_1 (y : mV) (kk : Nat) : (vOpenV y kk).1 = y.1 ∧ (vOpenV y kk).2.1 = y.2.1 ∧ (∀ j, ((vOpenV y kk).2.2.2.2 j).2 6 = (y.2.2.2.2 j).2 6) ∧ ∀ j, j = 7 ∨ j = 8 ∨ j = 9 ∨ j = 14 ∨ j = 15 → (vOpenV y kk).2.2.1 j = y.2.2.1 j := by
  unfold vOpenV
  split
  · exact ⟨rfl, rfl, fun j => putRow6 (by rfl) j, fun _ _ => rfl⟩
  · exact ⟨rfl, rfl, fun _ => rfl, fun _ _ => rfl⟩
set_option maxHeartbeats 400000 in
set_option maxRecDepth 100000 in
theorem lc_open0 {d lc rc L T kk lf mc ms : Nat} {n : Nat} {K : Nat → mj_K} {f : Nat → Nat → Int32} {g : Nat → Nat → Option Nat} {y : mV} {v5 v6 v7 v9 v10 v11 vx io : Int32} {w16 w17 w18 w19 w20 w21 w22 w23 w24 w25 w26 : Value} (hJ : LJ lc rc L T n K f g y v5 v6 v7 v9 v10) (hT : T ≤ 420) (hkk : kk < rc) (hlf : lf < lc) (hio : (y.2.2.2.2 kk).2 15 = 0) (k : lw_K d lc rc L (T + 6) mc ms v11) : mj_W m_law (d + 8) mc ms lw_QL 941 [.ref 0, .ref 1, .int (nI lc), .int (nI rc), .ref 144, .int v5, .int v6, .int v7, .ref 145, .int v9, .int v10, .int v11, .int vx, .int (nI kk), .int (nI lf), .int 0, w16, w17, w18, w19, w20, w21, w22, w23, w24, w25, w26] [] (n, K, f, g) := by
  have hJ0 := hJ
  obtain ⟨hn, k0, hL, hP, hN, rfl, rfl, h1lc, h1rc, kar, kea, hY, ⟨b, hb, rfl, h7⟩, ⟨q, hq20, rfl, h8⟩, rfl, hE, rfl, rfl⟩ := hJ
  have kx := hP.1
  refine mj_iload (i := 15) (q := 943) dL_law_941 rfl rfl ?_
  refine mj_if_eq (tgt := 949) (q := 946) dL_law_943 (by decide) rfl (fun c_943 => ?_) (fun c_943 => absurd rfl c_943)
  obtain ⟨w6, eo1, eo2, eo⟩ : ∃ w6 : Int32, (vBarNow y.2.2.1 y.2.2.2.1 (y.2.2.2.2 kk) = 0 → w6 = 1) ∧ (¬ vBarNow y.2.2.1 y.2.2.2.1 (y.2.2.2.2 kk) = 0 → w6 = 0) ∧ vOfRun (vOpenV y kk) kk 6 = w6 := by
    unfold vOpenV
    split
    · rename_i hb0
      refine ⟨1, fun _ => rfl, fun z => absurd hb0 z, ?_⟩
      show v01 ((mj_row y.2.2.2.2 kk (vSet1 (vSet1 (y.2.2.2.2 kk) 15 1) 13 (y.2.2.1 4)) kk).2 15) = 1
      rw [mj_rowe]
      rfl
    · rename_i hb0
      refine ⟨0, fun z => absurd z hb0, fun _ => rfl, ?_⟩
      show v01 ((y.2.2.2.2 kk).2 15) = 0
      rw [hio]
      rfl
  refine mj_aload_n (i := 1) (q := 950) dL_law_949 rfl rfl rfl ?_
  refine mj_iload (i := 13) (q := 952) dL_law_950 rfl rfl ?_
  refine mj_num2 (v := nI 8) (q := 954) (by decide) dL_law_952 rfl ?_
  refine mj_cV2i (K := m_X5_ofRun) (q := 957) dL_law_954 ln_L_33 ok_X5_ofRun (Nat.le_of_ble_eq_true rfl) (by decide) (by assumption) rfl rfl (s_ofRun hP hN hkk (by decide)) (fun r_954 h1 hq => ?_)
  obtain ⟨rfl, rfl⟩ := hq
  refine mj_istore (i := 16) (q := 959) dL_law_957 rfl (by decide) rfl ?_
  dsimp only [List.set]
  refine mj_aload_n (i := 1) (q := 960) dL_law_959 rfl rfl rfl ?_
  refine mj_iload (i := 13) (q := 962) dL_law_960 rfl rfl ?_
  refine mj_cV1i (K := m_X5_open) (q := 965) dL_law_962 ln_L_84 ok_X5_open (Nat.le_of_ble_eq_true rfl) (by decide) (by assumption) rfl rfl (s_open hP hN hkk hio) (fun r_962 h1 hq => ?_)
  obtain ⟨rfl, f1, rfl, hN1, hFr⟩ := hq
  refine mj_iload (i := 16) (q := 967) dL_law_965 rfl rfl ?_
  refine mj_icmp_ne (tgt := 991) (q := 970) dL_law_967 (by decide) rfl (fun c_967 => absurd rfl c_967) (fun c_967 => ?_)
  refine mj_aload_n (i := 1) (q := 971) dL_law_970 rfl rfl rfl ?_
  refine mj_iload (i := 13) (q := 973) dL_law_971 rfl rfl ?_
  refine mj_num2 (v := nI 6) (q := 975) (by decide) dL_law_973 rfl ?_
  refine mj_cV2i (K := m_X5_ofRun) (q := 978) dL_law_975 ln_L_33 ok_X5_ofRun (Nat.le_of_ble_eq_true rfl) (by decide) (by assumption) rfl rfl (s_ofRun hP hN1 (by rw [(vOpenV_1 y kk).2.1]; exact hkk) (by decide)) (fun r_975 h1 hq => ?_)
  obtain ⟨rfl, rfl⟩ := hq
  rw [eo]
  refine mj_iload (i := 16) (q := 980) dL_law_978 rfl rfl ?_
  refine mj_if_ne (tgt := 987) (q := 983) dL_law_980 (by decide) rfl (fun c_980 => ?_) (fun c_980 => ?_)
  · refine mj_num1 (v := 0) (q := 988) rfl dL_law_987 rfl ?_
    refine mj_icmp_eq (tgt := 1358) (q := 991) dL_law_988 (by decide) rfl (fun c_988 => ?_) (fun c_988 => absurd (eo2 c_980) c_988)
    exact k _ _ _ _ _ _ _ _ _ _ _ _ _ _ _ _ _ _ _ _ _ _ _ _ _ (hJ0.step hN1 (vOpenV_1 y kk).1 (vOpenV_1 y kk).2.1 hFr (JY.mono (hY.opens hkk) (by omega)) (vOpenV_1 y kk).2.2.1 (vOpenV_1 y kk).2.2.2)
  · refine mj_num1 (v := 1) (q := 984) rfl dL_law_983 rfl ?_
    refine mj_goto (q := 988) dL_law_984 (by decide) ?_
    refine mj_icmp_eq (tgt := 1358) (q := 991) dL_law_988 (by decide) rfl (fun c_988 => ?_) (fun c_988 => absurd (eo1 c_980) c_988)
    exact k _ _ _ _ _ _ _ _ _ _ _ _ _ _ _ _ _ _ _ _ _ _ _ _ _ (hJ0.step hN1 (vOpenV_1 y kk).1 (vOpenV_1 y kk).2.1 hFr (JY.mono (hY.opens hkk) (by omega)) (vOpenV_1 y kk).2.2.1 (vOpenV_1 y kk).2.2.2)
set_option maxHeartbeats 400000 in
set_option maxRecDepth 100000 in
theorem lc_open1 {d lc rc L T kk lf mc ms : Nat} {n : Nat} {K : Nat → mj_K} {f : Nat → Nat → Int32} {g : Nat → Nat → Option Nat} {y : mV} {v5 v6 v7 v9 v10 v11 vx io : Int32} {w16 w17 w18 w19 w20 w21 w22 w23 w24 w25 w26 : Value} (hJ : LJ lc rc L T n K f g y v5 v6 v7 v9 v10) (hT : T ≤ 420) (hkk : kk < rc) (hlf : lf < lc) (hio : ¬ (y.2.2.2.2 kk).2 15 = 0) (k : lw_K d lc rc L (T + 6) mc ms v11) : mj_W m_law (d + 8) mc ms lw_QL 941 [.ref 0, .ref 1, .int (nI lc), .int (nI rc), .ref 144, .int v5, .int v6, .int v7, .ref 145, .int v9, .int v10, .int v11, .int vx, .int (nI kk), .int (nI lf), .int 1, w16, w17, w18, w19, w20, w21, w22, w23, w24, w25, w26] [] (n, K, f, g) := by
  have hJ0 := hJ
  obtain ⟨hn, k0, hL, hP, hN, rfl, rfl, h1lc, h1rc, kar, kea, hY, ⟨b, hb, rfl, h7⟩, ⟨q, hq20, rfl, h8⟩, rfl, hE, rfl, rfl⟩ := hJ
  have kx := hP.1
  refine mj_iload (i := 15) (q := 943) dL_law_941 rfl rfl ?_
  refine mj_if_eq (tgt := 949) (q := 946) dL_law_943 (by decide) rfl (fun c_943 => absurd c_943 (by decide)) (fun c_943 => ?_)
  refine mj_goto (q := 1358) dL_law_946 (by decide) ?_
  exact k _ _ _ _ _ _ _ _ _ _ _ _ _ _ _ _ _ _ _ _ _ _ _ _ _ (hJ0.mono (by omega))
set_option maxHeartbeats 400000 in
set_option maxRecDepth 100000 in
theorem lc_close0 {d lc rc L T kk lf mc ms : Nat} {n : Nat} {K : Nat → mj_K} {f : Nat → Nat → Int32} {g : Nat → Nat → Option Nat} {y : mV} {v5 v6 v7 v9 v10 v11 vx io : Int32} {w16 w17 w18 w19 w20 w21 w22 w23 w24 w25 w26 : Value} (hJ : LJ lc rc L T n K f g y v5 v6 v7 v9 v10) (hT : T ≤ 420) (hkk : kk < rc) (hlf : lf < lc) (hio : (y.2.2.2.2 kk).2 15 = 0) (k : lw_K d lc rc L (T + 6) mc ms v11) : mj_W m_law (d + 8) mc ms lw_QL 993 [.ref 0, .ref 1, .int (nI lc), .int (nI rc), .ref 144, .int v5, .int v6, .int v7, .ref 145, .int v9, .int v10, .int v11, .int vx, .int (nI kk), .int (nI lf), .int 0, w16, w17, w18, w19, w20, w21, w22, w23, w24, w25, w26] [] (n, K, f, g) := by
  have hJ0 := hJ
  obtain ⟨hn, k0, hL, hP, hN, rfl, rfl, h1lc, h1rc, kar, kea, hY, ⟨b, hb, rfl, h7⟩, ⟨q, hq20, rfl, h8⟩, rfl, hE, rfl, rfl⟩ := hJ
  have kx := hP.1
  refine mj_iload (i := 15) (q := 995) dL_law_993 rfl rfl ?_
  refine mj_if_eq (tgt := 1358) (q := 998) dL_law_995 (by decide) rfl (fun c_995 => ?_) (fun c_995 => absurd rfl c_995)
  exact k _ _ _ _ _ _ _ _ _ _ _ _ _ _ _ _ _ _ _ _ _ _ _ _ _ (hJ0.mono (by omega))
set_option maxHeartbeats 400000 in
set_option maxRecDepth 100000 in
theorem lc_close1 {d lc rc L T kk lf mc ms : Nat} {n : Nat} {K : Nat → mj_K} {f : Nat → Nat → Int32} {g : Nat → Nat → Option Nat} {y : mV} {v5 v6 v7 v9 v10 v11 vx io : Int32} {w16 w17 w18 w19 w20 w21 w22 w23 w24 w25 w26 : Value} (hJ : LJ lc rc L T n K f g y v5 v6 v7 v9 v10) (hT : T ≤ 420) (hkk : kk < rc) (hlf : lf < lc) (hio : ¬ (y.2.2.2.2 kk).2 15 = 0) (k : lw_K d lc rc L (T + 6) mc ms v11) : mj_W m_law (d + 8) mc ms lw_QL 993 [.ref 0, .ref 1, .int (nI lc), .int (nI rc), .ref 144, .int v5, .int v6, .int v7, .ref 145, .int v9, .int v10, .int v11, .int vx, .int (nI kk), .int (nI lf), .int 1, w16, w17, w18, w19, w20, w21, w22, w23, w24, w25, w26] [] (n, K, f, g) := by
  have hJ0 := hJ
  obtain ⟨hn, k0, hL, hP, hN, rfl, rfl, h1lc, h1rc, kar, kea, hY, ⟨b, hb, rfl, h7⟩, ⟨q, hq20, rfl, h8⟩, rfl, hE, rfl, rfl⟩ := hJ
  have kx := hP.1
  refine mj_iload (i := 15) (q := 995) dL_law_993 rfl rfl ?_
  refine mj_if_eq (tgt := 1358) (q := 998) dL_law_995 (by decide) rfl (fun c_995 => absurd c_995 (by decide)) (fun c_995 => ?_)
  have n0 : (0 : Int32).toInt = 0 := rfl
  have t13 := hY.2.2.2.2.2.2.2.2.2.2.2.2.2 kk hkk
  have t4 := hY.2.2.2.2.2.2.2.2.2.2.2.2.1
  have s := ir_sub (x := y.2.2.1 4) (y := (y.2.2.2.2 kk).2 13) (by omega) (by omega)
  have ge : ¬ y.2.2.1 4 - (y.2.2.2.2 kk).2 13 < 0 := fun z => by
    have z := Int32.lt_iff_toInt_lt.mp z
    omega
  have e6 : vOfRun (vPutRun y kk (vSet1 (vSet1 (y.2.2.2.2 kk) 15 0) 17 0)) kk 6 = 0 := by
    show v01 ((mj_row y.2.2.2.2 kk (vSet1 (vSet1 (y.2.2.2.2 kk) 15 0) 17 0) kk).2 15) = 0
    rw [mj_rowe]
    rfl
  have e13 : vOfRun (vPutRun y kk (vSet1 (vSet1 (y.2.2.2.2 kk) 15 0) 17 0)) kk 13 = 0 := by
    show v01 ((mj_row y.2.2.2.2 kk (vSet1 (vSet1 (y.2.2.2.2 kk) 15 0) 17 0) kk).2 17) = 0
    rw [mj_rowe]
    rfl
  refine mj_aload_n (i := 1) (q := 999) dL_law_998 rfl rfl rfl ?_
  refine mj_iload (i := 13) (q := 1001) dL_law_999 rfl rfl ?_
  refine mj_cV1i (K := m_X5_close) (q := 1004) dL_law_1001 ln_L_87 ok_X5_close (Nat.le_of_ble_eq_true rfl) (by decide) (by assumption) rfl rfl (s_close hP hN hkk hio) (fun r_1001 h1 hq => ?_)
  obtain ⟨rfl, f1, rfl, hN1, hFr⟩ := hq
  refine mj_if_lt (tgt := 1029) (q := 1007) dL_law_1004 (by decide) rfl (fun c_1004 => absurd c_1004 ge) (fun c_1004 => ?_)
  refine mj_aload_n (i := 1) (q := 1008) dL_law_1007 rfl rfl rfl ?_
  refine mj_iload (i := 13) (q := 1010) dL_law_1008 rfl rfl ?_
  refine mj_num2 (v := nI 6) (q := 1012) (by decide) dL_law_1010 rfl ?_
  refine mj_cV2i (K := m_X5_ofRun) (q := 1015) dL_law_1012 ln_L_33 ok_X5_ofRun (Nat.le_of_ble_eq_true rfl) (by decide) (by assumption) rfl rfl (s_ofRun hP hN1 hkk (by decide)) (fun r_1012 h1 hq => ?_)
  obtain ⟨rfl, rfl⟩ := hq
  rw [e6]
  refine mj_if_ne (tgt := 1029) (q := 1018) dL_law_1015 (by decide) rfl (fun c_1015 => absurd rfl c_1015) (fun c_1015 => ?_)
  refine mj_aload_n (i := 1) (q := 1019) dL_law_1018 rfl rfl rfl ?_
  refine mj_iload (i := 13) (q := 1021) dL_law_1019 rfl rfl ?_
  refine mj_num2 (v := nI 13) (q := 1023) (by decide) dL_law_1021 rfl ?_
  refine mj_cV2i (K := m_X5_ofRun) (q := 1026) dL_law_1023 ln_L_33 ok_X5_ofRun (Nat.le_of_ble_eq_true rfl) (by decide) (by assumption) rfl rfl (s_ofRun hP hN1 hkk (by decide)) (fun r_1023 h1 hq => ?_)
  obtain ⟨rfl, rfl⟩ := hq
  rw [e13]
  refine mj_if_eq (tgt := 1358) (q := 1029) dL_law_1026 (by decide) rfl (fun c_1026 => ?_) (fun c_1026 => absurd rfl c_1026)
  exact k _ _ _ _ _ _ _ _ _ _ _ _ _ _ _ _ _ _ _ _ _ _ _ _ _ (hJ0.step hN1 rfl rfl hFr (JY.mono (hY.close hkk) (by omega)) (fun j => putRow6 (by rfl) j) (fun _ _ => rfl))
