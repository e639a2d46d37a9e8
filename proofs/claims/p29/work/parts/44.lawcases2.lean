/-! THE LAW: guns, crowd, blast, test, groom -/
set_option maxHeartbeats 200000 in
theorem LJ.guns {lc rc L T n i j : Nat} {K : Nat → mj_K} {f f1 : Nat → Nat → Int32} {g : Nat → Nat → Option Nat} {y : mV} {v5 v6 v7 v9 v10 : Int32} (h : LJ lc rc L T n K f g y v5 v6 v7 v9 v10) (hi : i < rc) (hj : j < 10) (hN : MN f1 2 (vPutRun y i (vSet1 (y.2.2.2.2 i) 6 (nI j)))) (hF : mj_Fr 2 49 (mj_up f 145 i (nI j)) f1) : LJ lc rc L T n K f1 g (vPutRun y i (vSet1 (y.2.2.2.2 i) 6 (nI j))) v5 v6 (v7 + (nI j - (y.2.2.2.2 i).2 6)) v9 v10 := by
  obtain ⟨a, b, c, d, e, hi1, hj1, k, l, m, o, p, q, r, s, t, u, v⟩ := h
  have a4 : f1 144 = f 144 := (hF 144 (Or.inr (by decide))).trans (mj_upr (by decide))
  have a5 : f1 145 = mj_up f 145 i (nI j) 145 := hF 145 (Or.inr (by decide))
  have nj := nI_toInt (n := j) (by omega)
  refine ⟨a, b, c, d, hN, hi1, hj1, k, l, m, o, ?_, q, r, ?_, fun k hk => ?_, u, v⟩
  · rw [a4]; exact p.guns (by rw [hj1]; exact hi) ⟨by omega, by omega⟩
  · rw [s]
    have z := rSum_row_to (rs := y.2.2.2.2) (w := 6) (i := i) (x := vSet1 (y.2.2.2.2 i) 6 (nI j)) rc hi
    rw [show (vSet1 (y.2.2.2.2 i) 6 (nI j)).2 6 = nI j from vSet1_e _ _ _] at z
    exact z.symm
  · show f1 145 k = (mj_row y.2.2.2.2 i (vSet1 (y.2.2.2.2 i) 6 (nI j)) k).2 6
    rw [a5]
    by_cases e : k = i
    · subst e; rw [mj_upe, mj_rowe]; exact (vSet1_e _ _ _).symm
    · rw [mj_rown e, ← t k hk]
      unfold mj_up
      rw [if_neg (fun z => e z.2)]
set_option maxHeartbeats 200000 in
theorem LJ.crowd {lc rc L T n : Nat} {K : Nat → mj_K} {f f1 : Nat → Nat → Int32} {g : Nat → Nat → Option Nat} {y : mV} {v5 v6 v7 v9 v10 v : Int32} (h : LJ lc rc L T n K f g y v5 v6 v7 v9 v10) (hv : IR 0 5000 v) (hN : MN f1 2 (vPutMu y (upd y.2.2.1 9 v))) (hF : mj_Fr 2 49 f f1) : LJ lc rc L T n K f1 g (vPutMu y (upd y.2.2.1 9 v)) v5 v6 v7 v v10 := by
  obtain ⟨a, b, c, d, e, hi1, hj1, k, l, m, o, p, q, r, s, t, u, w⟩ := h
  have a4 : f1 144 = f 144 := hF 144 (Or.inr (by decide))
  have a5 : f1 145 = f 145 := hF 145 (Or.inr (by decide))
  refine ⟨a, b, c, d, hN, hi1, hj1, k, l, m, o, by rw [a4]; exact p.crowd hv, q, r, s, fun k hk => by rw [a5]; exact t k hk, rfl, w⟩
theorem vBlastV_1 (y : mV) (i : Nat) : (vBlastV y i).1 = y.1 ∧ (vBlastV y i).2.1 = y.2.1 ∧ (∀ j, ((vBlastV y i).2.2.2.2 j).2 6 = (y.2.2.2.2 j).2 6) ∧ (vBlastV y i).2.2.1 7 = y.2.2.1 7 - 1 ∧ ∀ j, j = 8 ∨ j = 9 ∨ j = 14 ∨ j = 15 → (vBlastV y i).2.2.1 j = y.2.2.1 j := by
  unfold vBlastV
  split
  · exact ⟨rfl, rfl, fun j => putRow6 (by rfl) j, rfl, fun j hj => upd_n (by omega)⟩
  · split
    · refine ⟨rfl, rfl, fun j => putRow6 (by rfl) j, ?_, fun j hj => ?_⟩
      · show vSlideMu (upd y.2.2.1 7 (y.2.2.1 7 - 1)) (vSlideSize (y.2.2.2.2 i)) 7 = _
        unfold vSlideMu
        split <;> rfl
      · show vSlideMu (upd y.2.2.1 7 (y.2.2.1 7 - 1)) (vSlideSize (y.2.2.2.2 i)) j = _
        unfold vSlideMu
        split
        · rw [upd_n (by omega), upd_n (by omega)]
        · rw [upd_n (by omega), upd_n (by omega), upd_n (by omega)]
    · exact ⟨rfl, rfl, fun _ => rfl, rfl, fun j hj => upd_n (by omega)⟩
set_option maxHeartbeats 200000 in
theorem LJ.blast {lc rc L T n i b : Nat} {K : Nat → mj_K} {f f1 : Nat → Nat → Int32} {g : Nat → Nat → Option Nat} {y : mV} {v6 v7 v9 v10 : Int32} (h : LJ lc rc L T n K f g y (nI b) v6 v7 v9 v10) (hT : T ≤ 420) (hi : i < rc) (hb : b < 50) (h7 : y.2.2.1 7 = 50 - nI b) (hN : MN f1 2 (vBlastV y i)) (hF : mj_Fr 2 49 f f1) : LJ lc rc L (T + 1) n K f1 g (vBlastV y i) (nI (b + 1)) v6 v7 v9 v10 := by
  obtain ⟨a, b1, c, d, e, hi1, hj1, k, l, m, o, p, q, ⟨r1, r2, r3, r4⟩, s, t, u, w⟩ := h
  obtain ⟨x1, x2, x3, x4, x5⟩ := vBlastV_1 y i
  have a4 : f1 144 = f 144 := hF 144 (Or.inr (by decide))
  have a5 : f1 145 = f 145 := hF 145 (Or.inr (by decide))
  refine ⟨a, b1, c, d, hN, x1.trans hi1, x2.trans hj1, k, l, m, o, by rw [a4]; exact p.blast (by omega) (by rw [hj1]; exact hi), ⟨b + 1, by omega, rfl, ?_⟩, ⟨r1, r2, r3, (x5 8 (by simp)).trans r4⟩, s.trans (rSum_congr (fun i _ => (x3 i).symm)), fun k hk => ?_, u.trans (x5 9 (by simp)).symm, ?_⟩
  · rw [x4, h7]; exact n_blast2 b hb
  · rw [a5, t k hk, x3 k]
  · rw [w, x5 14 (by simp), x5 15 (by simp)]
set_option maxHeartbeats 200000 in
theorem LJ.groom {lc rc L T n i q : Nat} {K : Nat → mj_K} {f f1 : Nat → Nat → Int32} {g : Nat → Nat → Option Nat} {y : mV} {v5 v7 v9 v10 : Int32} (h : LJ lc rc L T n K f g y v5 (nI q) v7 v9 v10) (hi : i < rc) (hq : q < 20) (h8 : y.2.2.1 8 = 100 - 5 * nI q) (hN : MN f1 2 (vGroomV y i)) (hF : mj_Fr 2 49 f f1) : LJ lc rc L T n K f1 g (vGroomV y i) v5 (nI (q + 1)) v7 v9 v10 := by
  obtain ⟨a, b1, c, d, e, hi1, hj1, k, l, m, o, p, ⟨q1, q2, q3, q4⟩, r, s, t, u, w⟩ := h
  have a4 : f1 144 = f 144 := hF 144 (Or.inr (by decide))
  have a5 : f1 145 = f 145 := hF 145 (Or.inr (by decide))
  have x3 : ∀ j, ((vGroomV y i).2.2.2.2 j).2 6 = (y.2.2.2.2 j).2 6 := fun j => putRow6 (by rfl) j
  have x5 : ∀ j, j ≠ 8 → (vGroomV y i).2.2.1 j = y.2.2.1 j := fun j hj => upd_n hj
  refine ⟨a, b1, c, d, hN, hi1, hj1, k, l, m, o, by rw [a4]; exact p.groom (by rw [hj1]; exact hi), ⟨q1, q2, q3, (x5 7 (by decide)).trans q4⟩, ⟨q + 1, by omega, rfl, ?_⟩, s.trans (rSum_congr (fun i _ => (x3 i).symm)), fun k hk => ?_, u.trans (x5 9 (by decide)).symm, ?_⟩
  · show upd y.2.2.1 8 (y.2.2.1 8 - 5) 8 = _
    rw [upd_e, h8]; exact n_fuel2 q hq
  · rw [a5, t k hk, x3 k]
  · rw [w, x5 14 (by decide), x5 15 (by decide)]
set_option maxHeartbeats 400000 in
set_option maxRecDepth 100000 in
theorem lc_guns {d lc rc L T kk lf mc ms : Nat} {n : Nat} {K : Nat → mj_K} {f : Nat → Nat → Int32} {g : Nat → Nat → Option Nat} {y : mV} {v5 v6 v7 v9 v10 v11 vx io : Int32} {w16 w17 w18 w19 w20 w21 w22 w23 w24 w25 w26 : Value} (hJ : LJ lc rc L T n K f g y v5 v6 v7 v9 v10) (hT : T ≤ 420) (hkk : kk < rc) (hlf : lf < lc) (k : lw_K d lc rc L (T + 6) mc ms v11) : mj_W m_law (d + 8) mc ms lw_QL 428 [.ref 0, .ref 1, .int (nI lc), .int (nI rc), .ref 144, .int v5, .int v6, .int v7, .ref 145, .int v9, .int v10, .int v11, .int vx, .int (nI kk), .int (nI lf), .int io, w16, w17, w18, w19, w20, w21, w22, w23, w24, w25, w26] [] (n, K, f, g) := by
  have hJ0 := hJ
  obtain ⟨hn, k0, hL, hP, hN, rfl, rfl, h1lc, h1rc, kar, kea, hY, ⟨b, hb, rfl, h7⟩, ⟨q, hq20, rfl, h8⟩, rfl, hE, rfl, rfl⟩ := hJ
  have kx := hP.1
  have hrc8 := hN.2.1
  have hkk2 : kk < y.2.1 ∧ y.2.1 ≤ 1000 := ⟨hkk, by omega⟩
  refine mj_aload (i := 8) (q := 430) dL_law_428 rfl rfl ?_
  refine mj_iload (i := 13) (q := 432) dL_law_430 rfl rfl ?_
  refine mj_ialdn (q := 433) dL_law_432 rfl (by assumption) hkk2 ?_
  rw [hE kk hkk]
  refine mj_istore (i := 16) (q := 435) dL_law_433 rfl (by decide) rfl ?_
  dsimp only [List.set]
  refine mj_aload (i := 8) (q := 437) dL_law_435 rfl rfl ?_
  refine mj_iload (i := 13) (q := 439) dL_law_437 rfl rfl ?_
  refine mj_iload (i := 12) (q := 441) dL_law_439 rfl rfl ?_
  refine mj_num2 (v := 6) (q := 443) (by decide) dL_law_441 rfl ?_
  refine mj_ishr (q := 444) dL_law_443 rfl ?_
  refine mj_num2 (v := nI 10) (q := 446) (by decide) dL_law_444 rfl ?_
  refine mj_cS2i (K := m_L_below) (q := 449) dL_law_446 ln_L_9 ok_L_below (Nat.le_of_ble_eq_true rfl) (by decide) rfl (s_below (by decide)) (fun r_446 h1 hq => ?_)
  obtain ⟨rfl, rfl⟩ := hq
  obtain ⟨j, hj, ej⟩ := vBelow_rng (vShr vx 6) (n := 10) (by decide) (by decide)
  have ej2 : vBelow (vx >>> (6 &&& 31)) (nI 10) = nI j := ej
  rw [ej2]
  refine mj_iastn (q := 450) dL_law_449 rfl (by assumption) hkk2 ?_
  have hN2 : MN (mj_up f 145 kk (nI j)) 2 y := hN.keep (mj_Fr.rf.up (lo := 145) (hi := 146) (by decide) (by decide)) (Or.inl (by decide))
  have nj := nI_toInt (n := j) (by omega)
  have n0 : (0 : Int32).toInt = 0 := rfl
  have n9 : (9 : Int32).toInt = 9 := rfl
  have hv1 : 0 ≤ nI j := Int32.le_iff_toInt_le.mpr (by omega)
  have hv2 : nI j ≤ 9 := Int32.le_iff_toInt_le.mpr (by omega)
  refine mj_iload (i := 7) (q := 452) dL_law_450 rfl rfl ?_
  refine mj_aload (i := 8) (q := 454) dL_law_452 rfl rfl ?_
  refine mj_iload (i := 13) (q := 456) dL_law_454 rfl rfl ?_
  refine mj_ialdn (q := 457) dL_law_456 rfl (by assumption) hkk2 ?_
  rw [mj_upe]
  refine mj_iload (i := 16) (q := 459) dL_law_457 rfl rfl ?_
  refine mj_isub (q := 460) dL_law_459 rfl ?_
  refine mj_iadd (q := 461) dL_law_460 rfl ?_
  refine mj_istore (i := 7) (q := 463) dL_law_461 rfl (by decide) rfl ?_
  dsimp only [List.set]
  refine mj_aload_n (i := 1) (q := 464) dL_law_463 rfl rfl rfl ?_
  refine mj_iload (i := 13) (q := 466) dL_law_464 rfl rfl ?_
  refine mj_aload (i := 8) (q := 468) dL_law_466 rfl rfl ?_
  refine mj_iload (i := 13) (q := 470) dL_law_468 rfl rfl ?_
  refine mj_ialdn (q := 471) dL_law_470 rfl (by assumption) hkk2 ?_
  rw [mj_upe]
  refine mj_cV2i (K := m_X5_guns) (q := 474) dL_law_471 ln_L_43 ok_X5_guns (Nat.le_of_ble_eq_true rfl) (by decide) (by assumption) rfl rfl (s_guns hP hN2 hkk hv1 hv2) (fun r_471 h1 hq => ?_)
  obtain ⟨rfl, f1, rfl, hN1, hFr⟩ := hq
  refine mj_iload (i := 16) (q := 476) dL_law_474 rfl rfl ?_
  refine mj_icmp_eq (tgt := 1358) (q := 479) dL_law_476 (by decide) rfl (fun c_476 => ?_) (fun c_476 => absurd rfl c_476)
  exact k _ _ _ _ _ _ _ _ _ _ _ _ _ _ _ _ _ _ _ _ _ _ _ _ _ ((hJ0.guns hkk hj hN1 hFr).mono (by omega))
set_option maxHeartbeats 400000 in
set_option maxRecDepth 100000 in
theorem lc_crowd {d lc rc L T kk lf mc ms : Nat} {n : Nat} {K : Nat → mj_K} {f : Nat → Nat → Int32} {g : Nat → Nat → Option Nat} {y : mV} {v5 v6 v7 v9 v10 v11 vx io : Int32} {w16 w17 w18 w19 w20 w21 w22 w23 w24 w25 w26 : Value} (hJ : LJ lc rc L T n K f g y v5 v6 v7 v9 v10) (hT : T ≤ 420) (hkk : kk < rc) (hlf : lf < lc) (k : lw_K d lc rc L (T + 6) mc ms v11) : mj_W m_law (d + 8) mc ms lw_QL 543 [.ref 0, .ref 1, .int (nI lc), .int (nI rc), .ref 144, .int v5, .int v6, .int v7, .ref 145, .int v9, .int v10, .int v11, .int vx, .int (nI kk), .int (nI lf), .int io, w16, w17, w18, w19, w20, w21, w22, w23, w24, w25, w26] [] (n, K, f, g) := by
  have hJ0 := hJ
  obtain ⟨hn, k0, hL, hP, hN, rfl, rfl, h1lc, h1rc, kar, kea, hY, ⟨b, hb, rfl, h7⟩, ⟨q, hq20, rfl, h8⟩, rfl, hE, rfl, rfl⟩ := hJ
  have kx := hP.1
  refine mj_iload (i := 9) (q := 545) dL_law_543 rfl rfl ?_
  refine mj_istore (i := 16) (q := 547) dL_law_545 rfl (by decide) rfl ?_
  dsimp only [List.set]
  refine mj_iload (i := 12) (q := 549) dL_law_547 rfl rfl ?_
  refine mj_num1 (v := 3) (q := 550) rfl dL_law_549 rfl ?_
  refine mj_ishr (q := 551) dL_law_550 rfl ?_
  refine mj_num3 (v := nI 700) (q := 554) (by decide) dL_law_551 rfl ?_
  refine mj_cS2i (K := m_L_below) (q := 557) dL_law_554 ln_L_9 ok_L_below (Nat.le_of_ble_eq_true rfl) (by decide) rfl (s_below (by decide)) (fun r_554 h1 hq => ?_)
  obtain ⟨rfl, rfl⟩ := hq
  obtain ⟨j, hj, ej⟩ := vBelow_rng (vShr vx 3) (n := 700) (by decide) (by decide)
  have ej2 : vBelow (vx >>> (3 &&& 31)) (nI 700) = nI j := ej
  rw [ej2]
  have nj := nI_toInt (n := j) (by omega)
  have n0 : (0 : Int32).toInt = 0 := rfl
  have n9 : (5000 : Int32).toInt = 5000 := rfl
  have hv1 : 0 ≤ nI j := Int32.le_iff_toInt_le.mpr (by omega)
  have hv2 : nI j ≤ 5000 := Int32.le_iff_toInt_le.mpr (by omega)
  refine mj_istore (i := 9) (q := 559) dL_law_557 rfl (by decide) rfl ?_
  dsimp only [List.set]
  refine mj_aload_n (i := 1) (q := 560) dL_law_559 rfl rfl rfl ?_
  refine mj_iload (i := 9) (q := 562) dL_law_560 rfl rfl ?_
  refine mj_cV1i (K := m_X5_crowd) (q := 565) dL_law_562 ln_L_58 ok_X5_crowd (Nat.le_of_ble_eq_true rfl) (by decide) (by assumption) rfl rfl (s_crowd hP hN hv1 hv2) (fun r_562 h1 hq => ?_)
  obtain ⟨rfl, f1, rfl, hN1, hFr⟩ := hq
  refine mj_iload (i := 16) (q := 567) dL_law_565 rfl rfl ?_
  refine mj_icmp_eq (tgt := 1358) (q := 570) dL_law_567 (by decide) rfl (fun c_567 => ?_) (fun c_567 => absurd rfl c_567)
  exact k _ _ _ _ _ _ _ _ _ _ _ _ _ _ _ _ _ _ _ _ _ _ _ _ _ ((hJ0.crowd ⟨by omega, by omega⟩ hN1 hFr).mono (by omega))
set_option maxHeartbeats 400000 in
set_option maxRecDepth 100000 in
theorem lc_blastA {d lc rc L T kk lf mc ms b : Nat} {n : Nat} {K : Nat → mj_K} {f : Nat → Nat → Int32} {g : Nat → Nat → Option Nat} {y : mV} {v6 v7 v9 v10 v11 vx : Int32} {w16 w17 w18 w19 w20 w21 w22 w23 w24 w25 w26 : Value} (hJ : LJ lc rc L T n K f g y (nI b) v6 v7 v9 v10) (hT : T ≤ 420) (hkk : kk < rc) (hlf : lf < lc) (hio : (y.2.2.2.2 kk).2 15 = 0) (hb5 : b < 50) (h7 : y.2.2.1 7 = 50 - nI b) (hz : nI (b + 1) % 7 = 0) (k : lw_K d lc rc L (T + 6) mc ms v11) : mj_W m_law (d + 8) mc ms lw_QL 587 [.ref 0, .ref 1, .int (nI lc), .int (nI rc), .ref 144, .int (nI b), .int v6, .int v7, .ref 145, .int v9, .int v10, .int v11, .int vx, .int (nI kk), .int (nI lf), .int 0, w16, w17, w18, w19, w20, w21, w22, w23, w24, w25, w26] [] (n, K, f, g) := by
  have hJ0 := hJ
  obtain ⟨hn, k0, hL, hP, hN, rfl, rfl, h1lc, h1rc, kar, kea, hY, -, ⟨q, hq20, rfl, h8⟩, rfl, hE, rfl, rfl⟩ := hJ
  have kx := hP.1
  have hch : 1 ≤ y.2.2.1 7 := by rw [h7]; exact n_blast3 b hb5
  have hdd : vBlastDud y = (nI (b + 1) % 7 == 0) := by
    unfold vBlastDud
    rw [h7, n_blast b (by omega)]
  have hrc8 := hN.2.1
  have hkk2 : kk < y.2.1 ∧ y.2.1 ≤ 1000 := ⟨hkk, by omega⟩
  have hF5 := (hY.2.2.1 kk hkk).2
  have hIS := (hY.2.2.1 kk hkk).1
  have hkk1 : kk < (vBlastV y kk).2.1 := by rw [(vBlastV_1 y kk).2.1]; exact hkk
  have hd : vBlastDud y = true := by rw [hdd, hz]; rfl
  have eR : vBlastR y kk = -2 := by unfold vBlastR; rw [if_pos hd]
  have eo7 : vOfRun (vBlastV y kk) kk 7 = (y.2.2.2.2 kk).2 10 + 1 := by
    unfold vBlastV
    rw [if_pos hd]
    show (mj_row y.2.2.2.2 kk (vSet1 (y.2.2.2.2 kk) 10 ((y.2.2.2.2 kk).2 10 + 1)) kk).2 10 = _
    rw [mj_rowe]
    exact vSet1_e _ _ _
  refine mj_iinc (i := 5) (q := 590) dL_law_587 rfl rfl (by decide) rfl ?_
  dsimp only [List.set]
  rw [show nI b + Int32.ofInt 1 = nI (b + 1) from nI_1 b]
  refine mj_aload_n (i := 1) (q := 591) dL_law_590 rfl rfl rfl ?_
  refine mj_iload (i := 13) (q := 593) dL_law_591 rfl rfl ?_
  refine mj_num1 (v := nI 4) (q := 594) (by decide) dL_law_593 rfl ?_
  refine mj_cV2i (K := m_X5_ofRun) (q := 597) dL_law_594 ln_L_33 ok_X5_ofRun (Nat.le_of_ble_eq_true rfl) (by decide) (by assumption) rfl rfl (s_ofRun hP hN hkk (by decide)) (fun r_594 h1 hq => ?_)
  obtain ⟨rfl, rfl⟩ := hq
  refine mj_istore (i := 16) (q := 599) dL_law_597 rfl (by decide) rfl ?_
  dsimp only [List.set]
  refine mj_aload_n (i := 1) (q := 600) dL_law_599 rfl rfl rfl ?_
  refine mj_iload (i := 13) (q := 602) dL_law_600 rfl rfl ?_
  refine mj_num2 (v := nI 7) (q := 604) (by decide) dL_law_602 rfl ?_
  refine mj_cV2i (K := m_X5_ofRun) (q := 607) dL_law_604 ln_L_33 ok_X5_ofRun (Nat.le_of_ble_eq_true rfl) (by decide) (by assumption) rfl rfl (s_ofRun hP hN hkk (by decide)) (fun r_604 h1 hq => ?_)
  obtain ⟨rfl, rfl⟩ := hq
  refine mj_istore (i := 17) (q := 609) dL_law_607 rfl (by decide) rfl ?_
  dsimp only [List.set]
  refine mj_aload_n (i := 1) (q := 610) dL_law_609 rfl rfl rfl ?_
  refine mj_iload (i := 13) (q := 612) dL_law_610 rfl rfl ?_
  refine mj_num1 (v := nI 2) (q := 613) (by decide) dL_law_612 rfl ?_
  refine mj_cV2i (K := m_X5_ofRun) (q := 616) dL_law_613 ln_L_33 ok_X5_ofRun (Nat.le_of_ble_eq_true rfl) (by decide) (by assumption) rfl rfl (s_ofRun hP hN hkk (by decide)) (fun r_613 h1 hq => ?_)
  obtain ⟨rfl, rfl⟩ := hq
  refine mj_istore (i := 18) (q := 618) dL_law_616 rfl (by decide) rfl ?_
  dsimp only [List.set]
  refine mj_aload_n (i := 1) (q := 619) dL_law_618 rfl rfl rfl ?_
  refine mj_iload (i := 13) (q := 621) dL_law_619 rfl rfl ?_
  refine mj_cV1i (K := m_X5_blast) (q := 624) dL_law_621 ln_L_61 ok_X5_blast (Nat.le_of_ble_eq_true rfl) (by decide) (by assumption) rfl rfl (s_blast hP hN hkk hio hch) (fun r_621 h1 hq => ?_)
  obtain ⟨rfl, f1, rfl, hN1, hFr⟩ := hq
  rw [eR]
  refine mj_istore (i := 19) (q := 626) dL_law_624 rfl (by decide) rfl ?_
  dsimp only [List.set]
  refine mj_iload (i := 5) (q := 628) dL_law_626 rfl rfl ?_
  refine mj_num2 (v := 7) (q := 630) (by decide) dL_law_628 rfl ?_
  refine mj_irem (q := 631) (by decide) dL_law_630 rfl ?_
  refine mj_if_ne (tgt := 659) (q := 634) dL_law_631 (by decide) rfl (fun c_631 => absurd hz c_631) (fun c_631 => ?_)
  refine mj_iload (i := 19) (q := 636) dL_law_634 rfl rfl ?_
  refine mj_num2 (v := (-2)) (q := 638) (by decide) dL_law_636 rfl ?_
  refine mj_icmp_ne (tgt := 701) (q := 641) dL_law_638 (by decide) rfl (fun c_638 => absurd rfl c_638) (fun c_638 => ?_)
  refine mj_aload_n (i := 1) (q := 642) dL_law_641 rfl rfl rfl ?_
  refine mj_iload (i := 13) (q := 644) dL_law_642 rfl rfl ?_
  refine mj_num2 (v := nI 7) (q := 646) (by decide) dL_law_644 rfl ?_
  refine mj_cV2i (K := m_X5_ofRun) (q := 649) dL_law_646 ln_L_33 ok_X5_ofRun (Nat.le_of_ble_eq_true rfl) (by decide) (by assumption) rfl rfl (s_ofRun hP hN1 hkk1 (by decide)) (fun r_646 h1 hq => ?_)
  obtain ⟨rfl, rfl⟩ := hq
  rw [eo7]
  refine mj_iload (i := 17) (q := 651) dL_law_649 rfl rfl ?_
  refine mj_num1 (v := 1) (q := 652) rfl dL_law_651 rfl ?_
  refine mj_iadd (q := 653) dL_law_652 rfl ?_
  refine mj_icmp_eq (tgt := 1358) (q := 656) dL_law_653 (by decide) rfl (fun c_653 => ?_) (fun c_653 => absurd rfl c_653)
  exact k _ _ _ _ _ _ _ _ _ _ _ _ _ _ _ _ _ _ _ _ _ _ _ _ _ ((hJ0.blast hT hkk hb5 h7 hN1 hFr).mono (by omega))
set_option maxHeartbeats 400000 in
set_option maxRecDepth 100000 in
theorem lc_blastB {d lc rc L T kk lf mc ms b : Nat} {n : Nat} {K : Nat → mj_K} {f : Nat → Nat → Int32} {g : Nat → Nat → Option Nat} {y : mV} {v6 v7 v9 v10 v11 vx : Int32} {w16 w17 w18 w19 w20 w21 w22 w23 w24 w25 w26 : Value} (hJ : LJ lc rc L T n K f g y (nI b) v6 v7 v9 v10) (hT : T ≤ 420) (hkk : kk < rc) (hlf : lf < lc) (hio : (y.2.2.2.2 kk).2 15 = 0) (hb5 : b < 50) (h7 : y.2.2.1 7 = 50 - nI b) (hz : ¬ nI (b + 1) % 7 = 0) (hr : ¬ 40 ≤ vRisk ((y.2.2.2.2 kk).2 3) (y.2.2.2.2 kk).1) (k : lw_K d lc rc L (T + 6) mc ms v11) : mj_W m_law (d + 8) mc ms lw_QL 587 [.ref 0, .ref 1, .int (nI lc), .int (nI rc), .ref 144, .int (nI b), .int v6, .int v7, .ref 145, .int v9, .int v10, .int v11, .int vx, .int (nI kk), .int (nI lf), .int 0, w16, w17, w18, w19, w20, w21, w22, w23, w24, w25, w26] [] (n, K, f, g) := by
  have hJ0 := hJ
  obtain ⟨hn, k0, hL, hP, hN, rfl, rfl, h1lc, h1rc, kar, kea, hY, -, ⟨q, hq20, rfl, h8⟩, rfl, hE, rfl, rfl⟩ := hJ
  have kx := hP.1
  have hch : 1 ≤ y.2.2.1 7 := by rw [h7]; exact n_blast3 b hb5
  have hdd : vBlastDud y = (nI (b + 1) % 7 == 0) := by
    unfold vBlastDud
    rw [h7, n_blast b (by omega)]
  have hrc8 := hN.2.1
  have hkk2 : kk < y.2.1 ∧ y.2.1 ≤ 1000 := ⟨hkk, by omega⟩
  have hF5 := (hY.2.2.1 kk hkk).2
  have hIS := (hY.2.2.1 kk hkk).1
  have hkk1 : kk < (vBlastV y kk).2.1 := by rw [(vBlastV_1 y kk).2.1]; exact hkk
  have hd : ¬ vBlastDud y = true := by
    rw [hdd]
    intro z
    exact hz (by simpa using z)
  have eR : vBlastR y kk = 0 := by unfold vBlastR; rw [if_neg hd, if_neg hr]
  refine mj_iinc (i := 5) (q := 590) dL_law_587 rfl rfl (by decide) rfl ?_
  dsimp only [List.set]
  rw [show nI b + Int32.ofInt 1 = nI (b + 1) from nI_1 b]
  refine mj_aload_n (i := 1) (q := 591) dL_law_590 rfl rfl rfl ?_
  refine mj_iload (i := 13) (q := 593) dL_law_591 rfl rfl ?_
  refine mj_num1 (v := nI 4) (q := 594) (by decide) dL_law_593 rfl ?_
  refine mj_cV2i (K := m_X5_ofRun) (q := 597) dL_law_594 ln_L_33 ok_X5_ofRun (Nat.le_of_ble_eq_true rfl) (by decide) (by assumption) rfl rfl (s_ofRun hP hN hkk (by decide)) (fun r_594 h1 hq => ?_)
  obtain ⟨rfl, rfl⟩ := hq
  refine mj_istore (i := 16) (q := 599) dL_law_597 rfl (by decide) rfl ?_
  dsimp only [List.set]
  refine mj_aload_n (i := 1) (q := 600) dL_law_599 rfl rfl rfl ?_
  refine mj_iload (i := 13) (q := 602) dL_law_600 rfl rfl ?_
  refine mj_num2 (v := nI 7) (q := 604) (by decide) dL_law_602 rfl ?_
  refine mj_cV2i (K := m_X5_ofRun) (q := 607) dL_law_604 ln_L_33 ok_X5_ofRun (Nat.le_of_ble_eq_true rfl) (by decide) (by assumption) rfl rfl (s_ofRun hP hN hkk (by decide)) (fun r_604 h1 hq => ?_)
  obtain ⟨rfl, rfl⟩ := hq
  refine mj_istore (i := 17) (q := 609) dL_law_607 rfl (by decide) rfl ?_
  dsimp only [List.set]
  refine mj_aload_n (i := 1) (q := 610) dL_law_609 rfl rfl rfl ?_
  refine mj_iload (i := 13) (q := 612) dL_law_610 rfl rfl ?_
  refine mj_num1 (v := nI 2) (q := 613) (by decide) dL_law_612 rfl ?_
  refine mj_cV2i (K := m_X5_ofRun) (q := 616) dL_law_613 ln_L_33 ok_X5_ofRun (Nat.le_of_ble_eq_true rfl) (by decide) (by assumption) rfl rfl (s_ofRun hP hN hkk (by decide)) (fun r_613 h1 hq => ?_)
  obtain ⟨rfl, rfl⟩ := hq
  refine mj_istore (i := 18) (q := 618) dL_law_616 rfl (by decide) rfl ?_
  dsimp only [List.set]
  refine mj_aload_n (i := 1) (q := 619) dL_law_618 rfl rfl rfl ?_
  refine mj_iload (i := 13) (q := 621) dL_law_619 rfl rfl ?_
  refine mj_cV1i (K := m_X5_blast) (q := 624) dL_law_621 ln_L_61 ok_X5_blast (Nat.le_of_ble_eq_true rfl) (by decide) (by assumption) rfl rfl (s_blast hP hN hkk hio hch) (fun r_621 h1 hq => ?_)
  obtain ⟨rfl, f1, rfl, hN1, hFr⟩ := hq
  rw [eR]
  refine mj_istore (i := 19) (q := 626) dL_law_624 rfl (by decide) rfl ?_
  dsimp only [List.set]
  refine mj_iload (i := 5) (q := 628) dL_law_626 rfl rfl ?_
  refine mj_num2 (v := 7) (q := 630) (by decide) dL_law_628 rfl ?_
  refine mj_irem (q := 631) (by decide) dL_law_630 rfl ?_
  refine mj_if_ne (tgt := 659) (q := 634) dL_law_631 (by decide) rfl (fun c_631 => ?_) (fun c_631 => absurd c_631 hz)
  refine mj_iload (i := 16) (q := 661) dL_law_659 rfl rfl ?_
  refine mj_num2 (v := 40) (q := 663) (by decide) dL_law_661 rfl ?_
  refine mj_icmp_ge (tgt := 674) (q := 666) dL_law_663 (by decide) rfl (fun c_663 => absurd c_663 hr) (fun c_663 => ?_)
  refine mj_iload (i := 19) (q := 668) dL_law_666 rfl rfl ?_
  refine mj_if_eq (tgt := 1358) (q := 671) dL_law_668 (by decide) rfl (fun c_668 => ?_) (fun c_668 => absurd rfl c_668)
  exact k _ _ _ _ _ _ _ _ _ _ _ _ _ _ _ _ _ _ _ _ _ _ _ _ _ ((hJ0.blast hT hkk hb5 h7 hN1 hFr).mono (by omega))
set_option maxHeartbeats 400000 in
set_option maxRecDepth 100000 in
theorem lc_blastC {d lc rc L T kk lf mc ms b : Nat} {n : Nat} {K : Nat → mj_K} {f : Nat → Nat → Int32} {g : Nat → Nat → Option Nat} {y : mV} {v6 v7 v9 v10 v11 vx : Int32} {w16 w17 w18 w19 w20 w21 w22 w23 w24 w25 w26 : Value} (hJ : LJ lc rc L T n K f g y (nI b) v6 v7 v9 v10) (hT : T ≤ 420) (hkk : kk < rc) (hlf : lf < lc) (hio : (y.2.2.2.2 kk).2 15 = 0) (hb5 : b < 50) (h7 : y.2.2.1 7 = 50 - nI b) (hz : ¬ nI (b + 1) % 7 = 0) (hr : 40 ≤ vRisk ((y.2.2.2.2 kk).2 3) (y.2.2.2.2 kk).1) (k : lw_K d lc rc L (T + 6) mc ms v11) : mj_W m_law (d + 8) mc ms lw_QL 587 [.ref 0, .ref 1, .int (nI lc), .int (nI rc), .ref 144, .int (nI b), .int v6, .int v7, .ref 145, .int v9, .int v10, .int v11, .int vx, .int (nI kk), .int (nI lf), .int 0, w16, w17, w18, w19, w20, w21, w22, w23, w24, w25, w26] [] (n, K, f, g) := by
  have hJ0 := hJ
  obtain ⟨hn, k0, hL, hP, hN, rfl, rfl, h1lc, h1rc, kar, kea, hY, -, ⟨q, hq20, rfl, h8⟩, rfl, hE, rfl, rfl⟩ := hJ
  have kx := hP.1
  have hch : 1 ≤ y.2.2.1 7 := by rw [h7]; exact n_blast3 b hb5
  have hdd : vBlastDud y = (nI (b + 1) % 7 == 0) := by
    unfold vBlastDud
    rw [h7, n_blast b (by omega)]
  have hrc8 := hN.2.1
  have hkk2 : kk < y.2.1 ∧ y.2.1 ≤ 1000 := ⟨hkk, by omega⟩
  have hF5 := (hY.2.2.1 kk hkk).2
  have hIS := (hY.2.2.1 kk hkk).1
  have hkk1 : kk < (vBlastV y kk).2.1 := by rw [(vBlastV_1 y kk).2.1]; exact hkk
  have hd : ¬ vBlastDud y = true := by
    rw [hdd]
    intro z
    exact hz (by simpa using z)
  have eR : vBlastR y kk = vSlideSize (y.2.2.2.2 kk) := by unfold vBlastR; rw [if_neg hd, if_pos hr]
  have eo2 : vOfRun (vBlastV y kk) kk 2 = vDepth 0 (vSlideRun (y.2.2.2.2 kk)).1 := by
    unfold vBlastV
    rw [if_neg hd, if_pos hr]
    show vDepth 0 (mj_row y.2.2.2.2 kk (vSlideRun (y.2.2.2.2 kk)) kk).1 = _
    rw [mj_rowe]
  obtain ⟨hbt, hge⟩ := blast_told hIS.1 hIS.2.2.2.1 hr
  refine mj_iinc (i := 5) (q := 590) dL_law_587 rfl rfl (by decide) rfl ?_
  dsimp only [List.set]
  rw [show nI b + Int32.ofInt 1 = nI (b + 1) from nI_1 b]
  refine mj_aload_n (i := 1) (q := 591) dL_law_590 rfl rfl rfl ?_
  refine mj_iload (i := 13) (q := 593) dL_law_591 rfl rfl ?_
  refine mj_num1 (v := nI 4) (q := 594) (by decide) dL_law_593 rfl ?_
  refine mj_cV2i (K := m_X5_ofRun) (q := 597) dL_law_594 ln_L_33 ok_X5_ofRun (Nat.le_of_ble_eq_true rfl) (by decide) (by assumption) rfl rfl (s_ofRun hP hN hkk (by decide)) (fun r_594 h1 hq => ?_)
  obtain ⟨rfl, rfl⟩ := hq
  refine mj_istore (i := 16) (q := 599) dL_law_597 rfl (by decide) rfl ?_
  dsimp only [List.set]
  refine mj_aload_n (i := 1) (q := 600) dL_law_599 rfl rfl rfl ?_
  refine mj_iload (i := 13) (q := 602) dL_law_600 rfl rfl ?_
  refine mj_num2 (v := nI 7) (q := 604) (by decide) dL_law_602 rfl ?_
  refine mj_cV2i (K := m_X5_ofRun) (q := 607) dL_law_604 ln_L_33 ok_X5_ofRun (Nat.le_of_ble_eq_true rfl) (by decide) (by assumption) rfl rfl (s_ofRun hP hN hkk (by decide)) (fun r_604 h1 hq => ?_)
  obtain ⟨rfl, rfl⟩ := hq
  refine mj_istore (i := 17) (q := 609) dL_law_607 rfl (by decide) rfl ?_
  dsimp only [List.set]
  refine mj_aload_n (i := 1) (q := 610) dL_law_609 rfl rfl rfl ?_
  refine mj_iload (i := 13) (q := 612) dL_law_610 rfl rfl ?_
  refine mj_num1 (v := nI 2) (q := 613) (by decide) dL_law_612 rfl ?_
  refine mj_cV2i (K := m_X5_ofRun) (q := 616) dL_law_613 ln_L_33 ok_X5_ofRun (Nat.le_of_ble_eq_true rfl) (by decide) (by assumption) rfl rfl (s_ofRun hP hN hkk (by decide)) (fun r_613 h1 hq => ?_)
  obtain ⟨rfl, rfl⟩ := hq
  refine mj_istore (i := 18) (q := 618) dL_law_616 rfl (by decide) rfl ?_
  dsimp only [List.set]
  refine mj_aload_n (i := 1) (q := 619) dL_law_618 rfl rfl rfl ?_
  refine mj_iload (i := 13) (q := 621) dL_law_619 rfl rfl ?_
  refine mj_cV1i (K := m_X5_blast) (q := 624) dL_law_621 ln_L_61 ok_X5_blast (Nat.le_of_ble_eq_true rfl) (by decide) (by assumption) rfl rfl (s_blast hP hN hkk hio hch) (fun r_621 h1 hq => ?_)
  obtain ⟨rfl, f1, rfl, hN1, hFr⟩ := hq
  rw [eR]
  refine mj_istore (i := 19) (q := 626) dL_law_624 rfl (by decide) rfl ?_
  dsimp only [List.set]
  refine mj_iload (i := 5) (q := 628) dL_law_626 rfl rfl ?_
  refine mj_num2 (v := 7) (q := 630) (by decide) dL_law_628 rfl ?_
  refine mj_irem (q := 631) (by decide) dL_law_630 rfl ?_
  refine mj_if_ne (tgt := 659) (q := 634) dL_law_631 (by decide) rfl (fun c_631 => ?_) (fun c_631 => absurd c_631 hz)
  refine mj_iload (i := 16) (q := 661) dL_law_659 rfl rfl ?_
  refine mj_num2 (v := 40) (q := 663) (by decide) dL_law_661 rfl ?_
  refine mj_icmp_ge (tgt := 674) (q := 666) dL_law_663 (by decide) rfl (fun c_663 => ?_) (fun c_663 => absurd hr c_663)
  refine mj_iload (i := 19) (q := 676) dL_law_674 rfl rfl ?_
  refine mj_aload (i := 4) (q := 678) dL_law_676 rfl rfl ?_
  refine mj_iload (i := 13) (q := 680) dL_law_678 rfl rfl ?_
  refine mj_ialdn (q := 681) dL_law_680 rfl (by assumption) hkk2 ?_
  rw [show f1 144 kk = (y.2.2.2.2 kk).2 5 from by rw [hFr 144 (Or.inr (by decide)), hF5]]
  refine mj_iload (i := 18) (q := 683) dL_law_681 rfl rfl ?_
  refine mj_aload_n (i := 1) (q := 684) dL_law_683 rfl rfl rfl ?_
  refine mj_iload (i := 13) (q := 686) dL_law_684 rfl rfl ?_
  refine mj_num1 (v := nI 2) (q := 687) (by decide) dL_law_686 rfl ?_
  refine mj_cV2i (K := m_X5_ofRun) (q := 690) dL_law_687 ln_L_33 ok_X5_ofRun (Nat.le_of_ble_eq_true rfl) (by decide) (by assumption) rfl rfl (s_ofRun hP hN1 hkk1 (by decide)) (fun r_687 h1 hq => ?_)
  obtain ⟨rfl, rfl⟩ := hq
  rw [eo2]
  refine mj_isub (q := 691) dL_law_690 rfl ?_
  refine mj_imul (q := 692) dL_law_691 rfl ?_
  refine mj_icmp_ne (tgt := 701) (q := 695) dL_law_692 (by decide) rfl (fun c_692 => absurd hbt c_692) (fun c_692 => ?_)
  refine mj_iload (i := 19) (q := 697) dL_law_695 rfl rfl ?_
  refine mj_num1 (v := 1) (q := 698) rfl dL_law_697 rfl ?_
  refine mj_icmp_ge (tgt := 1358) (q := 701) dL_law_698 (by decide) rfl (fun c_698 => ?_) (fun c_698 => absurd hge c_698)
  exact k _ _ _ _ _ _ _ _ _ _ _ _ _ _ _ _ _ _ _ _ _ _ _ _ _ ((hJ0.blast hT hkk hb5 h7 hN1 hFr).mono (by omega))
set_option maxHeartbeats 400000 in
set_option maxRecDepth 100000 in
theorem lc_blast0 {d lc rc L T kk lf mc ms : Nat} {n : Nat} {K : Nat → mj_K} {f : Nat → Nat → Int32} {g : Nat → Nat → Option Nat} {y : mV} {v5 v6 v7 v9 v10 v11 vx io : Int32} {w16 w17 w18 w19 w20 w21 w22 w23 w24 w25 w26 : Value} (hJ : LJ lc rc L T n K f g y v5 v6 v7 v9 v10) (hT : T ≤ 420) (hkk : kk < rc) (hlf : lf < lc) (hio : (y.2.2.2.2 kk).2 15 = 0) (k : lw_K d lc rc L (T + 6) mc ms v11) : mj_W m_law (d + 8) mc ms lw_QL 572 [.ref 0, .ref 1, .int (nI lc), .int (nI rc), .ref 144, .int v5, .int v6, .int v7, .ref 145, .int v9, .int v10, .int v11, .int vx, .int (nI kk), .int (nI lf), .int 0, w16, w17, w18, w19, w20, w21, w22, w23, w24, w25, w26] [] (n, K, f, g) := by
  have hJ0 := hJ
  obtain ⟨hn, k0, hL, hP, hN, rfl, rfl, h1lc, h1rc, kar, kea, hY, ⟨b, hb, rfl, h7⟩, ⟨q, hq20, rfl, h8⟩, rfl, hE, rfl, rfl⟩ := hJ
  have kx := hP.1
  refine mj_iload (i := 15) (q := 574) dL_law_572 rfl rfl ?_
  refine mj_if_ne (tgt := 1358) (q := 577) dL_law_574 (by decide) rfl (fun c_574 => absurd rfl c_574) (fun c_574 => ?_)
  refine mj_iload (i := 5) (q := 579) dL_law_577 rfl rfl ?_
  refine mj_num2 (v := nI 50) (q := 581) (by decide) dL_law_579 rfl ?_
  refine mj_icmp_ne (tgt := 587) (q := 584) dL_law_581 (by decide) rfl (fun c_581 => ?_) (fun c_581 => ?_)
  · have hb5 : b < 50 := by
      rcases Nat.lt_or_eq_of_le hb with z | z
      · exact z
      · subst z; exact absurd rfl c_581
    by_cases hz : nI (b + 1) % 7 = 0
    · exact lc_blastA hJ0 hT hkk hlf hio hb5 h7 hz k
    · by_cases hr : 40 ≤ vRisk ((y.2.2.2.2 kk).2 3) (y.2.2.2.2 kk).1
      · exact lc_blastC hJ0 hT hkk hlf hio hb5 h7 hz hr k
      · exact lc_blastB hJ0 hT hkk hlf hio hb5 h7 hz hr k
  · refine mj_goto (q := 1358) dL_law_584 (by decide) ?_
    exact k _ _ _ _ _ _ _ _ _ _ _ _ _ _ _ _ _ _ _ _ _ _ _ _ _ (hJ0.mono (by omega))
set_option maxHeartbeats 400000 in
set_option maxRecDepth 100000 in
theorem lc_blast1 {d lc rc L T kk lf mc ms : Nat} {n : Nat} {K : Nat → mj_K} {f : Nat → Nat → Int32} {g : Nat → Nat → Option Nat} {y : mV} {v5 v6 v7 v9 v10 v11 vx io : Int32} {w16 w17 w18 w19 w20 w21 w22 w23 w24 w25 w26 : Value} (hJ : LJ lc rc L T n K f g y v5 v6 v7 v9 v10) (hT : T ≤ 420) (hkk : kk < rc) (hlf : lf < lc) (hio : ¬ (y.2.2.2.2 kk).2 15 = 0) (k : lw_K d lc rc L (T + 6) mc ms v11) : mj_W m_law (d + 8) mc ms lw_QL 572 [.ref 0, .ref 1, .int (nI lc), .int (nI rc), .ref 144, .int v5, .int v6, .int v7, .ref 145, .int v9, .int v10, .int v11, .int vx, .int (nI kk), .int (nI lf), .int 1, w16, w17, w18, w19, w20, w21, w22, w23, w24, w25, w26] [] (n, K, f, g) := by
  have hJ0 := hJ
  obtain ⟨hn, k0, hL, hP, hN, rfl, rfl, h1lc, h1rc, kar, kea, hY, ⟨b, hb, rfl, h7⟩, ⟨q, hq20, rfl, h8⟩, rfl, hE, rfl, rfl⟩ := hJ
  have kx := hP.1
  refine mj_iload (i := 15) (q := 574) dL_law_572 rfl rfl ?_
  refine mj_if_ne (tgt := 1358) (q := 577) dL_law_574 (by decide) rfl (fun c_574 => ?_) (fun c_574 => absurd c_574 (by decide))
  exact k _ _ _ _ _ _ _ _ _ _ _ _ _ _ _ _ _ _ _ _ _ _ _ _ _ (hJ0.mono (by omega))
set_option maxHeartbeats 100000 in
theorem test_abs {z : Int32} (h : IR (-4) 4 z) : (if 0 ≤ z then z else 0 - z) ≤ 4 := by
  have n0 : (0 : Int32).toInt = 0 := rfl
  have n4 : (4 : Int32).toInt = 4 := rfl
  unfold IR at h
  split
  · exact Int32.le_iff_toInt_le.mpr (by omega)
  · have s := ir_sub (x := 0) (y := z) (by omega) (by omega)
    exact Int32.le_iff_toInt_le.mpr (by omega)
set_option maxHeartbeats 100000 in
theorem test_9 {y : mV} {kk : Nat} (h0 : 0 ≤ (y.2.2.1 4).toInt) (h1 : (y.2.2.1 4).toInt ≤ 1000) : vOfRun (vTestV y kk) kk 9 = vTell y.2.2.1 (nI kk) (y.2.2.2.2 kk) := by
  have e : (vTestV y kk).2.2.2.2 kk = vSet1 (vSet1 (y.2.2.2.2 kk) 11 (vTell y.2.2.1 (nI kk) (y.2.2.2.2 kk))) 12 (y.2.2.1 4 + 12) := mj_rowe
  show (if vTested y.2.2.1 ((vTestV y kk).2.2.2.2 kk) = true then ((vTestV y kk).2.2.2.2 kk).2 11 else -1) = _
  rw [e]
  generalize vTell y.2.2.1 (nI kk) (y.2.2.2.2 kk) = T
  have n12 : (12 : Int32).toInt = 12 := rfl
  have s := ir_add (x := y.2.2.1 4) (y := 12) (by omega) (by omega)
  have hle : y.2.2.1 4 ≤ y.2.2.1 4 + 12 := Int32.le_iff_toInt_le.mpr (by omega)
  have e12 : (vSet1 (vSet1 (y.2.2.2.2 kk) 11 T) 12 (y.2.2.1 4 + 12)).2 12 = y.2.2.1 4 + 12 := vSet1_e _ _ _
  have ht : vTested y.2.2.1 (vSet1 (vSet1 (y.2.2.2.2 kk) 11 T) 12 (y.2.2.1 4 + 12)) = true := by
    unfold vTested
    rw [e12]
    exact decide_eq_true hle
  rw [if_pos ht]
  show upd (upd (y.2.2.2.2 kk).2 11 T) 12 (y.2.2.1 4 + 12) 11 = T
  rw [upd_n (by decide), upd_e]
set_option maxHeartbeats 100000 in
theorem test_4 (y : mV) (kk : Nat) : vOfRun (vTestV y kk) kk 4 = vRisk ((y.2.2.2.2 kk).2 3) (y.2.2.2.2 kk).1 := by
  have e : (vTestV y kk).2.2.2.2 kk = vSet1 (vSet1 (y.2.2.2.2 kk) 11 (vTell y.2.2.1 (nI kk) (y.2.2.2.2 kk))) 12 (y.2.2.1 4 + 12) := mj_rowe
  show vRisk (((vTestV y kk).2.2.2.2 kk).2 3) ((vTestV y kk).2.2.2.2 kk).1 = _
  rw [e]
  generalize vTell y.2.2.1 (nI kk) (y.2.2.2.2 kk) = T
  show vRisk (upd (upd (y.2.2.2.2 kk).2 11 T) 12 (y.2.2.1 4 + 12) 3) (y.2.2.2.2 kk).1 = _
  rw [upd_n (by decide), upd_n (by decide)]
set_option maxHeartbeats 400000 in
set_option maxRecDepth 100000 in
theorem lc_test {d lc rc L T kk lf mc ms : Nat} {n : Nat} {K : Nat → mj_K} {f : Nat → Nat → Int32} {g : Nat → Nat → Option Nat} {y : mV} {v5 v6 v7 v9 v10 v11 vx io : Int32} {w16 w17 w18 w19 w20 w21 w22 w23 w24 w25 w26 : Value} (hJ : LJ lc rc L T n K f g y v5 v6 v7 v9 v10) (hT : T ≤ 420) (hkk : kk < rc) (hlf : lf < lc) (k : lw_K d lc rc L (T + 6) mc ms v11) : mj_W m_law (d + 8) mc ms lw_QL 733 [.ref 0, .ref 1, .int (nI lc), .int (nI rc), .ref 144, .int v5, .int v6, .int v7, .ref 145, .int v9, .int v10, .int v11, .int vx, .int (nI kk), .int (nI lf), .int io, w16, w17, w18, w19, w20, w21, w22, w23, w24, w25, w26] [] (n, K, f, g) := by
  have hJ0 := hJ
  obtain ⟨hn, k0, hL, hP, hN, rfl, rfl, h1lc, h1rc, kar, kea, hY, ⟨b, hb, rfl, h7⟩, ⟨q, hq20, rfl, h8⟩, rfl, hE, rfl, rfl⟩ := hJ
  have kx := hP.1
  have hrc8 := hN.2.1
  have h4 := hY.2.2.2.2.2.2.2.2.2.2.2.2.1
  have h41 : (y.2.2.1 4).toInt ≤ 1000 := by have := h4.2; omega
  have hIR := test_told (mu := y.2.2.1) (x := y.2.2.2.2 kk) (i := kk) (hY.2.2.1 kk hkk).1.1.1 h4.1 h41 (by omega)
  have et9 := test_9 (kk := kk) h4.1 h41
  have et4 := test_4 y kk
  refine mj_aload_n (i := 1) (q := 734) dL_law_733 rfl rfl rfl ?_
  refine mj_iload (i := 13) (q := 736) dL_law_734 rfl rfl ?_
  refine mj_cV1i (K := m_X5_test) (q := 739) dL_law_736 ln_L_67 ok_X5_test (Nat.le_of_ble_eq_true rfl) (by decide) (by assumption) rfl rfl (s_test hP hN hkk) (fun r_736 h1 hq => ?_)
  obtain ⟨rfl, f1, rfl, hN1, hFr⟩ := hq
  refine mj_istore (i := 16) (q := 741) dL_law_739 rfl (by decide) rfl ?_
  dsimp only [List.set]
  refine mj_iload (i := 16) (q := 743) dL_law_741 rfl rfl ?_
  refine mj_aload_n (i := 1) (q := 744) dL_law_743 rfl rfl rfl ?_
  refine mj_iload (i := 13) (q := 746) dL_law_744 rfl rfl ?_
  refine mj_num2 (v := nI 9) (q := 748) (by decide) dL_law_746 rfl ?_
  refine mj_cV2i (K := m_X5_ofRun) (q := 751) dL_law_748 ln_L_33 ok_X5_ofRun (Nat.le_of_ble_eq_true rfl) (by decide) (by assumption) rfl rfl (s_ofRun hP hN1 hkk (by decide)) (fun r_748 h1 hq => ?_)
  obtain ⟨rfl, rfl⟩ := hq
  rw [et9]
  refine mj_icmp_ne (tgt := 771) (q := 754) dL_law_751 (by decide) rfl (fun c_751 => absurd rfl c_751) (fun c_751 => ?_)
  refine mj_iload (i := 16) (q := 756) dL_law_754 rfl rfl ?_
  refine mj_aload_n (i := 1) (q := 757) dL_law_756 rfl rfl rfl ?_
  refine mj_iload (i := 13) (q := 759) dL_law_757 rfl rfl ?_
  refine mj_num1 (v := nI 4) (q := 760) (by decide) dL_law_759 rfl ?_
  refine mj_cV2i (K := m_X5_ofRun) (q := 763) dL_law_760 ln_L_33 ok_X5_ofRun (Nat.le_of_ble_eq_true rfl) (by decide) (by assumption) rfl rfl (s_ofRun hP hN1 hkk (by decide)) (fun r_760 h1 hq => ?_)
  obtain ⟨rfl, rfl⟩ := hq
  rw [et4]
  refine mj_isub (q := 764) dL_law_763 rfl ?_
  refine mj_mabs (q := 767) dL_law_764 ln_L_70 (Nat.le_of_ble_eq_true rfl) rfl ?_
  have hab := test_abs hIR
  refine mj_num1 (v := 4) (q := 768) rfl dL_law_767 rfl ?_
  refine mj_icmp_le (tgt := 1358) (q := 771) dL_law_768 (by decide) rfl (fun c_768 => ?_) (fun c_768 => absurd hab c_768)
  exact k _ _ _ _ _ _ _ _ _ _ _ _ _ _ _ _ _ _ _ _ _ _ _ _ _ (hJ0.step hN1 rfl rfl hFr (JY.mono (hY.test hkk) (by omega)) (fun j => putRow6 (by rfl) j) (fun _ _ => rfl))
set_option maxHeartbeats 400000 in
set_option maxRecDepth 100000 in
theorem lc_groomB {d lc rc L T kk lf mc ms q : Nat} {n : Nat} {K : Nat → mj_K} {f : Nat → Nat → Int32} {g : Nat → Nat → Option Nat} {y : mV} {v5 v7 v9 v10 v11 vx : Int32} {w16 w17 w18 w19 w20 w21 w22 w23 w24 w25 w26 : Value} (hJ : LJ lc rc L T n K f g y v5 (nI q) v7 v9 v10) (hT : T ≤ 420) (hkk : kk < rc) (hlf : lf < lc) (hio : (y.2.2.2.2 kk).2 15 = 0) (hq5 : q < 20) (h8 : y.2.2.1 8 = 100 - 5 * nI q) (h2c : 2 ≤ (y.2.2.2.2 kk).1.1) (hck : y.2.2.1 4 % 24 ≤ 6 ∨ 18 ≤ y.2.2.1 4 % 24) (k : lw_K d lc rc L (T + 6) mc ms v11) : mj_W m_law (d + 8) mc ms lw_QL 853 [.ref 0, .ref 1, .int (nI lc), .int (nI rc), .ref 144, .int v5, .int (nI q), .int v7, .ref 145, .int v9, .int v10, .int v11, .int vx, .int (nI kk), .int (nI lf), .int 0, w16, w17, w18, w19, w20, w21, w22, w23, w24, w25, w26] [] (n, K, f, g) := by
  have hJ0 := hJ
  obtain ⟨hn, k0, hL, hP, hN, rfl, rfl, h1lc, h1rc, kar, kea, hY, ⟨b, hb, rfl, h7⟩, -, rfl, hE, rfl, rfl⟩ := hJ
  have kx := hP.1
  have hfu : 5 ≤ y.2.2.1 8 := by rw [h8]; exact n_fuel q hq5
  obtain ⟨⟨hS, -⟩, -⟩ := hY.2.2.1 kk hkk
  have h8c := hS.1
  obtain ⟨p1, p2, p3⟩ := press_fact hS h2c
  have eg : ∀ w, vOfRun (vGroomV y kk) kk 1 = nI ((y.2.2.2.2 kk).1.1 - 1) ∧ vOfRun (vGroomV y kk) kk 2 = vDepth 0 (vPress (y.2.2.2.2 kk).1) ∧ vOfLayer (vGroomV y kk) kk w 0 = (vPress (y.2.2.2.2 kk).1).2.2.2.1 w ∧ vOfLayer (vGroomV y kk) kk w 2 = (vPress (y.2.2.2.2 kk).1).2.2.2.2.2 w ∧ ((vGroomV y kk).2.2.2.2 kk).1.1 = (y.2.2.2.2 kk).1.1 - 1 := by
    intro w
    have e : (vGroomV y kk).2.2.2.2 kk = (vPress (y.2.2.2.2 kk).1, (y.2.2.2.2 kk).2) := mj_rowe
    refine ⟨?_, ?_, ?_, ?_, ?_⟩
    · show nI ((vGroomV y kk).2.2.2.2 kk).1.1 = _
      rw [e, p1]
    · show vDepth 0 ((vGroomV y kk).2.2.2.2 kk).1 = _
      rw [e]
    · show ((vGroomV y kk).2.2.2.2 kk).1.2.2.2.1 w = _
      rw [e]
    · show ((vGroomV y kk).2.2.2.2 kk).1.2.2.2.2.2 w = _
      rw [e]
    · rw [e, p1]
  obtain ⟨g1, g2, g3, g4, g5⟩ := eg ((y.2.2.2.2 kk).1.1 - 2)
  have c1 : nI (y.2.2.2.2 kk).1.1 - 1 = nI ((y.2.2.2.2 kk).1.1 - 1) := by
    have z := nI_1 ((y.2.2.2.2 kk).1.1 - 1)
    rw [show (y.2.2.2.2 kk).1.1 - 1 + 1 = (y.2.2.2.2 kk).1.1 from by omega] at z
    rw [← z]
    exact Int32.add_sub_cancel _ _
  have c2 : nI (y.2.2.2.2 kk).1.1 - 2 = nI ((y.2.2.2.2 kk).1.1 - 2) := by
    have nc := nI_toInt (n := (y.2.2.2.2 kk).1.1) (by omega)
    have nd := nI_toInt (n := (y.2.2.2.2 kk).1.1 - 2) (by omega)
    have n2 : (2 : Int32).toInt = 2 := rfl
    apply Int32.toInt_inj.mp
    rw [ir_sub (by omega) (by omega)]
    omega
  have hlay : (y.2.2.2.2 kk).1.1 - 2 < ((vGroomV y kk).2.2.2.2 kk).1.1 := by rw [g5]; omega
  have hdeep : vDepth 0 (vPress (y.2.2.2.2 kk).1) ≤ vDepth 0 (y.2.2.2.2 kk).1 := Int32.le_iff_toInt_le.mpr p3
  refine mj_iinc (i := 6) (q := 856) dL_law_853 rfl rfl (by decide) rfl ?_
  dsimp only [List.set]
  rw [show nI q + Int32.ofInt 1 = nI (q + 1) from nI_1 q]
  refine mj_aload_n (i := 1) (q := 857) dL_law_856 rfl rfl rfl ?_
  refine mj_iload (i := 13) (q := 859) dL_law_857 rfl rfl ?_
  refine mj_num1 (v := nI 2) (q := 860) (by decide) dL_law_859 rfl ?_
  refine mj_cV2i (K := m_X5_ofRun) (q := 863) dL_law_860 ln_L_33 ok_X5_ofRun (Nat.le_of_ble_eq_true rfl) (by decide) (by assumption) rfl rfl (s_ofRun hP hN hkk (by decide)) (fun r_860 h1 hq => ?_)
  obtain ⟨rfl, rfl⟩ := hq
  refine mj_istore (i := 16) (q := 865) dL_law_863 rfl (by decide) rfl ?_
  dsimp only [List.set]
  refine mj_aload_n (i := 1) (q := 866) dL_law_865 rfl rfl rfl ?_
  refine mj_iload (i := 13) (q := 868) dL_law_866 rfl rfl ?_
  refine mj_num1 (v := nI 1) (q := 869) (by decide) dL_law_868 rfl ?_
  refine mj_cV2i (K := m_X5_ofRun) (q := 872) dL_law_869 ln_L_33 ok_X5_ofRun (Nat.le_of_ble_eq_true rfl) (by decide) (by assumption) rfl rfl (s_ofRun hP hN hkk (by decide)) (fun r_869 h1 hq => ?_)
  obtain ⟨rfl, rfl⟩ := hq
  refine mj_istore (i := 17) (q := 874) dL_law_872 rfl (by decide) rfl ?_
  dsimp only [List.set]
  refine mj_aload_n (i := 1) (q := 875) dL_law_874 rfl rfl rfl ?_
  refine mj_iload (i := 13) (q := 877) dL_law_875 rfl rfl ?_
  refine mj_cV1i (K := m_X5_groom) (q := 880) dL_law_877 ln_L_77 ok_X5_groom (Nat.le_of_ble_eq_true rfl) (by decide) (by assumption) rfl rfl (s_groom hP hN hkk hio h2c hck hfu) (fun r_877 h1 hq => ?_)
  obtain ⟨rfl, f1, rfl, hN1, hFr⟩ := hq
  rw [p1]
  rw [show (y.2.2.2.2 kk).1.1 - 1 - 1 = (y.2.2.2.2 kk).1.1 - 2 from by omega]
  refine mj_istore (i := 18) (q := 882) dL_law_880 rfl (by decide) rfl ?_
  dsimp only [List.set]
  refine mj_aload_n (i := 1) (q := 883) dL_law_882 rfl rfl rfl ?_
  refine mj_iload (i := 13) (q := 885) dL_law_883 rfl rfl ?_
  refine mj_num1 (v := nI 1) (q := 886) (by decide) dL_law_885 rfl ?_
  refine mj_cV2i (K := m_X5_ofRun) (q := 889) dL_law_886 ln_L_33 ok_X5_ofRun (Nat.le_of_ble_eq_true rfl) (by decide) (by assumption) rfl rfl (s_ofRun hP hN1 hkk (by decide)) (fun r_886 h1 hq => ?_)
  obtain ⟨rfl, rfl⟩ := hq
  rw [g1]
  refine mj_iload (i := 17) (q := 891) dL_law_889 rfl rfl ?_
  refine mj_num1 (v := 1) (q := 892) rfl dL_law_891 rfl ?_
  refine mj_isub (q := 893) dL_law_892 rfl ?_
  rw [show vOfRun y kk 1 = nI (y.2.2.2.2 kk).1.1 from rfl, c1]
  refine mj_icmp_ne (tgt := 939) (q := 896) dL_law_893 (by decide) rfl (fun c_893 => absurd rfl c_893) (fun c_893 => ?_)
  refine mj_aload_n (i := 1) (q := 897) dL_law_896 rfl rfl rfl ?_
  refine mj_iload (i := 13) (q := 899) dL_law_897 rfl rfl ?_
  refine mj_iload (i := 17) (q := 901) dL_law_899 rfl rfl ?_
  refine mj_num1 (v := 2) (q := 902) rfl dL_law_901 rfl ?_
  refine mj_isub (q := 903) dL_law_902 rfl ?_
  rw [c2]
  refine mj_num1 (v := nI 0) (q := 904) (by decide) dL_law_903 rfl ?_
  refine mj_cV3i (K := m_X5_ofLayer) (q := 907) dL_law_904 ln_L_80 ok_X5_ofLayer (Nat.le_of_ble_eq_true rfl) (by decide) (by assumption) rfl rfl (s_ofLayer hP hN1 hkk hlay (by decide)) (fun r_904 h1 hq => ?_)
  obtain ⟨rfl, rfl⟩ := hq
  rw [g3]
  refine mj_iload (i := 18) (q := 909) dL_law_907 rfl rfl ?_
  refine mj_icmp_ne (tgt := 939) (q := 912) dL_law_909 (by decide) rfl (fun c_909 => absurd rfl c_909) (fun c_909 => ?_)
  refine mj_aload_n (i := 1) (q := 913) dL_law_912 rfl rfl rfl ?_
  refine mj_iload (i := 13) (q := 915) dL_law_913 rfl rfl ?_
  refine mj_iload (i := 17) (q := 917) dL_law_915 rfl rfl ?_
  refine mj_num1 (v := 2) (q := 918) rfl dL_law_917 rfl ?_
  refine mj_isub (q := 919) dL_law_918 rfl ?_
  rw [c2]
  refine mj_num1 (v := nI 2) (q := 920) (by decide) dL_law_919 rfl ?_
  refine mj_cV3i (K := m_X5_ofLayer) (q := 923) dL_law_920 ln_L_80 ok_X5_ofLayer (Nat.le_of_ble_eq_true rfl) (by decide) (by assumption) rfl rfl (s_ofLayer hP hN1 hkk hlay (by decide)) (fun r_920 h1 hq => ?_)
  obtain ⟨rfl, rfl⟩ := hq
  rw [g4, p2]
  refine mj_num1 (v := 3) (q := 924) rfl dL_law_923 rfl ?_
  refine mj_icmp_ne (tgt := 939) (q := 927) dL_law_924 (by decide) rfl (fun c_924 => absurd rfl c_924) (fun c_924 => ?_)
  refine mj_aload_n (i := 1) (q := 928) dL_law_927 rfl rfl rfl ?_
  refine mj_iload (i := 13) (q := 930) dL_law_928 rfl rfl ?_
  refine mj_num1 (v := nI 2) (q := 931) (by decide) dL_law_930 rfl ?_
  refine mj_cV2i (K := m_X5_ofRun) (q := 934) dL_law_931 ln_L_33 ok_X5_ofRun (Nat.le_of_ble_eq_true rfl) (by decide) (by assumption) rfl rfl (s_ofRun hP hN1 hkk (by decide)) (fun r_931 h1 hq => ?_)
  obtain ⟨rfl, rfl⟩ := hq
  rw [g2]
  refine mj_iload (i := 16) (q := 936) dL_law_934 rfl rfl ?_
  refine mj_icmp_le (tgt := 1358) (q := 939) dL_law_936 (by decide) rfl (fun c_936 => ?_) (fun c_936 => absurd hdeep c_936)
  exact k _ _ _ _ _ _ _ _ _ _ _ _ _ _ _ _ _ _ _ _ _ _ _ _ _ ((hJ0.groom hkk hq5 h8 hN1 hFr).mono (by omega))
set_option maxHeartbeats 400000 in
set_option maxRecDepth 100000 in
theorem lc_groom0 {d lc rc L T kk lf mc ms : Nat} {n : Nat} {K : Nat → mj_K} {f : Nat → Nat → Int32} {g : Nat → Nat → Option Nat} {y : mV} {v5 v6 v7 v9 v10 v11 vx io : Int32} {w16 w17 w18 w19 w20 w21 w22 w23 w24 w25 w26 : Value} (hJ : LJ lc rc L T n K f g y v5 v6 v7 v9 v10) (hT : T ≤ 420) (hkk : kk < rc) (hlf : lf < lc) (hio : (y.2.2.2.2 kk).2 15 = 0) (k : lw_K d lc rc L (T + 6) mc ms v11) : mj_W m_law (d + 8) mc ms lw_QL 801 [.ref 0, .ref 1, .int (nI lc), .int (nI rc), .ref 144, .int v5, .int v6, .int v7, .ref 145, .int v9, .int v10, .int v11, .int vx, .int (nI kk), .int (nI lf), .int 0, w16, w17, w18, w19, w20, w21, w22, w23, w24, w25, w26] [] (n, K, f, g) := by
  have hJ0 := hJ
  obtain ⟨hn, k0, hL, hP, hN, rfl, rfl, h1lc, h1rc, kar, kea, hY, ⟨b, hb, rfl, h7⟩, ⟨q, hq20, rfl, h8⟩, rfl, hE, rfl, rfl⟩ := hJ
  have kx := hP.1
  have hc8 := (hY.2.2.1 kk hkk).1.1.1
  refine mj_aload_n (i := 1) (q := 802) dL_law_801 rfl rfl rfl ?_
  refine mj_iload (i := 13) (q := 804) dL_law_802 rfl rfl ?_
  refine mj_num1 (v := nI 1) (q := 805) (by decide) dL_law_804 rfl ?_
  refine mj_cV2i (K := m_X5_ofRun) (q := 808) dL_law_805 ln_L_33 ok_X5_ofRun (Nat.le_of_ble_eq_true rfl) (by decide) (by assumption) rfl rfl (s_ofRun hP hN hkk (by decide)) (fun r_805 h1 hq => ?_)
  obtain ⟨rfl, rfl⟩ := hq
  refine mj_num1 (v := nI 2) (q := 809) (by decide) dL_law_808 rfl ?_
  refine mj_icmp_lt (tgt := 1358) (q := 812) dL_law_809 (by decide) rfl (fun c_809 => ?_) (fun c_809 => ?_)
  · exact k _ _ _ _ _ _ _ _ _ _ _ _ _ _ _ _ _ _ _ _ _ _ _ _ _ (hJ0.mono (by omega))
  · have h2c : 2 ≤ (y.2.2.2.2 kk).1.1 := by
      rcases Nat.lt_or_ge (y.2.2.2.2 kk).1.1 2 with z | z
      · exact absurd (show vOfRun y kk 1 < nI 2 from nI_lt z (by omega)) c_809
      · exact z
    refine mj_iload (i := 15) (q := 814) dL_law_812 rfl rfl ?_
    refine mj_if_ne (tgt := 1358) (q := 817) dL_law_814 (by decide) rfl (fun c_814 => absurd rfl c_814) (fun c_814 => ?_)
    refine mj_iload (i := 6) (q := 819) dL_law_817 rfl rfl ?_
    refine mj_num2 (v := nI 20) (q := 821) (by decide) dL_law_819 rfl ?_
    refine mj_icmp_eq (tgt := 1358) (q := 824) dL_law_821 (by decide) rfl (fun c_821 => ?_) (fun c_821 => ?_)
    · exact k _ _ _ _ _ _ _ _ _ _ _ _ _ _ _ _ _ _ _ _ _ _ _ _ _ (hJ0.mono (by omega))
    · have hq5 : q < 20 := by
        rcases Nat.lt_or_eq_of_le hq20 with z | z
        · exact z
        · subst z; exact absurd rfl c_821
      refine mj_aload_n (i := 1) (q := 825) dL_law_824 rfl rfl rfl ?_
      refine mj_num1 (v := nI 0) (q := 826) (by decide) dL_law_825 rfl ?_
      refine mj_cV1i (K := m_X5_many) (q := 829) dL_law_826 ln_L_46 ok_X5_many (Nat.le_of_ble_eq_true rfl) (by decide) (by assumption) rfl rfl (s_many hP hN (by decide)) (fun r_826 h1 hq => ?_)
      obtain ⟨rfl, rfl⟩ := hq
      refine mj_num2 (v := 24) (q := 831) (by decide) dL_law_829 rfl ?_
      refine mj_irem (q := 832) (by decide) dL_law_831 rfl ?_
      refine mj_num2 (v := 6) (q := 834) (by decide) dL_law_832 rfl ?_
      refine mj_icmp_le (tgt := 853) (q := 837) dL_law_834 (by decide) rfl (fun c_834 => ?_) (fun c_834 => ?_)
      · exact lc_groomB hJ0 hT hkk hlf hio hq5 h8 h2c (Or.inl c_834) k
      · refine mj_aload_n (i := 1) (q := 838) dL_law_837 rfl rfl rfl ?_
        refine mj_num1 (v := nI 0) (q := 839) (by decide) dL_law_838 rfl ?_
        refine mj_cV1i (K := m_X5_many) (q := 842) dL_law_839 ln_L_46 ok_X5_many (Nat.le_of_ble_eq_true rfl) (by decide) (by assumption) rfl rfl (s_many hP hN (by decide)) (fun r_839 h1 hq => ?_)
        obtain ⟨rfl, rfl⟩ := hq
        refine mj_num2 (v := 24) (q := 844) (by decide) dL_law_842 rfl ?_
        refine mj_irem (q := 845) (by decide) dL_law_844 rfl ?_
        refine mj_num2 (v := 18) (q := 847) (by decide) dL_law_845 rfl ?_
        refine mj_icmp_ge (tgt := 853) (q := 850) dL_law_847 (by decide) rfl (fun c_847 => ?_) (fun c_847 => ?_)
        · exact lc_groomB hJ0 hT hkk hlf hio hq5 h8 h2c (Or.inr c_847) k
        · refine mj_goto (q := 1358) dL_law_850 (by decide) ?_
          exact k _ _ _ _ _ _ _ _ _ _ _ _ _ _ _ _ _ _ _ _ _ _ _ _ _ (hJ0.mono (by omega))
set_option maxHeartbeats 400000 in
set_option maxRecDepth 100000 in
theorem lc_groom1 {d lc rc L T kk lf mc ms : Nat} {n : Nat} {K : Nat → mj_K} {f : Nat → Nat → Int32} {g : Nat → Nat → Option Nat} {y : mV} {v5 v6 v7 v9 v10 v11 vx io : Int32} {w16 w17 w18 w19 w20 w21 w22 w23 w24 w25 w26 : Value} (hJ : LJ lc rc L T n K f g y v5 v6 v7 v9 v10) (hT : T ≤ 420) (hkk : kk < rc) (hlf : lf < lc) (hio : ¬ (y.2.2.2.2 kk).2 15 = 0) (k : lw_K d lc rc L (T + 6) mc ms v11) : mj_W m_law (d + 8) mc ms lw_QL 801 [.ref 0, .ref 1, .int (nI lc), .int (nI rc), .ref 144, .int v5, .int v6, .int v7, .ref 145, .int v9, .int v10, .int v11, .int vx, .int (nI kk), .int (nI lf), .int 1, w16, w17, w18, w19, w20, w21, w22, w23, w24, w25, w26] [] (n, K, f, g) := by
  have hJ0 := hJ
  obtain ⟨hn, k0, hL, hP, hN, rfl, rfl, h1lc, h1rc, kar, kea, hY, ⟨b, hb, rfl, h7⟩, ⟨q, hq20, rfl, h8⟩, rfl, hE, rfl, rfl⟩ := hJ
  have kx := hP.1
  have hc8 := (hY.2.2.1 kk hkk).1.1.1
  refine mj_aload_n (i := 1) (q := 802) dL_law_801 rfl rfl rfl ?_
  refine mj_iload (i := 13) (q := 804) dL_law_802 rfl rfl ?_
  refine mj_num1 (v := nI 1) (q := 805) (by decide) dL_law_804 rfl ?_
  refine mj_cV2i (K := m_X5_ofRun) (q := 808) dL_law_805 ln_L_33 ok_X5_ofRun (Nat.le_of_ble_eq_true rfl) (by decide) (by assumption) rfl rfl (s_ofRun hP hN hkk (by decide)) (fun r_805 h1 hq => ?_)
  obtain ⟨rfl, rfl⟩ := hq
  refine mj_num1 (v := nI 2) (q := 809) (by decide) dL_law_808 rfl ?_
  refine mj_icmp_lt (tgt := 1358) (q := 812) dL_law_809 (by decide) rfl (fun c_809 => ?_) (fun c_809 => ?_)
  · exact k _ _ _ _ _ _ _ _ _ _ _ _ _ _ _ _ _ _ _ _ _ _ _ _ _ (hJ0.mono (by omega))
  · refine mj_iload (i := 15) (q := 814) dL_law_812 rfl rfl ?_
    refine mj_if_ne (tgt := 1358) (q := 817) dL_law_814 (by decide) rfl (fun c_814 => ?_) (fun c_814 => absurd c_814 (by decide))
    exact k _ _ _ _ _ _ _ _ _ _ _ _ _ _ _ _ _ _ _ _ _ _ _ _ _ (hJ0.mono (by omega))
