/-! THE LAW'S isSo: the rest -/
def vAccAl (y : mV) (F : Nat → Int32) : Nat → Int32
  | 0 => 0
  | i + 1 => vAccAl y F i + vSumD (y.2.2.2.2 i).1 (y.2.2.2.2 i).1.1 * F i
def vAccTo (F : Nat → Int32) : Nat → Int32
  | 0 => 0
  | i + 1 => vAccTo F i + F i
def vAccRun (y : mV) (w : Nat) : Nat → Int32
  | 0 => 0
  | i + 1 => vAccRun y w i + vOfRun y i w
def vAccLift (y : mV) (w : Nat) : Nat → Int32
  | 0 => 0
  | i + 1 => vAccLift y w i + vOfLift y i w
def vSoNext (y : mV) : Prop := (¬ vNext y < 0 → ∃ i, i < y.2.1 ∧ vNext y = nI i ∧ 40 ≤ vOfRun y i 4 ∧ ¬ vOfRun y i 6 = 1 ∧ vOfRun y i 7 ≤ 0) ∧ (vNext y < 0 → ∀ k, k < y.2.1 → ¬ (40 ≤ vOfRun y k 4 ∧ vOfRun y k 6 = 0 ∧ vOfRun y k 7 = 0))
def vCouldY (y : mV) : Int32 := vCouldN y.2.2.1 y.2.2.2.1 y.2.2.2.2 y.2.1
def vSoCould (y : mV) (k : Nat) : Prop := (vCouldY y >>> (nI k &&& 31) &&& 1 = 1 → ¬ vOfRun y k 6 = 1 ∧ vOfRun y k 7 ≤ 0 ∧ 30 ≤ vOfRun y k 2) ∧ (¬ vCouldY y >>> (nI k &&& 31) &&& 1 = 1 → ¬ (vOfRun y k 6 = 0 ∧ vOfRun y k 8 = 0))
def vSoFin (y : mV) (F : Nat → Int32) : Prop := vMany y 14 = vAccAl y F y.2.1 ∧ vMany y 8 = vAccRun y 12 y.2.1 ∧ vMany y 3 = vAccRun y 6 y.2.1 ∧ vAccLift y 5 y.1 = vAccRun y 6 y.2.1 ∧ vMany y 12 = vAccLift y 4 y.1 ∧ vAccRun y 11 y.2.1 = vAccLift y 4 y.1 ∧ vMany y 9 ≤ vMany y 8 ∧ vMany y 10 ≤ vMany y 8

set_option maxHeartbeats 4000000 in
set_option maxRecDepth 100000 in
theorem so_runs {d x m ar : Nat} {Q : mj_Q} {L : Nat} {n : Nat} {K : Nat → mj_K} {f : Nat → Nat → Int32} {g : Nat → Nat → Option Nat} {y : mV} (hP : LPn K g x m) (hN : MN f m y) (hK : K ar = (0, L, 0)) (hiL : y.2.1 ≤ L) (hL9 : L ≤ 1000) (hS : ∀ i, i < y.2.1 → vSoRun y i (f ar i)) (k : ∀ v11 v12 v13 v14, mj_W m_L_isSo (d + 6) 0 0 Q 420 [.ref x, .int (nI y.1), .int (nI y.2.1), .ref ar, .int (vAccAl y (f ar) y.2.1), .int (vAccRun y 12 y.2.1), .int (vAccRun y 6 y.2.1), .int (0), .int (vAccRun y 11 y.2.1), .int (vAccTo (f ar) y.2.1), .int (nI y.2.1), v11, v12, v13, v14] [] (n, K, f, g)) : ∀ (j i : Nat) (v11 v12 v13 v14 : Value), i + j = y.2.1 → mj_W m_L_isSo (d + 6) 0 0 Q 21 [.ref x, .int (nI y.1), .int (nI y.2.1), .ref ar, .int (vAccAl y (f ar) i), .int (vAccRun y 12 i), .int (vAccRun y 6 i), .int (0), .int (vAccRun y 11 i), .int (vAccTo (f ar) i), .int (nI i), v11, v12, v13, v14] [] (n, K, f, g) := by
  have hP2 := hP
  have hN2 := hN
  have kx := hP.1
  have hrc8 := hN.2.1
  have hlc4 := hN.1
  obtain ⟨lc, rc, mu, ls, rs⟩ := y
  dsimp only at hrc8 hlc4
  dsimp only at hiL hS k
  intro j
  induction j with
  | zero =>
    intro i v11 v12 v13 v14 hij
    have hi : i = rc := by omega
    subst hi
    refine mj_iload (i := 10) (q := 23) dL_isSo_21 rfl rfl ?_
    refine mj_iload_n (i := 2) (q := 24) dL_isSo_23 rfl rfl rfl ?_
    refine mj_icmp_ge (tgt := 420) (q := 27) dL_isSo_24 (by decide) rfl (fun c_24 => ?_) (fun c_24 => absurd (Int32.le_refl _) c_24)
    exact k v11 v12 v13 v14
  | succ j ih =>
    intro i v11 v12 v13 v14 hij
    have hij : i + (j + 1) = rc := hij
    have hi : i < rc := by omega
    refine mj_iload (i := 10) (q := 23) dL_isSo_21 rfl rfl ?_
    refine mj_iload_n (i := 2) (q := 24) dL_isSo_23 rfl rfl rfl ?_
    refine mj_icmp_ge (tgt := 420) (q := 27) dL_isSo_24 (by decide) rfl (fun c_24 => absurd c_24 (nI_ge (a := i) (b := rc) hi (by omega))) (fun c_24 => ?_)
    exact so_run hP2 hN2 hi hK (by omega) hL9 (hS i hi) (fun v14 => ih (i + 1) _ _ _ v14 (by omega))
set_option maxHeartbeats 4000000 in
set_option maxRecDepth 100000 in
theorem so_lifts {d x m ar : Nat} {Q : mj_Q} {v12 v13 v14 : Value} {n : Nat} {K : Nat → mj_K} {f : Nat → Nat → Int32} {g : Nat → Nat → Option Nat} {y : mV} (hP : LPn K g x m) (hN : MN f m y) (k : mj_W m_L_isSo (d + 6) 0 0 Q 462 [.ref x, .int (nI y.1), .int (nI y.2.1), .ref ar, .int (vAccAl y (f ar) y.2.1), .int (vAccRun y 12 y.2.1), .int (vAccRun y 6 y.2.1), .int (vAccLift y 4 y.1), .int (vAccRun y 11 y.2.1), .int (vAccTo (f ar) y.2.1), .int (vAccLift y 5 y.1), .int (nI y.1), v12, v13, v14] [] (n, K, f, g)) : ∀ (j i : Nat), i + j = y.1 → mj_W m_L_isSo (d + 6) 0 0 Q 426 [.ref x, .int (nI y.1), .int (nI y.2.1), .ref ar, .int (vAccAl y (f ar) y.2.1), .int (vAccRun y 12 y.2.1), .int (vAccRun y 6 y.2.1), .int (vAccLift y 4 i), .int (vAccRun y 11 y.2.1), .int (vAccTo (f ar) y.2.1), .int (vAccLift y 5 i), .int (nI i), v12, v13, v14] [] (n, K, f, g) := by
  have hP2 := hP
  have hN2 := hN
  have kx := hP.1
  have hrc8 := hN.2.1
  have hlc4 := hN.1
  obtain ⟨lc, rc, mu, ls, rs⟩ := y
  dsimp only at hrc8 hlc4
  dsimp only at k
  intro j
  induction j with
  | zero =>
    intro i hij
    have hi : i = lc := by omega
    subst hi
    refine mj_iload (i := 11) (q := 428) dL_isSo_426 rfl rfl ?_
    refine mj_iload_n (i := 1) (q := 429) dL_isSo_428 rfl rfl rfl ?_
    refine mj_icmp_ge (tgt := 462) (q := 432) dL_isSo_429 (by decide) rfl (fun c_429 => ?_) (fun c_429 => absurd (Int32.le_refl _) c_429)
    exact k
  | succ j ih =>
    intro i hij
    have hij : i + (j + 1) = lc := hij
    have hi : i < lc := by omega
    refine mj_iload (i := 11) (q := 428) dL_isSo_426 rfl rfl ?_
    refine mj_iload_n (i := 1) (q := 429) dL_isSo_428 rfl rfl rfl ?_
    refine mj_icmp_ge (tgt := 462) (q := 432) dL_isSo_429 (by decide) rfl (fun c_429 => absurd c_429 (nI_ge (a := i) (b := lc) hi (by omega))) (fun c_429 => ?_)
    refine mj_iload (i := 7) (q := 434) dL_isSo_432 rfl rfl ?_
    refine mj_aload_n (i := 0) (q := 435) dL_isSo_434 rfl rfl rfl ?_
    refine mj_iload (i := 11) (q := 437) dL_isSo_435 rfl rfl ?_
    refine mj_num1 (v := nI 4) (q := 438) (by decide) dL_isSo_437 rfl ?_
    refine mj_cV2i (K := m_X5_ofLift) (q := 441) dL_isSo_438 ln_L_36 ok_X5_ofLift (Nat.le_of_ble_eq_true rfl) (by decide) (by assumption) rfl rfl (s_ofLift hP2 hN2 hi (by decide)) (fun r_438 h1 hq => ?_)
    obtain ⟨rfl, rfl⟩ := hq
    refine mj_iadd (q := 442) dL_isSo_441 rfl ?_
    refine mj_istore (i := 7) (q := 444) dL_isSo_442 rfl (by decide) rfl ?_
    dsimp only [List.set]
    refine mj_iload (i := 10) (q := 446) dL_isSo_444 rfl rfl ?_
    refine mj_aload_n (i := 0) (q := 447) dL_isSo_446 rfl rfl rfl ?_
    refine mj_iload (i := 11) (q := 449) dL_isSo_447 rfl rfl ?_
    refine mj_num1 (v := nI 5) (q := 450) (by decide) dL_isSo_449 rfl ?_
    refine mj_cV2i (K := m_X5_ofLift) (q := 453) dL_isSo_450 ln_L_36 ok_X5_ofLift (Nat.le_of_ble_eq_true rfl) (by decide) (by assumption) rfl rfl (s_ofLift hP2 hN2 hi (by decide)) (fun r_450 h1 hq => ?_)
    obtain ⟨rfl, rfl⟩ := hq
    refine mj_iadd (q := 454) dL_isSo_453 rfl ?_
    refine mj_istore (i := 10) (q := 456) dL_isSo_454 rfl (by decide) rfl ?_
    dsimp only [List.set]
    refine mj_iinc (i := 11) (q := 459) dL_isSo_456 rfl rfl (by decide) rfl ?_
    dsimp only [List.set]
    refine mj_goto (q := 426) dL_isSo_459 (by decide) ?_
    rw [show nI i + Int32.ofInt 1 = nI (i + 1) from nI_1 i]
    exact ih (i + 1) (by omega)
set_option maxHeartbeats 4000000 in
set_option maxRecDepth 100000 in
theorem so_could {d x m ar : Nat} {Q : mj_Q} {v13 v14 : Value} {n : Nat} {K : Nat → mj_K} {f : Nat → Nat → Int32} {g : Nat → Nat → Option Nat} {y : mV} (hP : LPn K g x m) (hN : MN f m y) (hX : vSoNext y) (hC : ∀ i, i < y.2.1 → vSoCould y i) (k : mj_W m_L_isSo (d + 6) 0 0 Q 641 [.ref x, .int (nI y.1), .int (nI y.2.1), .ref ar, .int (vAccAl y (f ar) y.2.1), .int (vAccRun y 12 y.2.1), .int (vAccRun y 6 y.2.1), .int (vAccLift y 4 y.1), .int (vAccRun y 11 y.2.1), .int (vAccTo (f ar) y.2.1), .int (vAccLift y 5 y.1), .int (vNext y), .int (nI y.2.1), v13, v14] [] (n, K, f, g)) : ∀ (j i : Nat), i + j = y.2.1 → mj_W m_L_isSo (d + 6) 0 0 Q 513 [.ref x, .int (nI y.1), .int (nI y.2.1), .ref ar, .int (vAccAl y (f ar) y.2.1), .int (vAccRun y 12 y.2.1), .int (vAccRun y 6 y.2.1), .int (vAccLift y 4 y.1), .int (vAccRun y 11 y.2.1), .int (vAccTo (f ar) y.2.1), .int (vAccLift y 5 y.1), .int (vNext y), .int (nI i), v13, v14] [] (n, K, f, g) := by
  have hP2 := hP
  have hN2 := hN
  have kx := hP.1
  have hrc8 := hN.2.1
  have hlc4 := hN.1
  obtain ⟨lc, rc, mu, ls, rs⟩ := y
  dsimp only at hrc8 hlc4
  dsimp only at hC k
  obtain ⟨hA, hB⟩ := hX
  dsimp only at hA hB
  intro j
  induction j with
  | zero =>
    intro i hij
    have hi : i = rc := by omega
    subst hi
    refine mj_iload (i := 12) (q := 515) dL_isSo_513 rfl rfl ?_
    refine mj_iload_n (i := 2) (q := 516) dL_isSo_515 rfl rfl rfl ?_
    refine mj_icmp_ge (tgt := 641) (q := 519) dL_isSo_516 (by decide) rfl (fun c_516 => ?_) (fun c_516 => absurd (Int32.le_refl _) c_516)
    exact k
  | succ j ih =>
    intro i hij
    have hij : i + (j + 1) = rc := hij
    have hi : i < rc := by omega
    have hCi := hC i hi
    have k635 : mj_W m_L_isSo (d + 6) 0 0 Q 635 [.ref x, .int (nI lc), .int (nI rc), .ref ar, .int (vAccAl (lc, rc, mu, ls, rs) (f ar) rc), .int (vAccRun (lc, rc, mu, ls, rs) 12 rc), .int (vAccRun (lc, rc, mu, ls, rs) 6 rc), .int (vAccLift (lc, rc, mu, ls, rs) 4 lc), .int (vAccRun (lc, rc, mu, ls, rs) 11 rc), .int (vAccTo (f ar) rc), .int (vAccLift (lc, rc, mu, ls, rs) 5 lc), .int (vNext (lc, rc, mu, ls, rs)), .int (nI i), v13, v14] [] (n, K, f, g) := by
      refine mj_iinc (i := 12) (q := 638) dL_isSo_635 rfl rfl (by decide) rfl ?_
      dsimp only [List.set]
      refine mj_goto (q := 513) dL_isSo_638 (by decide) ?_
      rw [show nI i + Int32.ofInt 1 = nI (i + 1) from nI_1 i]
      exact ih (i + 1) (by omega)
    have k560 : mj_W m_L_isSo (d + 6) 0 0 Q 560 [.ref x, .int (nI lc), .int (nI rc), .ref ar, .int (vAccAl (lc, rc, mu, ls, rs) (f ar) rc), .int (vAccRun (lc, rc, mu, ls, rs) 12 rc), .int (vAccRun (lc, rc, mu, ls, rs) 6 rc), .int (vAccLift (lc, rc, mu, ls, rs) 4 lc), .int (vAccRun (lc, rc, mu, ls, rs) 11 rc), .int (vAccTo (f ar) rc), .int (vAccLift (lc, rc, mu, ls, rs) 5 lc), .int (vNext (lc, rc, mu, ls, rs)), .int (nI i), v13, v14] [] (n, K, f, g) := by
      refine mj_aload_n (i := 0) (q := 561) dL_isSo_560 rfl rfl rfl ?_
      refine mj_cV0i (K := m_X5_couldOpen) (q := 564) dL_isSo_561 ln_L_109 ok_X5_couldOpen (Nat.le_of_ble_eq_true rfl) (by decide) (by assumption) rfl rfl (s_couldOpen hP2 hN2) (fun r_561 h1 hq => ?_)
      obtain ⟨rfl, rfl⟩ := hq
      refine mj_iload (i := 12) (q := 566) dL_isSo_564 rfl rfl ?_
      refine mj_ishr (q := 567) dL_isSo_566 rfl ?_
      refine mj_num1 (v := 1) (q := 568) rfl dL_isSo_567 rfl ?_
      refine mj_iand (q := 569) dL_isSo_568 rfl ?_
      refine mj_num1 (v := 1) (q := 570) rfl dL_isSo_569 rfl ?_
      refine mj_icmp_ne (tgt := 611) (q := 573) dL_isSo_570 (by decide) rfl (fun c_570 => ?_) (fun c_570 => ?_)
      · refine mj_aload_n (i := 0) (q := 612) dL_isSo_611 rfl rfl rfl ?_
        refine mj_iload (i := 12) (q := 614) dL_isSo_612 rfl rfl ?_
        refine mj_num2 (v := nI 6) (q := 616) (by decide) dL_isSo_614 rfl ?_
        refine mj_cV2i (K := m_X5_ofRun) (q := 619) dL_isSo_616 ln_L_33 ok_X5_ofRun (Nat.le_of_ble_eq_true rfl) (by decide) (by assumption) rfl rfl (s_ofRun hP2 hN2 hi (by decide)) (fun r_616 h1 hq => ?_)
        obtain ⟨rfl, rfl⟩ := hq
        refine mj_if_ne (tgt := 635) (q := 622) dL_isSo_619 (by decide) rfl (fun c_619 => ?_) (fun c_619 => ?_)
        · exact k635
        · refine mj_aload_n (i := 0) (q := 623) dL_isSo_622 rfl rfl rfl ?_
          refine mj_iload (i := 12) (q := 625) dL_isSo_623 rfl rfl ?_
          refine mj_num2 (v := nI 8) (q := 627) (by decide) dL_isSo_625 rfl ?_
          refine mj_cV2i (K := m_X5_ofRun) (q := 630) dL_isSo_627 ln_L_33 ok_X5_ofRun (Nat.le_of_ble_eq_true rfl) (by decide) (by assumption) rfl rfl (s_ofRun hP2 hN2 hi (by decide)) (fun r_627 h1 hq => ?_)
          obtain ⟨rfl, rfl⟩ := hq
          refine mj_if_ne (tgt := 635) (q := 633) dL_isSo_630 (by decide) rfl (fun c_630 => ?_) (fun c_630 => absurd ⟨c_619, c_630⟩ (hCi.2 c_570))
          exact k635
      · refine mj_aload_n (i := 0) (q := 574) dL_isSo_573 rfl rfl rfl ?_
        refine mj_iload (i := 12) (q := 576) dL_isSo_574 rfl rfl ?_
        refine mj_num2 (v := nI 6) (q := 578) (by decide) dL_isSo_576 rfl ?_
        refine mj_cV2i (K := m_X5_ofRun) (q := 581) dL_isSo_578 ln_L_33 ok_X5_ofRun (Nat.le_of_ble_eq_true rfl) (by decide) (by assumption) rfl rfl (s_ofRun hP2 hN2 hi (by decide)) (fun r_578 h1 hq => ?_)
        obtain ⟨rfl, rfl⟩ := hq
        refine mj_num1 (v := 1) (q := 582) rfl dL_isSo_581 rfl ?_
        refine mj_icmp_eq (tgt := 633) (q := 585) dL_isSo_582 (by decide) rfl (fun c_582 => absurd c_582 (hCi.1 c_570).1) (fun c_582 => ?_)
        refine mj_aload_n (i := 0) (q := 586) dL_isSo_585 rfl rfl rfl ?_
        refine mj_iload (i := 12) (q := 588) dL_isSo_586 rfl rfl ?_
        refine mj_num2 (v := nI 7) (q := 590) (by decide) dL_isSo_588 rfl ?_
        refine mj_cV2i (K := m_X5_ofRun) (q := 593) dL_isSo_590 ln_L_33 ok_X5_ofRun (Nat.le_of_ble_eq_true rfl) (by decide) (by assumption) rfl rfl (s_ofRun hP2 hN2 hi (by decide)) (fun r_590 h1 hq => ?_)
        obtain ⟨rfl, rfl⟩ := hq
        refine mj_if_gt (tgt := 633) (q := 596) dL_isSo_593 (by decide) rfl (fun c_593 => absurd c_593 (Int32.not_lt.mpr (hCi.1 c_570).2.1)) (fun c_593 => ?_)
        refine mj_aload_n (i := 0) (q := 597) dL_isSo_596 rfl rfl rfl ?_
        refine mj_iload (i := 12) (q := 599) dL_isSo_597 rfl rfl ?_
        refine mj_num1 (v := nI 2) (q := 600) (by decide) dL_isSo_599 rfl ?_
        refine mj_cV2i (K := m_X5_ofRun) (q := 603) dL_isSo_600 ln_L_33 ok_X5_ofRun (Nat.le_of_ble_eq_true rfl) (by decide) (by assumption) rfl rfl (s_ofRun hP2 hN2 hi (by decide)) (fun r_600 h1 hq => ?_)
        obtain ⟨rfl, rfl⟩ := hq
        refine mj_num2 (v := 30) (q := 605) (by decide) dL_isSo_603 rfl ?_
        refine mj_icmp_ge (tgt := 635) (q := 608) dL_isSo_605 (by decide) rfl (fun c_605 => ?_) (fun c_605 => absurd (hCi.1 c_570).2.2 c_605)
        exact k635
    refine mj_iload (i := 12) (q := 515) dL_isSo_513 rfl rfl ?_
    refine mj_iload_n (i := 2) (q := 516) dL_isSo_515 rfl rfl rfl ?_
    refine mj_icmp_ge (tgt := 641) (q := 519) dL_isSo_516 (by decide) rfl (fun c_516 => absurd c_516 (nI_ge (a := i) (b := rc) hi (by omega))) (fun c_516 => ?_)
    refine mj_iload (i := 11) (q := 521) dL_isSo_519 rfl rfl ?_
    refine mj_if_ge (tgt := 560) (q := 524) dL_isSo_521 (by decide) rfl (fun c_521 => ?_) (fun c_521 => ?_)
    · exact k560
    · refine mj_aload_n (i := 0) (q := 525) dL_isSo_524 rfl rfl rfl ?_
      refine mj_iload (i := 12) (q := 527) dL_isSo_525 rfl rfl ?_
      refine mj_num1 (v := nI 4) (q := 528) (by decide) dL_isSo_527 rfl ?_
      refine mj_cV2i (K := m_X5_ofRun) (q := 531) dL_isSo_528 ln_L_33 ok_X5_ofRun (Nat.le_of_ble_eq_true rfl) (by decide) (by assumption) rfl rfl (s_ofRun hP2 hN2 hi (by decide)) (fun r_528 h1 hq => ?_)
      obtain ⟨rfl, rfl⟩ := hq
      refine mj_num2 (v := 40) (q := 533) (by decide) dL_isSo_531 rfl ?_
      refine mj_icmp_lt (tgt := 560) (q := 536) dL_isSo_533 (by decide) rfl (fun c_533 => ?_) (fun c_533 => ?_)
      · exact k560
      · refine mj_aload_n (i := 0) (q := 537) dL_isSo_536 rfl rfl rfl ?_
        refine mj_iload (i := 12) (q := 539) dL_isSo_537 rfl rfl ?_
        refine mj_num2 (v := nI 6) (q := 541) (by decide) dL_isSo_539 rfl ?_
        refine mj_cV2i (K := m_X5_ofRun) (q := 544) dL_isSo_541 ln_L_33 ok_X5_ofRun (Nat.le_of_ble_eq_true rfl) (by decide) (by assumption) rfl rfl (s_ofRun hP2 hN2 hi (by decide)) (fun r_541 h1 hq => ?_)
        obtain ⟨rfl, rfl⟩ := hq
        refine mj_if_ne (tgt := 560) (q := 547) dL_isSo_544 (by decide) rfl (fun c_544 => ?_) (fun c_544 => ?_)
        · exact k560
        · refine mj_aload_n (i := 0) (q := 548) dL_isSo_547 rfl rfl rfl ?_
          refine mj_iload (i := 12) (q := 550) dL_isSo_548 rfl rfl ?_
          refine mj_num2 (v := nI 7) (q := 552) (by decide) dL_isSo_550 rfl ?_
          refine mj_cV2i (K := m_X5_ofRun) (q := 555) dL_isSo_552 ln_L_33 ok_X5_ofRun (Nat.le_of_ble_eq_true rfl) (by decide) (by assumption) rfl rfl (s_ofRun hP2 hN2 hi (by decide)) (fun r_552 h1 hq => ?_)
          obtain ⟨rfl, rfl⟩ := hq
          refine mj_if_ne (tgt := 560) (q := 558) dL_isSo_555 (by decide) rfl (fun c_555 => ?_) (fun c_555 => absurd ⟨Int32.not_lt.mp c_533, c_544, c_555⟩ (hB (Int32.not_le.mp c_521) i hi))
          exact k560
set_option maxHeartbeats 4000000 in
set_option maxRecDepth 100000 in
theorem so_next {d x m ar : Nat} {Q : mj_Q} {v11 v12 v13 v14 : Value} {n : Nat} {K : Nat → mj_K} {f : Nat → Nat → Int32} {g : Nat → Nat → Option Nat} {y : mV} (hP : LPn K g x m) (hN : MN f m y) (hX : vSoNext y) (hC : ∀ i, i < y.2.1 → vSoCould y i) (k : mj_W m_L_isSo (d + 6) 0 0 Q 641 [.ref x, .int (nI y.1), .int (nI y.2.1), .ref ar, .int (vAccAl y (f ar) y.2.1), .int (vAccRun y 12 y.2.1), .int (vAccRun y 6 y.2.1), .int (vAccLift y 4 y.1), .int (vAccRun y 11 y.2.1), .int (vAccTo (f ar) y.2.1), .int (vAccLift y 5 y.1), .int (vNext y), .int (nI y.2.1), v13, v14] [] (n, K, f, g)) : mj_W m_L_isSo (d + 6) 0 0 Q 462 [.ref x, .int (nI y.1), .int (nI y.2.1), .ref ar, .int (vAccAl y (f ar) y.2.1), .int (vAccRun y 12 y.2.1), .int (vAccRun y 6 y.2.1), .int (vAccLift y 4 y.1), .int (vAccRun y 11 y.2.1), .int (vAccTo (f ar) y.2.1), .int (vAccLift y 5 y.1), v11, v12, v13, v14] [] (n, K, f, g) := by
  have hP2 := hP
  have hN2 := hN
  have kx := hP.1
  have hrc8 := hN.2.1
  have hlc4 := hN.1
  obtain ⟨lc, rc, mu, ls, rs⟩ := y
  dsimp only at hrc8 hlc4
  have hX2 := hX
  dsimp only at hC k
  have kk := so_could (v13 := v13) (v14 := v14) hP2 hN2 hX2 hC k rc 0 (by dsimp only; omega)
  dsimp only at kk
  have k510 : ∀ v12, mj_W m_L_isSo (d + 6) 0 0 Q 510 [.ref x, .int (nI lc), .int (nI rc), .ref ar, .int (vAccAl (lc, rc, mu, ls, rs) (f ar) rc), .int (vAccRun (lc, rc, mu, ls, rs) 12 rc), .int (vAccRun (lc, rc, mu, ls, rs) 6 rc), .int (vAccLift (lc, rc, mu, ls, rs) 4 lc), .int (vAccRun (lc, rc, mu, ls, rs) 11 rc), .int (vAccTo (f ar) rc), .int (vAccLift (lc, rc, mu, ls, rs) 5 lc), .int (vNext (lc, rc, mu, ls, rs)), v12, v13, v14] [] (n, K, f, g) := by
    intro v12
    refine mj_num1 (v := nI 0) (q := 511) (by decide) dL_isSo_510 rfl ?_
    refine mj_istore (i := 12) (q := 513) dL_isSo_511 rfl (by decide) rfl ?_
    dsimp only [List.set]
    exact kk
  by_cases hneg : vNext (lc, rc, mu, ls, rs) < 0
  · skip
    refine mj_aload_n (i := 0) (q := 463) dL_isSo_462 rfl rfl rfl ?_
    refine mj_cV0i (K := m_X5_nextBlast) (q := 466) dL_isSo_463 ln_L_105 ok_X5_nextBlast (Nat.le_of_ble_eq_true rfl) (by decide) (by assumption) rfl rfl (s_nextBlast hP2 hN2) (fun r_463 h1 hq => ?_)
    obtain ⟨rfl, rfl⟩ := hq
    refine mj_istore (i := 11) (q := 468) dL_isSo_466 rfl (by decide) rfl ?_
    dsimp only [List.set]
    refine mj_iload (i := 11) (q := 470) dL_isSo_468 rfl rfl ?_
    refine mj_if_lt (tgt := 510) (q := 473) dL_isSo_470 (by decide) rfl (fun c_470 => ?_) (fun c_470 => absurd hneg c_470)
    exact k510 _
  · obtain ⟨i, hi, ei, b1, b2, b3⟩ := hX.1 hneg
    dsimp only at hi ei
    rw [ei] at k510 kk
    refine mj_aload_n (i := 0) (q := 463) dL_isSo_462 rfl rfl rfl ?_
    refine mj_cV0i (K := m_X5_nextBlast) (q := 466) dL_isSo_463 ln_L_105 ok_X5_nextBlast (Nat.le_of_ble_eq_true rfl) (by decide) (by assumption) rfl rfl (s_nextBlast hP2 hN2) (fun r_463 h1 hq => ?_)
    obtain ⟨rfl, rfl⟩ := hq
    rw [ei]
    refine mj_istore (i := 11) (q := 468) dL_isSo_466 rfl (by decide) rfl ?_
    dsimp only [List.set]
    refine mj_iload (i := 11) (q := 470) dL_isSo_468 rfl rfl ?_
    refine mj_if_lt (tgt := 510) (q := 473) dL_isSo_470 (by decide) rfl (fun c_470 => absurd c_470 (by rw [ei] at hneg; exact hneg)) (fun c_470 => ?_)
    refine mj_aload_n (i := 0) (q := 474) dL_isSo_473 rfl rfl rfl ?_
    refine mj_iload (i := 11) (q := 476) dL_isSo_474 rfl rfl ?_
    refine mj_num1 (v := nI 4) (q := 477) (by decide) dL_isSo_476 rfl ?_
    refine mj_cV2i (K := m_X5_ofRun) (q := 480) dL_isSo_477 ln_L_33 ok_X5_ofRun (Nat.le_of_ble_eq_true rfl) (by decide) (by assumption) rfl rfl (s_ofRun hP2 hN2 hi (by decide)) (fun r_477 h1 hq => ?_)
    obtain ⟨rfl, rfl⟩ := hq
    refine mj_num2 (v := 40) (q := 482) (by decide) dL_isSo_480 rfl ?_
    refine mj_icmp_lt (tgt := 508) (q := 485) dL_isSo_482 (by decide) rfl (fun c_482 => absurd c_482 (Int32.not_lt.mpr b1)) (fun c_482 => ?_)
    refine mj_aload_n (i := 0) (q := 486) dL_isSo_485 rfl rfl rfl ?_
    refine mj_iload (i := 11) (q := 488) dL_isSo_486 rfl rfl ?_
    refine mj_num2 (v := nI 6) (q := 490) (by decide) dL_isSo_488 rfl ?_
    refine mj_cV2i (K := m_X5_ofRun) (q := 493) dL_isSo_490 ln_L_33 ok_X5_ofRun (Nat.le_of_ble_eq_true rfl) (by decide) (by assumption) rfl rfl (s_ofRun hP2 hN2 hi (by decide)) (fun r_490 h1 hq => ?_)
    obtain ⟨rfl, rfl⟩ := hq
    refine mj_num1 (v := 1) (q := 494) rfl dL_isSo_493 rfl ?_
    refine mj_icmp_eq (tgt := 508) (q := 497) dL_isSo_494 (by decide) rfl (fun c_494 => absurd c_494 b2) (fun c_494 => ?_)
    refine mj_aload_n (i := 0) (q := 498) dL_isSo_497 rfl rfl rfl ?_
    refine mj_iload (i := 11) (q := 500) dL_isSo_498 rfl rfl ?_
    refine mj_num2 (v := nI 7) (q := 502) (by decide) dL_isSo_500 rfl ?_
    refine mj_cV2i (K := m_X5_ofRun) (q := 505) dL_isSo_502 ln_L_33 ok_X5_ofRun (Nat.le_of_ble_eq_true rfl) (by decide) (by assumption) rfl rfl (s_ofRun hP2 hN2 hi (by decide)) (fun r_502 h1 hq => ?_)
    obtain ⟨rfl, rfl⟩ := hq
    refine mj_if_le (tgt := 510) (q := 508) dL_isSo_505 (by decide) rfl (fun c_505 => ?_) (fun c_505 => absurd b3 c_505)
    exact k510 _
set_option maxHeartbeats 4000000 in
set_option maxRecDepth 100000 in
theorem so_fin {d x m ar : Nat} {Q : mj_Q} {v11 v12 v13 v14 : Value} {n : Nat} {K : Nat → mj_K} {f : Nat → Nat → Int32} {g : Nat → Nat → Option Nat} {y : mV} (hP : LPn K g x m) (hN : MN f m y) (hX : vSoFin y (f ar)) (k : mj_W m_L_isSo (d + 6) 0 0 Q 728 [.ref x, .int (nI y.1), .int (nI y.2.1), .ref ar, .int (vAccAl y (f ar) y.2.1), .int (vAccRun y 12 y.2.1), .int (vAccRun y 6 y.2.1), .int (vAccLift y 4 y.1), .int (vAccRun y 11 y.2.1), .int (vAccTo (f ar) y.2.1), .int (vAccLift y 5 y.1), v11, v12, v13, v14] [] (n, K, f, g)) : mj_W m_L_isSo (d + 6) 0 0 Q 641 [.ref x, .int (nI y.1), .int (nI y.2.1), .ref ar, .int (vAccAl y (f ar) y.2.1), .int (vAccRun y 12 y.2.1), .int (vAccRun y 6 y.2.1), .int (vAccLift y 4 y.1), .int (vAccRun y 11 y.2.1), .int (vAccTo (f ar) y.2.1), .int (vAccLift y 5 y.1), v11, v12, v13, v14] [] (n, K, f, g) := by
  have hP2 := hP
  have hN2 := hN
  have kx := hP.1
  have hrc8 := hN.2.1
  have hlc4 := hN.1
  obtain ⟨lc, rc, mu, ls, rs⟩ := y
  dsimp only at hrc8 hlc4
  obtain ⟨c1, c2, c3, c4, c5, c6, c7, c8⟩ := hX
  dsimp only at c1 c2 c3 c4 c5 c6 c7 c8 k
  refine mj_aload_n (i := 0) (q := 642) dL_isSo_641 rfl rfl rfl ?_
  refine mj_num2 (v := nI 14) (q := 644) (by decide) dL_isSo_642 rfl ?_
  refine mj_cV1i (K := m_X5_many) (q := 647) dL_isSo_644 ln_L_46 ok_X5_many (Nat.le_of_ble_eq_true rfl) (by decide) (by assumption) rfl rfl (s_many hP2 hN2 (by decide)) (fun r_644 h1 hq => ?_)
  obtain ⟨rfl, rfl⟩ := hq
  refine mj_iload (i := 4) (q := 649) dL_isSo_647 rfl rfl ?_
  refine mj_icmp_ne (tgt := 754) (q := 652) dL_isSo_649 (by decide) rfl (fun c_649 => absurd c1 c_649) (fun c_649 => ?_)
  refine mj_aload_n (i := 0) (q := 653) dL_isSo_652 rfl rfl rfl ?_
  refine mj_num2 (v := nI 8) (q := 655) (by decide) dL_isSo_653 rfl ?_
  refine mj_cV1i (K := m_X5_many) (q := 658) dL_isSo_655 ln_L_46 ok_X5_many (Nat.le_of_ble_eq_true rfl) (by decide) (by assumption) rfl rfl (s_many hP2 hN2 (by decide)) (fun r_655 h1 hq => ?_)
  obtain ⟨rfl, rfl⟩ := hq
  refine mj_iload (i := 5) (q := 660) dL_isSo_658 rfl rfl ?_
  refine mj_icmp_ne (tgt := 754) (q := 663) dL_isSo_660 (by decide) rfl (fun c_660 => absurd c2 c_660) (fun c_660 => ?_)
  refine mj_aload_n (i := 0) (q := 664) dL_isSo_663 rfl rfl rfl ?_
  refine mj_num1 (v := nI 3) (q := 665) (by decide) dL_isSo_664 rfl ?_
  refine mj_cV1i (K := m_X5_many) (q := 668) dL_isSo_665 ln_L_46 ok_X5_many (Nat.le_of_ble_eq_true rfl) (by decide) (by assumption) rfl rfl (s_many hP2 hN2 (by decide)) (fun r_665 h1 hq => ?_)
  obtain ⟨rfl, rfl⟩ := hq
  refine mj_iload (i := 6) (q := 670) dL_isSo_668 rfl rfl ?_
  refine mj_icmp_ne (tgt := 754) (q := 673) dL_isSo_670 (by decide) rfl (fun c_670 => absurd c3 c_670) (fun c_670 => ?_)
  refine mj_iload (i := 10) (q := 675) dL_isSo_673 rfl rfl ?_
  refine mj_iload (i := 6) (q := 677) dL_isSo_675 rfl rfl ?_
  refine mj_icmp_ne (tgt := 754) (q := 680) dL_isSo_677 (by decide) rfl (fun c_677 => absurd c4 c_677) (fun c_677 => ?_)
  refine mj_aload_n (i := 0) (q := 681) dL_isSo_680 rfl rfl rfl ?_
  refine mj_num2 (v := nI 12) (q := 683) (by decide) dL_isSo_681 rfl ?_
  refine mj_cV1i (K := m_X5_many) (q := 686) dL_isSo_683 ln_L_46 ok_X5_many (Nat.le_of_ble_eq_true rfl) (by decide) (by assumption) rfl rfl (s_many hP2 hN2 (by decide)) (fun r_683 h1 hq => ?_)
  obtain ⟨rfl, rfl⟩ := hq
  refine mj_iload (i := 7) (q := 688) dL_isSo_686 rfl rfl ?_
  refine mj_icmp_ne (tgt := 754) (q := 691) dL_isSo_688 (by decide) rfl (fun c_688 => absurd c5 c_688) (fun c_688 => ?_)
  refine mj_iload (i := 8) (q := 693) dL_isSo_691 rfl rfl ?_
  refine mj_iload (i := 7) (q := 695) dL_isSo_693 rfl rfl ?_
  refine mj_icmp_ne (tgt := 754) (q := 698) dL_isSo_695 (by decide) rfl (fun c_695 => absurd c6 c_695) (fun c_695 => ?_)
  refine mj_aload_n (i := 0) (q := 699) dL_isSo_698 rfl rfl rfl ?_
  refine mj_num2 (v := nI 9) (q := 701) (by decide) dL_isSo_699 rfl ?_
  refine mj_cV1i (K := m_X5_many) (q := 704) dL_isSo_701 ln_L_46 ok_X5_many (Nat.le_of_ble_eq_true rfl) (by decide) (by assumption) rfl rfl (s_many hP2 hN2 (by decide)) (fun r_701 h1 hq => ?_)
  obtain ⟨rfl, rfl⟩ := hq
  refine mj_aload_n (i := 0) (q := 705) dL_isSo_704 rfl rfl rfl ?_
  refine mj_num2 (v := nI 8) (q := 707) (by decide) dL_isSo_705 rfl ?_
  refine mj_cV1i (K := m_X5_many) (q := 710) dL_isSo_707 ln_L_46 ok_X5_many (Nat.le_of_ble_eq_true rfl) (by decide) (by assumption) rfl rfl (s_many hP2 hN2 (by decide)) (fun r_707 h1 hq => ?_)
  obtain ⟨rfl, rfl⟩ := hq
  refine mj_icmp_gt (tgt := 754) (q := 713) dL_isSo_710 (by decide) rfl (fun c_710 => absurd c_710 (Int32.not_lt.mpr c7)) (fun c_710 => ?_)
  refine mj_aload_n (i := 0) (q := 714) dL_isSo_713 rfl rfl rfl ?_
  refine mj_num2 (v := nI 10) (q := 716) (by decide) dL_isSo_714 rfl ?_
  refine mj_cV1i (K := m_X5_many) (q := 719) dL_isSo_716 ln_L_46 ok_X5_many (Nat.le_of_ble_eq_true rfl) (by decide) (by assumption) rfl rfl (s_many hP2 hN2 (by decide)) (fun r_716 h1 hq => ?_)
  obtain ⟨rfl, rfl⟩ := hq
  refine mj_aload_n (i := 0) (q := 720) dL_isSo_719 rfl rfl rfl ?_
  refine mj_num2 (v := nI 8) (q := 722) (by decide) dL_isSo_720 rfl ?_
  refine mj_cV1i (K := m_X5_many) (q := 725) dL_isSo_722 ln_L_46 ok_X5_many (Nat.le_of_ble_eq_true rfl) (by decide) (by assumption) rfl rfl (s_many hP2 hN2 (by decide)) (fun r_722 h1 hq => ?_)
  obtain ⟨rfl, rfl⟩ := hq
  refine mj_icmp_gt (tgt := 754) (q := 728) dL_isSo_725 (by decide) rfl (fun c_725 => absurd c_725 (Int32.not_lt.mpr c8)) (fun c_725 => ?_)
  exact k
