/-! the law's isSo from 728 on, and whole -/
theorem db_n64 {r : UInt64} (h : FP.Core.val64 r ≠ .nan) : vf_n64 r := by
  unfold vf_n64
  rw [UInt64.le_iff_toNat_le, FP.Core.mask_toNat]
  have h1 : ¬ FP.Core.infBits FP.Core.b64 < FP.Core.mag FP.Core.b64 r.toNat := fun z => h ((FP.Core.decode_nan r.toNat).mpr z)
  rw [FP.Core.mag_toNat64, FP.Core.infBits_b64] at h1
  exact Nat.le_of_not_lt h1
set_option maxHeartbeats 1000000 in
set_option maxRecDepth 100000 in
theorem so_mean {d x m ar N A : Nat} {v11 v12 v13 v14 : Value} {n : Nat} {K : Nat → mj_K} {f : Nat → Nat → Int32} {g : Nat → Nat → Option Nat} {y : mV} (hP : LPn K g x m) (hN : MN f m y) (e1 : vAccAl y (f ar) y.2.1 = vDepthArea y.2.2.2.2 y.2.1) (e2 : vAccTo (f ar) y.2.1 = vArea y.2.2.2.2 y.2.1) (h1 : (vDepthArea y.2.2.2.2 y.2.1).toInt = (N : Int)) (h2 : (vArea y.2.2.2.2 y.2.1).toInt = (A : Int)) (hN9 : N < 2 ^ 18) (hA : 0 < A) (hA2 : A ≤ 64) : mj_W m_L_isSo (d + 6) 0 0 (fun v h1 => ∃ r, v = some (.int r) ∧ (r = 1 ∧ h1 = (n, K, f, g))) 728 [.ref x, .int (nI y.1), .int (nI y.2.1), .ref ar, .int (vAccAl y (f ar) y.2.1), .int (vAccRun y 12 y.2.1), .int (vAccRun y 6 y.2.1), .int (vAccLift y 4 y.1), .int (vAccRun y 11 y.2.1), .int (vAccTo (f ar) y.2.1), .int (vAccLift y 5 y.1), v11, v12, v13, v14] [] (n, K, f, g) := by
  obtain ⟨g1, g2, g3, g4, g5⟩ := db_mean h1 h2 hN9 hA hA2
  have hle : 1 ≤ vArea y.2.2.2.2 y.2.1 := by
    rw [Int32.le_iff_toInt_le, h2]
    show (1 : Int) ≤ (A : Int)
    omega
  have n1 : vf_n64 (FP.ddiv (FP.i2d (vDepthArea y.2.2.2.2 y.2.1)) (FP.i2d (vArea y.2.2.2.2 y.2.1))) := db_n64 (FP.Core.DFin.ne_nan g1)
  have n2 : vf_n64 (FP.dmul (FP.ddiv (FP.i2d (vDepthArea y.2.2.2.2 y.2.1)) (FP.i2d (vArea y.2.2.2.2 y.2.1))) (FP.i2d (vArea y.2.2.2.2 y.2.1))) := db_n64 (FP.Core.DFin.ne_nan g2)
  have n3 : vf_n64 (FP.dsub (FP.dmul (FP.ddiv (FP.i2d (vDepthArea y.2.2.2.2 y.2.1)) (FP.i2d (vArea y.2.2.2.2 y.2.1))) (FP.i2d (vArea y.2.2.2.2 y.2.1))) (FP.i2d (vDepthArea y.2.2.2.2 y.2.1))) := db_n64 g3
  obtain ⟨a1, a2⟩ := db_abs g3 g4 g5
  have hm : vMean y = FP.ddiv (FP.i2d (vDepthArea y.2.2.2.2 y.2.1)) (FP.i2d (vArea y.2.2.2.2 y.2.1)) := by unfold vMean; rw [if_pos hle]
  have hc : FP.dcmp (FP.dsub (FP.dmul (FP.ddiv (FP.i2d (vDepthArea y.2.2.2.2 y.2.1)) (FP.i2d (vArea y.2.2.2.2 y.2.1))) (FP.i2d (vArea y.2.2.2.2 y.2.1))) (FP.i2d (vDepthArea y.2.2.2.2 y.2.1)) &&& 0x7fffffffffffffff) 4547007122018943789 = some .lt := a2
  have kx := hP.1
  rw [e1, e2]
  refine mj_aload_n (i := 0) (q := 729) dL_isSo_728 rfl rfl rfl ?_
  refine mj_cV0d (K := m_X5_meanDepth) (q := 732) dL_isSo_729 ln_L_112 ok_X5_meanDepth (Nat.le_of_ble_eq_true rfl) (by decide) (by assumption) rfl rfl (s_meanDepth hP hN (fun _ => n1)) (fun r_729 h1 hq => ?_)
  obtain ⟨rfl, rfl⟩ := hq
  rw [hm]
  refine mj_iload (i := 9) (q := 734) dL_isSo_732 rfl rfl ?_
  refine mj_i2d (q := 735) dL_isSo_734 rfl ?_
  refine mj_dmul (q := 736) n2 dL_isSo_735 rfl ?_
  refine mj_iload (i := 4) (q := 738) dL_isSo_736 rfl rfl ?_
  refine mj_i2d (q := 739) dL_isSo_738 rfl ?_
  refine mj_dsub (q := 740) n3 dL_isSo_739 rfl ?_
  refine mj_dabs (q := 743) dL_isSo_740 ln_L_116 n3 (Nat.le_of_ble_eq_true rfl) rfl ?_
  refine mj_ldc2d (q := 746) dL_isSo_743 ct_L_119 rfl ?_
  refine mj_dcmp (q := 747) dL_isSo_746 rfl ?_
  refine mj_if_ge (tgt := 754) (q := 750) dL_isSo_747 (by decide) rfl (fun c_747 => absurd c_747 (by rw [hc]; decide)) (fun c_747 => ?_)
  refine mj_num1 (v := 1) (q := 751) rfl dL_isSo_750 rfl ?_
  refine mj_goto (q := 755) dL_isSo_751 (by decide) ?_
  exact mj_ireturn dL_isSo_755 ⟨_, rfl, rfl⟩ ⟨_, rfl, ⟨rfl, rfl⟩⟩
set_option maxHeartbeats 1000000 in
set_option maxRecDepth 100000 in
theorem s_isSo {d x m ar L N A : Nat} {n : Nat} {K : Nat → mj_K} {f : Nat → Nat → Int32} {g : Nat → Nat → Option Nat} {y : mV} (hP : LPn K g x m) (hN : MN f m y) (hK : K ar = (0, L, 0)) (hiL : y.2.1 ≤ L) (hL9 : L ≤ 1000) (hS : ∀ i, i < y.2.1 → vSoRun y i (f ar i)) (hX : vSoNext y) (hC : ∀ i, i < y.2.1 → vSoCould y i) (hF : vSoFin y (f ar)) (e1 : vAccAl y (f ar) y.2.1 = vDepthArea y.2.2.2.2 y.2.1) (e2 : vAccTo (f ar) y.2.1 = vArea y.2.2.2.2 y.2.1) (h1 : (vDepthArea y.2.2.2.2 y.2.1).toInt = (N : Int)) (h2 : (vArea y.2.2.2.2 y.2.1).toInt = (A : Int)) (hN9 : N < 2 ^ 18) (hA : 0 < A) (hA2 : A ≤ 64) : mj_Ci m_L_isSo (d + 6) [.ref x, .int (nI y.1), .int (nI y.2.1), .ref ar] (n, K, f, g) (fun r h1 => r = 1 ∧ h1 = (n, K, f, g)) := by
  refine mj_entry (by refine ⟨by decide +kernel, by decide, rfl, Nat.le_of_ble_eq_true rfl⟩) ?_
  show mj_W _ _ _ _ _ 0 [.ref x, .int (nI y.1), .int (nI y.2.1), .ref ar, .null, .null, .null, .null, .null, .null, .null, .null, .null, .null, .null] [] _
  refine mj_num1 (v := 0) (q := 1) rfl dL_isSo_0 rfl ?_
  refine mj_istore (i := 4) (q := 3) dL_isSo_1 rfl (by decide) rfl ?_
  dsimp only [List.set]
  refine mj_num1 (v := 0) (q := 4) rfl dL_isSo_3 rfl ?_
  refine mj_istore (i := 5) (q := 6) dL_isSo_4 rfl (by decide) rfl ?_
  dsimp only [List.set]
  refine mj_num1 (v := 0) (q := 7) rfl dL_isSo_6 rfl ?_
  refine mj_istore (i := 6) (q := 9) dL_isSo_7 rfl (by decide) rfl ?_
  dsimp only [List.set]
  refine mj_num1 (v := 0) (q := 10) rfl dL_isSo_9 rfl ?_
  refine mj_istore (i := 7) (q := 12) dL_isSo_10 rfl (by decide) rfl ?_
  dsimp only [List.set]
  refine mj_num1 (v := 0) (q := 13) rfl dL_isSo_12 rfl ?_
  refine mj_istore (i := 8) (q := 15) dL_isSo_13 rfl (by decide) rfl ?_
  dsimp only [List.set]
  refine mj_num1 (v := 0) (q := 16) rfl dL_isSo_15 rfl ?_
  refine mj_istore (i := 9) (q := 18) dL_isSo_16 rfl (by decide) rfl ?_
  dsimp only [List.set]
  refine mj_num1 (v := nI 0) (q := 19) (by decide) dL_isSo_18 rfl ?_
  refine mj_istore (i := 10) (q := 21) dL_isSo_19 rfl (by decide) rfl ?_
  dsimp only [List.set]
  refine so_runs hP hN hK hiL hL9 hS (fun v11 v12 v13 v14 => ?_) y.2.1 0 _ _ _ _ (Nat.zero_add _)
  refine mj_num1 (v := 0) (q := 421) rfl dL_isSo_420 rfl ?_
  refine mj_istore (i := 10) (q := 423) dL_isSo_421 rfl (by decide) rfl ?_
  dsimp only [List.set]
  refine mj_num1 (v := nI 0) (q := 424) (by decide) dL_isSo_423 rfl ?_
  refine mj_istore (i := 11) (q := 426) dL_isSo_424 rfl (by decide) rfl ?_
  dsimp only [List.set]
  refine so_lifts hP hN ?_ y.1 0 (Nat.zero_add _)
  refine so_next hP hN hX hC ?_
  refine so_fin hP hN hF ?_
  exact so_mean hP hN e1 e2 h1 h2 hN9 hA hA2
