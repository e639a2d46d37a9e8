/-! PISTEKEEPER: what would be, second part; the digest -/
def vFold (a : Int64) (v : Int32) : Int64 := a * 31 + v.toInt64
def vFoldN (F : Nat → Int32) : Nat → Int64 → Int64
  | 0, a => a
  | n + 1, a => vFold (vFoldN F n a) (F n)
def vLaysN (y : mV) (i : Nat) : Nat → Int64 → Int64
  | 0, a => a
  | l + 1, a => vFoldN (vOfLayer y i l) 3 (vLaysN y i l a)
def vRunFold (y : mV) (i : Nat) (a : Int64) : Int64 := vFold (vFold (vLaysN y i (y.2.2.2.2 i).1.1 (vFoldN (vOfRun y i) 14 a)) (vRiskWould y i 12 (-6) 3)) (vMakeWould y i 9 (-9) 60)
def vRunsN (y : mV) : Nat → Int64 → Int64
  | 0, a => a
  | i + 1, a => vRunFold y i (vRunsN y i a)
def vLiftsN (y : mV) : Nat → Int64 → Int64
  | 0, a => a
  | i + 1, a => vFoldN (vOfLift y i) 6 (vLiftsN y i a)
def vDigest (y : mV) : Int64 := vFold (vFold (vLiftsN y y.1 (vRunsN y y.2.1 (vFoldN (vMany y) 15 58212))) (vNext y)) (vCouldN y.2.2.1 y.2.2.2.1 y.2.2.2.2 y.2.1)
theorem vDepth_go (W : Nat → Int32) : ∀ (n : Nat) (y : mV), vIter W (n + 1) y = vIter W n (vHour W y) := fun _ _ => rfl

set_option maxHeartbeats 4000000 in
set_option maxRecDepth 100000 in
theorem s_wouldMake {d x m i hh : Nat} {warmth humid : Int32} {n : Nat} {K : Nat → mj_K} {f : Nat → Nat → Int32} {g : Nat → Nat → Option Nat} {y : mV} (hP : LPn K g x m) (hN : MN f m y) (hi : i < y.2.1) (hh1 : 1 ≤ hh) (hh2 : hh ≤ 48) (hw1 : -20 ≤ warmth) (hw2 : warmth ≤ 20) (hf1 : 0 ≤ humid) (hf2 : humid ≤ 100) : mj_Ci m_X5_wouldMake (d + 6) [.ref x, .int (nI i), .int (nI hh), .int warmth, .int humid] (n, K, f, g) (fun r h1 => r = vMakeWould y i hh warmth humid ∧ ∃ f1, h1 = (n, K, f1, g) ∧ mj_Fr (m + 47) (m + 142) f f1) := by
  have hP2 := hP
  have hN2 := hN
  obtain ⟨kx, hxm, gx0, gx1, gx2, gx3, hL, hLt, hLb, kw⟩ := hP
  have hL2 := hL
  obtain ⟨km, gm0, gm1, km1, km6, hLl, hLr⟩ := hL
  obtain ⟨lc, rc, mu, ls, rs⟩ := y
  obtain ⟨n1, n2, n3, n4, n5, n6, n7, n8⟩ := hN
  dsimp only at n1 n2 n3 n4 n5 n6 n7 n8
  have b1 : (1 : Int32) ≤ nI hh := nI_le (a := 1) hh1 (by omega)
  have b2 : nI hh ≤ 48 := nI_le (b := 48) hh2 (by omega)
  have hi : i < rc := hi
  have kt : K (m + 47) = (2, 1, 0) := hLt.1
  have gt1 : g (m + 47) 1 = some (m + 47 + 6) := hLt.2.2.1
  have kt6 : K (m + 47 + 6) = (1, 8, 2) := hLt.2.2.2.2.1
  have gti : g (m + 47 + 6) i = some (m + 47 + 7 + 5 * i) := (hLt.2.2.2.2.2.2 i (by omega)).1
  have kti : K (m + 47 + 7 + 5 * i) = (2, 2, 0) := (hLt.2.2.2.2.2.2 i (by omega)).2.1
  have gtr : g (m + 47 + 7 + 5 * i) 0 = some (m + 47 + 7 + 5 * i + 1) := (hLt.2.2.2.2.2.2 i (by omega)).2.2.1
  have kts : K (m + 47 + 7 + 5 * i + 1) = (2, 3, 0) := (hLt.2.2.2.2.2.2 i (by omega)).2.2.2.1
  have lts : LSn K g (m + 47 + 7 + 5 * i + 1) := (hLt.2.2.2.2.2.2 i (by omega)).2.2.2
  have kb : K (m + 94) = (2, 1, 0) := hLb.1
  have gb1 : g (m + 94) 1 = some (m + 94 + 6) := hLb.2.2.1
  have kb6 : K (m + 94 + 6) = (1, 8, 2) := hLb.2.2.2.2.1
  have gbi : g (m + 94 + 6) i = some (m + 94 + 7 + 5 * i) := (hLb.2.2.2.2.2.2 i (by omega)).1
  have kbi : K (m + 94 + 7 + 5 * i) = (2, 2, 0) := (hLb.2.2.2.2.2.2 i (by omega)).2.1
  have gbr : g (m + 94 + 7 + 5 * i) 0 = some (m + 94 + 7 + 5 * i + 1) := (hLb.2.2.2.2.2.2 i (by omega)).2.2.1
  have kbs : K (m + 94 + 7 + 5 * i + 1) = (2, 3, 0) := (hLb.2.2.2.2.2.2 i (by omega)).2.2.2.1
  have lbs : LSn K g (m + 94 + 7 + 5 * i + 1) := (hLb.2.2.2.2.2.2 i (by omega)).2.2.2
  have hg_i : g (m + 6) i = some (m + 7 + 5 * i) := (hLr i (by omega)).1
  have hL_i := (hLr i (by omega)).2
  have kr_i : K (m + 7 + 5 * i) = (2, 2, 0) := hL_i.1
  have gr_i : g (m + 7 + 5 * i) 0 = some ((m + 7 + 5 * i) + 1) := hL_i.2.1
  have ks_i : K ((m + 7 + 5 * i) + 1) = (2, 3, 0) := hL_i.2.2.1
  have hR_i := n7 i (by omega)
  have e6_i : f (m + 7 + 5 * i) 6 = (rs i).2 6 := hR_i.2.1 6 (by omega) (by omega)
  have key : 1 ≤ (rs i).2 6 → ∀ (j t : Nat) (f1 : Nat → Nat → Int32) (z1 z2 : mV), t + j = hh → z1.1 = lc → z1.2.1 = rc → z2.1 = lc → z2.2.1 = rc → MN f1 (m + 47) z1 → MN f1 (m + 94) z2 → WN f1 (m + 141) (wW warmth 0 0 0 humid) → vIter (wW warmth 0 0 0 humid) hh (vTrial (lc, rc, mu, ls, rs) i) = vIter (wW warmth 0 0 0 humid) j z1 → vIter (wW warmth 0 0 0 humid) hh (vBare (lc, rc, mu, ls, rs)) = vIter (wW warmth 0 0 0 humid) j z2 → mj_Fr (m + 47) (m + 142) f f1 → mj_W m_X5_wouldMake (d + 6) 0 0 (fun v h1 => ∃ r, v = some (.int r) ∧ r = vMakeWould (lc, rc, mu, ls, rs) i hh warmth humid ∧ ∃ f1, h1 = (n, K, f1, g) ∧ mj_Fr (m + 47) (m + 142) f f1) 115 [.ref x, .int (nI i), .int (nI hh), .int warmth, .int humid, .int (nI t)] [] (n, K, f1, g) := by
    intro hg j
    induction j with
    | zero =>
      intro t f1 z1 z2 ht a1 a2 a3 a4 hM hB hW v1 v2 hF
      have ht : t = hh := by omega
      subst ht
      have hRt := hM.2.2.2.2.2.2.1 i (by rw [a2]; exact hi)
      have hRb := hB.2.2.2.2.2.2.1 i (by rw [a4]; exact hi)
      refine mj_iload (i := 5) (q := 117) dX5_wouldMake_115 rfl rfl ?_
      refine mj_iload_n (i := 2) (q := 118) dX5_wouldMake_117 rfl rfl rfl ?_
      refine mj_icmp_ge (tgt := 149) (q := 121) dX5_wouldMake_118 (by decide) rfl (fun c_118 => ?_) (fun c_118 => absurd (Int32.le_refl _) c_118)
      refine mj_aload_n (i := 0) (q := 150) dX5_wouldMake_149 rfl rfl rfl ?_
      refine mj_getr (q := 153) dX5_wouldMake_150 fl_X5_16 rfl rfl (by assumption) (by assumption) ?_
      refine mj_getr (q := 156) dX5_wouldMake_153 fl_X5_65 rfl rfl (by assumption) (by assumption) ?_
      refine mj_iload_n (i := 1) (q := 157) dX5_wouldMake_156 rfl rfl rfl ?_
      refine mj_aaldn (q := 158) dX5_wouldMake_157 rfl (by assumption) ⟨by omega, by omega⟩ (by assumption) ?_
      refine mj_getr (q := 161) dX5_wouldMake_158 fl_X5_169 rfl rfl (by assumption) (by assumption) ?_
      refine mj_cV0i (K := m_X3_wholeDepth) (q := 164) dX5_wouldMake_161 ln_X5_202 ok_X3_wholeDepth (Nat.le_of_ble_eq_true rfl) (by decide) (by assumption) rfl rfl (s_wholeDepth lts hRt.1) (fun r_161 h1 hq => ?_)
      obtain ⟨rfl, rfl⟩ := hq
      refine mj_aload_n (i := 0) (q := 165) dX5_wouldMake_164 rfl rfl rfl ?_
      refine mj_getr (q := 168) dX5_wouldMake_165 fl_X5_19 rfl rfl (by assumption) (by assumption) ?_
      refine mj_getr (q := 171) dX5_wouldMake_168 fl_X5_65 rfl rfl (by assumption) (by assumption) ?_
      refine mj_iload_n (i := 1) (q := 172) dX5_wouldMake_171 rfl rfl rfl ?_
      refine mj_aaldn (q := 173) dX5_wouldMake_172 rfl (by assumption) ⟨by omega, by omega⟩ (by assumption) ?_
      refine mj_getr (q := 176) dX5_wouldMake_173 fl_X5_169 rfl rfl (by assumption) (by assumption) ?_
      refine mj_cV0i (K := m_X3_wholeDepth) (q := 179) dX5_wouldMake_176 ln_X5_202 ok_X3_wholeDepth (Nat.le_of_ble_eq_true rfl) (by decide) (by assumption) rfl rfl (s_wholeDepth lbs hRb.1) (fun r_176 h1 hq => ?_)
      obtain ⟨rfl, rfl⟩ := hq
      refine mj_isub (q := 180) dX5_wouldMake_179 rfl ?_
      exact mj_ireturn dX5_wouldMake_180 ⟨_, rfl, rfl⟩ ⟨_, rfl, by unfold vMakeWould; rw [if_pos hg, v1, v2]; rfl, _, rfl, hF⟩
    | succ j ih =>
      intro t f1 z1 z2 ht a1 a2 a3 a4 hM hB hW v1 v2 hF
      have y1 := vHour_cnt (wW warmth 0 0 0 humid) z1
      have y2 := vHour_cnt (wW warmth 0 0 0 humid) z2
      refine mj_iload (i := 5) (q := 117) dX5_wouldMake_115 rfl rfl ?_
      refine mj_iload_n (i := 2) (q := 118) dX5_wouldMake_117 rfl rfl rfl ?_
      refine mj_icmp_ge (tgt := 149) (q := 121) dX5_wouldMake_118 (by decide) rfl (fun c_118 => absurd c_118 (nI_ge (a := t) (b := hh) (by omega) (by omega))) (fun c_118 => ?_)
      refine mj_aload_n (i := 0) (q := 122) dX5_wouldMake_121 rfl rfl rfl ?_
      refine mj_getr (q := 125) dX5_wouldMake_122 fl_X5_16 rfl rfl (by assumption) (by assumption) ?_
      refine mj_aload_n (i := 0) (q := 126) dX5_wouldMake_125 rfl rfl rfl ?_
      refine mj_getr (q := 129) dX5_wouldMake_126 fl_X5_25 rfl rfl (by assumption) (by assumption) ?_
      refine mj_cV1v (K := m_X1_passHour) (q := 132) dX5_wouldMake_129 ln_X5_128 ok_X1_passHour (Nat.le_of_ble_eq_true rfl) (by decide) (by assumption) rfl rfl (s_passHour hLt hM kw hW (by omega)) (fun h1 hq => ?_)
      obtain ⟨f2, rfl, hM2, hF2⟩ := hq
      have hB2 := hB.keep hF2 (by omega)
      have hW2 := hW.keep hF2 (by omega)
      refine mj_aload_n (i := 0) (q := 133) dX5_wouldMake_132 rfl rfl rfl ?_
      refine mj_getr (q := 136) dX5_wouldMake_133 fl_X5_19 rfl rfl (by assumption) (by assumption) ?_
      refine mj_aload_n (i := 0) (q := 137) dX5_wouldMake_136 rfl rfl rfl ?_
      refine mj_getr (q := 140) dX5_wouldMake_137 fl_X5_25 rfl rfl (by assumption) (by assumption) ?_
      refine mj_cV1v (K := m_X1_passHour) (q := 143) dX5_wouldMake_140 ln_X5_128 ok_X1_passHour (Nat.le_of_ble_eq_true rfl) (by decide) (by assumption) rfl rfl (s_passHour hLb hB2 kw hW2 (by omega)) (fun h1 hq => ?_)
      obtain ⟨f3, rfl, hB3, hF3⟩ := hq
      refine mj_iinc (i := 5) (q := 146) dX5_wouldMake_143 rfl rfl (by decide) rfl ?_
      dsimp only [List.set]
      refine mj_goto (q := 115) dX5_wouldMake_146 (by decide) ?_
      rw [show nI t + Int32.ofInt 1 = nI (t + 1) from nI_1 t]
      exact ih (t + 1) f3 _ _ (by omega) (y1.1.trans a1) (y1.2.trans a2) (y2.1.trans a3) (y2.2.trans a4) (hM2.keep hF3 (by omega)) hB3 (hW2.keep hF3 (by omega)) v1 v2 (hF.tr ((hF2.wide (by omega) (by omega)).tr (hF3.wide (by omega) (by omega))))
  refine mj_entry (by refine ⟨by decide +kernel, by decide, rfl, Nat.le_of_ble_eq_true rfl⟩) ?_
  show mj_W _ _ _ _ _ 0 [.ref x, .int (nI i), .int (nI hh), .int warmth, .int humid, .null] [] _
  refine mj_aload_n (i := 0) (q := 1) dX5_wouldMake_0 rfl rfl rfl ?_
  refine mj_iload_n (i := 1) (q := 2) dX5_wouldMake_1 rfl rfl rfl ?_
  refine mj_cV1v (K := m_X5_requireRun) (q := 5) dX5_wouldMake_2 ln_X5_98 ok_X5_requireRun (Nat.le_of_ble_eq_true rfl) (by decide) (by assumption) rfl rfl (s_reqRun hP2 hN2 hi) (fun h1 hq => ?_)
  obtain rfl := hq
  refine mj_iload_n (i := 2) (q := 6) dX5_wouldMake_5 rfl rfl rfl ?_
  refine mj_num1 (v := 1) (q := 7) rfl dX5_wouldMake_6 rfl ?_
  refine mj_num2 (v := 48) (q := 9) (by decide) dX5_wouldMake_7 rfl ?_
  refine mj_cS3v (K := m_X5_requireWithin) (q := 12) dX5_wouldMake_9 ln_X5_29 ok_X5_requireWithin (Nat.le_of_ble_eq_true rfl) (by decide) rfl (s_within (by assumption) (by assumption)) (fun h1 hq => ?_)
  obtain rfl := hq
  refine mj_iload_n (i := 3) (q := 13) dX5_wouldMake_12 rfl rfl rfl ?_
  refine mj_num2 (v := (-20)) (q := 15) (by decide) dX5_wouldMake_13 rfl ?_
  refine mj_num2 (v := 20) (q := 17) (by decide) dX5_wouldMake_15 rfl ?_
  refine mj_cS3v (K := m_X5_requireWithin) (q := 20) dX5_wouldMake_17 ln_X5_29 ok_X5_requireWithin (Nat.le_of_ble_eq_true rfl) (by decide) rfl (s_within (by assumption) (by assumption)) (fun h1 hq => ?_)
  obtain rfl := hq
  refine mj_iload (i := 4) (q := 22) dX5_wouldMake_20 rfl rfl ?_
  refine mj_num1 (v := 0) (q := 23) rfl dX5_wouldMake_22 rfl ?_
  refine mj_num2 (v := 100) (q := 25) (by decide) dX5_wouldMake_23 rfl ?_
  refine mj_cS3v (K := m_X5_requireWithin) (q := 28) dX5_wouldMake_25 ln_X5_29 ok_X5_requireWithin (Nat.le_of_ble_eq_true rfl) (by decide) rfl (s_within (by assumption) (by assumption)) (fun h1 hq => ?_)
  obtain rfl := hq
  refine mj_aload_n (i := 0) (q := 29) dX5_wouldMake_28 rfl rfl rfl ?_
  refine mj_getr (q := 32) dX5_wouldMake_29 fl_X5_10 rfl rfl (by assumption) (by assumption) ?_
  refine mj_getr (q := 35) dX5_wouldMake_32 fl_X5_65 rfl rfl (by assumption) (by assumption) ?_
  refine mj_iload_n (i := 1) (q := 36) dX5_wouldMake_35 rfl rfl rfl ?_
  refine mj_aaldn (q := 37) dX5_wouldMake_36 rfl (by assumption) ⟨by omega, by omega⟩ (by assumption) ?_
  refine mj_getfv (q := 40) dX5_wouldMake_37 fl_X5_101 rfl rfl (by assumption) (by assumption) ?_
  refine mj_num1 (v := 1) (q := 41) rfl dX5_wouldMake_40 rfl ?_
  refine mj_icmp_ge (tgt := 46) (q := 44) dX5_wouldMake_41 (by decide) rfl (fun c_41 => ?_) (fun c_41 => ?_)
  · refine mj_aload_n (i := 0) (q := 47) dX5_wouldMake_46 rfl rfl rfl ?_
    refine mj_getr (q := 50) dX5_wouldMake_47 fl_X5_25 rfl rfl (by assumption) (by assumption) ?_
    refine mj_iload_n (i := 3) (q := 51) dX5_wouldMake_50 rfl rfl rfl ?_
    refine mj_num1 (v := 0) (q := 52) rfl dX5_wouldMake_51 rfl ?_
    refine mj_num1 (v := 0) (q := 53) rfl dX5_wouldMake_52 rfl ?_
    refine mj_num1 (v := 0) (q := 54) rfl dX5_wouldMake_53 rfl ?_
    refine mj_iload (i := 4) (q := 56) dX5_wouldMake_54 rfl rfl ?_
    refine mj_cV5v (K := m_X4_tell) (q := 59) dX5_wouldMake_56 ln_X5_124 ok_X4_tell (Nat.le_of_ble_eq_true rfl) (by decide) (by assumption) rfl rfl (s_tell kw) (fun h1 hq => ?_)
    obtain ⟨f1, rfl, hW1, hF1⟩ := hq
    have hW2 : WN f1 (m + 141) (wW warmth 0 0 0 humid) := hW1 _ rfl rfl rfl rfl rfl
    have hM1 := hN2.keep hF1 (by omega)
    refine mj_aload_n (i := 0) (q := 60) dX5_wouldMake_59 rfl rfl rfl ?_
    refine mj_getr (q := 63) dX5_wouldMake_60 fl_X5_19 rfl rfl (by assumption) (by assumption) ?_
    refine mj_aload_n (i := 0) (q := 64) dX5_wouldMake_63 rfl rfl rfl ?_
    refine mj_getr (q := 67) dX5_wouldMake_64 fl_X5_10 rfl rfl (by assumption) (by assumption) ?_
    refine mj_cV1v (K := m_X1_become) (q := 70) dX5_wouldMake_67 ln_X5_270 ok_X1_become (Nat.le_of_ble_eq_true rfl) (by decide) (by assumption) rfl rfl (s_become hL2 hLb (by omega) hM1) (fun h1 hq => ?_)
    obtain ⟨f2, rfl, hM2, hF2⟩ := hq
    refine mj_aload_n (i := 0) (q := 71) dX5_wouldMake_70 rfl rfl rfl ?_
    refine mj_getr (q := 74) dX5_wouldMake_71 fl_X5_19 rfl rfl (by assumption) (by assumption) ?_
    refine mj_cV0v (K := m_X1_removeGuns) (q := 77) dX5_wouldMake_74 ln_X5_280 ok_X1_removeGuns (Nat.le_of_ble_eq_true rfl) (by decide) (by assumption) rfl rfl (s_removeGuns hLb hM2) (fun h1 hq => ?_)
    obtain ⟨f3, rfl, hM3, hF3⟩ := hq
    refine mj_aload_n (i := 0) (q := 78) dX5_wouldMake_77 rfl rfl rfl ?_
    refine mj_getr (q := 81) dX5_wouldMake_78 fl_X5_16 rfl rfl (by assumption) (by assumption) ?_
    refine mj_aload_n (i := 0) (q := 82) dX5_wouldMake_81 rfl rfl rfl ?_
    refine mj_getr (q := 85) dX5_wouldMake_82 fl_X5_19 rfl rfl (by assumption) (by assumption) ?_
    refine mj_cV1v (K := m_X1_become) (q := 88) dX5_wouldMake_85 ln_X5_270 ok_X1_become (Nat.le_of_ble_eq_true rfl) (by decide) (by assumption) rfl rfl (s_become hLb hLt (by omega) hM3) (fun h1 hq => ?_)
    obtain ⟨f4, rfl, hM4, hF4⟩ := hq
    have hH : mj_Fr (m + 47) (m + 142) f f4 := (hF1.wide (by omega) (by omega)).tr ((hF2.wide (by omega) (by omega)).tr ((hF3.wide (by omega) (by omega)).tr (hF4.wide (by omega) (by omega))))
    have e6 : f4 (m + 7 + 5 * i) 6 = (rs i).2 6 := by rw [hH (m + 7 + 5 * i) (by omega)]; exact e6_i
    have hR4 := (hM4.2.2.2.2.2.2.1 i hi).put (k0 := 6) (v := (rs i).2 6) (by omega)
    have hM5 := hM4.run hi hR4 (mj_Fr.up mj_Fr.rf (by omega) (by omega)) (by simp [upd])
    refine mj_aload_n (i := 0) (q := 89) dX5_wouldMake_88 rfl rfl rfl ?_
    refine mj_getr (q := 92) dX5_wouldMake_89 fl_X5_16 rfl rfl (by assumption) (by assumption) ?_
    refine mj_getr (q := 95) dX5_wouldMake_92 fl_X5_65 rfl rfl (by assumption) (by assumption) ?_
    refine mj_iload_n (i := 1) (q := 96) dX5_wouldMake_95 rfl rfl rfl ?_
    refine mj_aaldn (q := 97) dX5_wouldMake_96 rfl (by assumption) ⟨by omega, by omega⟩ (by assumption) ?_
    refine mj_aload_n (i := 0) (q := 98) dX5_wouldMake_97 rfl rfl rfl ?_
    refine mj_getr (q := 101) dX5_wouldMake_98 fl_X5_10 rfl rfl (by assumption) (by assumption) ?_
    refine mj_getr (q := 104) dX5_wouldMake_101 fl_X5_65 rfl rfl (by assumption) (by assumption) ?_
    refine mj_iload_n (i := 1) (q := 105) dX5_wouldMake_104 rfl rfl rfl ?_
    refine mj_aaldn (q := 106) dX5_wouldMake_105 rfl (by assumption) ⟨by omega, by omega⟩ (by assumption) ?_
    refine mj_getfv (q := 109) dX5_wouldMake_106 fl_X5_101 rfl rfl (by assumption) (by assumption) ?_
    refine mj_putf (q := 112) dX5_wouldMake_109 fl_X5_101 rfl rfl (by assumption) rfl rfl rfl ?_
    refine mj_num1 (v := nI 0) (q := 113) (by decide) dX5_wouldMake_112 rfl ?_
    refine mj_istore (i := 5) (q := 115) dX5_wouldMake_113 rfl (by decide) rfl ?_
    dsimp only [List.set]
    exact key c_41 hh 0 _ (vTrial (lc, rc, mu, ls, rs) i) (vBare (lc, rc, mu, ls, rs)) (by omega) rfl rfl rfl rfl hM5 ((hM3.keep hF4 (by omega)).keep (lo := m + 47) (hi := m + 94) (mj_Fr.up mj_Fr.rf (by omega) (by omega)) (by omega)) ((((hW2.keep hF2 (by omega)).keep hF3 (by omega)).keep hF4 (by omega)).keep (lo := m + 47) (hi := m + 94) (mj_Fr.up mj_Fr.rf (by omega) (by omega)) (by omega)) rfl rfl (hH.up (by omega) (by omega))
  · refine mj_num1 (v := 0) (q := 45) rfl dX5_wouldMake_44 rfl ?_
    exact mj_ireturn dX5_wouldMake_45 ⟨_, rfl, rfl⟩ ⟨_, rfl, by unfold vMakeWould; exact (if_neg c_41 : (if 1 ≤ (rs i).2 6 then _ else (0 : Int32)) = 0).symm, _, rfl, mj_Fr.rf⟩
set_option maxHeartbeats 4000000 in
set_option maxRecDepth 100000 in
theorem s_digestLayers {d x m i : Nat} {a : Int64} {n : Nat} {K : Nat → mj_K} {f : Nat → Nat → Int32} {g : Nat → Nat → Option Nat} {y : mV} (hP : LPn K g x m) (hN : MN f m y) (hi : i < y.2.1) : mj_Cl m_X5_digestLayers (d + 6) [.ref x, .long a, .int (nI i)] (n, K, f, g) (fun r h1 => h1 = (n, K, f, g) ∧ r = vLaysN y i (y.2.2.2.2 i).1.1 a) := by
  have hP2 := hP
  have hN2 := hN
  obtain ⟨kx, hxm, gx0, gx1, gx2, gx3, hL, hLt, hLb, kw⟩ := hP
  have hL2 := hL
  obtain ⟨km, gm0, gm1, km1, km6, hLl, hLr⟩ := hL
  obtain ⟨lc, rc, mu, ls, rs⟩ := y
  obtain ⟨n1, n2, n3, n4, n5, n6, n7, n8⟩ := hN
  dsimp only at n1 n2 n3 n4 n5 n6 n7 n8
  have hi : i < rc := hi
  have h8 : (rs i).1.1 ≤ 8 := (n7 i hi).1.1
  have inner : ∀ (j w l : Nat) (acc : Int64), w + j = 3 → l < (rs i).1.1 → (mj_W m_X5_digestLayers (d + 6) 0 0 (fun v h1 => ∃ r, v = some (.long r) ∧ h1 = (n, K, f, g) ∧ r = vLaysN (lc, rc, mu, ls, rs) i (rs i).1.1 a) 55 [.ref x, .long a, .null, .int (nI i), .long (vFoldN (vOfLayer (lc, rc, mu, ls, rs) i l) 3 acc), .null, .int (nI (rs i).1.1), .int (nI l), .int (nI 3)] [] (n, K, f, g)) → mj_W m_X5_digestLayers (d + 6) 0 0 (fun v h1 => ∃ r, v = some (.long r) ∧ h1 = (n, K, f, g) ∧ r = vLaysN (lc, rc, mu, ls, rs) i (rs i).1.1 a) 24 [.ref x, .long a, .null, .int (nI i), .long (vFoldN (vOfLayer (lc, rc, mu, ls, rs) i l) w acc), .null, .int (nI (rs i).1.1), .int (nI l), .int (nI w)] [] (n, K, f, g) := by
    intro j
    induction j with
    | zero =>
      intro w l acc hw hl hk
      have hw : w = 3 := by omega
      subst hw
      refine mj_iload (i := 8) (q := 26) dX5_digestLayers_24 rfl rfl ?_
      refine mj_num1 (v := 2) (q := 27) rfl dX5_digestLayers_26 rfl ?_
      refine mj_icmp_gt (tgt := 55) (q := 30) dX5_digestLayers_27 (by decide) rfl (fun c_27 => ?_) (fun c_27 => absurd (by decide : (2 : Int32) < nI 3) c_27)
      exact hk
    | succ j ih =>
      intro w l acc hw hl hk
      refine mj_iload (i := 8) (q := 26) dX5_digestLayers_24 rfl rfl ?_
      refine mj_num1 (v := 2) (q := 27) rfl dX5_digestLayers_26 rfl ?_
      refine mj_icmp_gt (tgt := 55) (q := 30) dX5_digestLayers_27 (by decide) rfl (fun c_27 => absurd c_27 (Int32.not_lt.mpr (nI_le (a := w) (b := 2) (by omega) (by omega)))) (fun c_27 => ?_)
      refine mj_lload (i := 4) (q := 32) dX5_digestLayers_30 rfl rfl ?_
      refine mj_ldc2 (q := 35) dX5_digestLayers_32 ct_X5_292 rfl ?_
      refine mj_lmul (q := 36) dX5_digestLayers_35 rfl ?_
      refine mj_aload_n (i := 0) (q := 37) dX5_digestLayers_36 rfl rfl rfl ?_
      refine mj_iload_n (i := 3) (q := 38) dX5_digestLayers_37 rfl rfl rfl ?_
      refine mj_iload (i := 7) (q := 40) dX5_digestLayers_38 rfl rfl ?_
      refine mj_iload (i := 8) (q := 42) dX5_digestLayers_40 rfl rfl ?_
      refine mj_cV3i (K := m_X5_ofLayer) (q := 45) dX5_digestLayers_42 ln_X5_320 ok_X5_ofLayer (Nat.le_of_ble_eq_true rfl) (by decide) (by assumption) rfl rfl (s_ofLayer hP2 hN2 hi hl (by omega)) (fun r_42 h1 hq => ?_)
      obtain ⟨rfl, rfl⟩ := hq
      refine mj_i2l (q := 46) dX5_digestLayers_45 rfl ?_
      refine mj_ladd (q := 47) dX5_digestLayers_46 rfl ?_
      refine mj_lstore (i := 4) (q := 49) dX5_digestLayers_47 rfl (by decide) rfl ?_
      dsimp only [List.set]
      refine mj_iinc (i := 8) (q := 52) dX5_digestLayers_49 rfl rfl (by decide) rfl ?_
      dsimp only [List.set]
      refine mj_goto (q := 24) dX5_digestLayers_52 (by decide) ?_
      rw [show nI w + Int32.ofInt 1 = nI (w + 1) from nI_1 w]
      exact ih (w + 1) l acc (by omega) hl hk
  have outer : ∀ (j l : Nat) (v8 : Value), l + j = (rs i).1.1 → mj_W m_X5_digestLayers (d + 6) 0 0 (fun v h1 => ∃ r, v = some (.long r) ∧ h1 = (n, K, f, g) ∧ r = vLaysN (lc, rc, mu, ls, rs) i (rs i).1.1 a) 14 [.ref x, .long a, .null, .int (nI i), .long (vLaysN (lc, rc, mu, ls, rs) i l a), .null, .int (nI (rs i).1.1), .int (nI l), v8] [] (n, K, f, g) := by
    intro j
    induction j with
    | zero =>
      intro l v8 hl
      have hl : l = (rs i).1.1 := by omega
      subst hl
      refine mj_iload (i := 7) (q := 16) dX5_digestLayers_14 rfl rfl ?_
      refine mj_iload (i := 6) (q := 18) dX5_digestLayers_16 rfl rfl ?_
      refine mj_icmp_ge (tgt := 61) (q := 21) dX5_digestLayers_18 (by decide) rfl (fun c_18 => ?_) (fun c_18 => absurd (Int32.le_refl _) c_18)
      refine mj_lload (i := 4) (q := 63) dX5_digestLayers_61 rfl rfl ?_
      exact mj_lreturn dX5_digestLayers_63 rfl ⟨_, rfl, rfl, rfl⟩
    | succ j ih =>
      intro l v8 hl
      refine mj_iload (i := 7) (q := 16) dX5_digestLayers_14 rfl rfl ?_
      refine mj_iload (i := 6) (q := 18) dX5_digestLayers_16 rfl rfl ?_
      refine mj_icmp_ge (tgt := 61) (q := 21) dX5_digestLayers_18 (by decide) rfl (fun c_18 => absurd c_18 (nI_ge (a := l) (b := (rs i).1.1) (by omega) (by omega))) (fun c_18 => ?_)
      refine mj_num1 (v := nI 0) (q := 22) (by decide) dX5_digestLayers_21 rfl ?_
      refine mj_istore (i := 8) (q := 24) dX5_digestLayers_22 rfl (by decide) rfl ?_
      dsimp only [List.set]
      refine inner 3 0 l (vLaysN (lc, rc, mu, ls, rs) i l a) (by omega) (by omega) ?_
      refine mj_iinc (i := 7) (q := 58) dX5_digestLayers_55 rfl rfl (by decide) rfl ?_
      dsimp only [List.set]
      refine mj_goto (q := 14) dX5_digestLayers_58 (by decide) ?_
      rw [show nI l + Int32.ofInt 1 = nI (l + 1) from nI_1 l]
      exact ih (l + 1) _ (by omega)
  refine mj_entry (by refine ⟨by decide +kernel, by decide, rfl, Nat.le_of_ble_eq_true rfl⟩) ?_
  show mj_W _ _ _ _ _ 0 [.ref x, .long a, .null, .int (nI i), .null, .null, .null, .null, .null] [] _
  refine mj_lload_n (i := 1) (q := 1) dX5_digestLayers_0 rfl rfl rfl ?_
  refine mj_lstore (i := 4) (q := 3) dX5_digestLayers_1 rfl (by decide) rfl ?_
  dsimp only [List.set]
  refine mj_aload_n (i := 0) (q := 4) dX5_digestLayers_3 rfl rfl rfl ?_
  refine mj_iload_n (i := 3) (q := 5) dX5_digestLayers_4 rfl rfl rfl ?_
  refine mj_num1 (v := nI 1) (q := 6) (by decide) dX5_digestLayers_5 rfl ?_
  refine mj_cV2i (K := m_X5_ofRun) (q := 9) dX5_digestLayers_6 ln_X5_297 ok_X5_ofRun (Nat.le_of_ble_eq_true rfl) (by decide) (by assumption) rfl rfl (s_ofRun hP2 hN2 hi (w := 1) (by decide)) (fun r_6 h1 hq => ?_)
  obtain ⟨rfl, rfl⟩ := hq
  refine mj_istore (i := 6) (q := 11) dX5_digestLayers_9 rfl (by decide) rfl ?_
  dsimp only [List.set]
  refine mj_num1 (v := nI 0) (q := 12) (by decide) dX5_digestLayers_11 rfl ?_
  refine mj_istore (i := 7) (q := 14) dX5_digestLayers_12 rfl (by decide) rfl ?_
  dsimp only [List.set]
  exact outer (rs i).1.1 0 _ (by omega)
