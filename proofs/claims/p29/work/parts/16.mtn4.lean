/-! THE MOUNTAIN, fourth part: an hour, and become -/
set_option maxHeartbeats 4000000 in
set_option maxRecDepth 100000 in
theorem s_passHour {d m wt z : Nat} {W : Nat → Int32} {n : Nat} {K : Nat → mj_K} {f : Nat → Nat → Int32} {g : Nat → Nat → Option Nat} {y : mV} (hL : LMn K g m) (hN : MN f m y) (kw : K wt = (2, 4, z)) (hW : WN f wt W) (hap : wt < m ∨ m + 47 ≤ wt) : mj_Cv m_X1_passHour (d + 5) [.ref m, .ref wt] (n, K, f, g) (fun h1 => ∃ f1, h1 = (n, K, f1, g) ∧ MN f1 m (vHour W y) ∧ mj_Fr m (m + 47) f f1) := by
  have hL2 := hL
  have hN2 := hN
  obtain ⟨km, gm0, gm1, km1, km6, hLl, hLr⟩ := hL
  obtain ⟨lc, rc, mu, ls, rs⟩ := y
  obtain ⟨n1, n2, n3, n4, n5, n6, n7, n8⟩ := hN
  dsimp only at n1 n2 n3 n4 n5 n6 n7 n8
  have u4 : f m 4 = mu 4 := n5 4 (by omega) (by omega)
  have w2 : f wt 2 = W 2 := hW 2 (by omega)
  obtain ⟨mu0, emu0⟩ : ∃ z, z = (upd (upd mu 4 (mu 4 + 1)) 5 (W 2)) := ⟨_, rfl⟩
  have key127 : ∀ (f1 : Nat → Nat → Int32) (m1 : Nat → Int32) (r1 : Nat → rV) (v2 v3 v4 : Value), vHourN W mu0 rs rc = (m1, r1) → MN f1 m (lc, rc, m1, ls, r1) → mj_Fr m (m + 47) f f1 → mj_W m_X1_passHour (d + 5) 0 0 (fun v h1 => v = none ∧ ∃ f1, h1 = (n, K, f1, g) ∧ MN f1 m (vHour W (lc, rc, mu, ls, rs)) ∧ mj_Fr m (m + 47) f f1) 127 [.ref m, .ref wt, v2, v3, v4] [] (n, K, f1, g) := by
    intro f1 m1 r1 v2 v3 v4 hh hM hF
    have a2 : f1 wt 2 = W 2 := by rw [hF wt (by omega)]; exact w2
    have ev : vHour W (lc, rc, mu, ls, rs) = if 9 ≤ m1 4 % 24 ∧ m1 4 % 24 ≤ 16 then (lc, rc, (vCarryS (vCarryN rc m1 (vHoldN (W 2) ls lc) r1 (m1 9) lc)).1, (vCarryS (vCarryN rc m1 (vHoldN (W 2) ls lc) r1 (m1 9) lc)).2.1, (vCarryS (vCarryN rc m1 (vHoldN (W 2) ls lc) r1 (m1 9) lc)).2.2) else (lc, rc, m1, vHoldN (W 2) ls lc, r1) := by
      unfold vHour
      dsimp only
      rw [← emu0, hh]
    refine mj_aload_n (i := 0) (q := 128) dX1_passHour_127 rfl rfl rfl ?_
    refine mj_aload_n (i := 1) (q := 129) dX1_passHour_128 rfl rfl rfl ?_
    refine mj_getfv (q := 132) dX1_passHour_129 fl_X1_150 rfl rfl (by assumption) (by assumption) ?_
    refine mj_cV1v (K := m_X1_holdLifts) (q := 135) dX1_passHour_132 ln_X1_182 ok_X1_holdLifts (Nat.le_of_ble_eq_true rfl) (by decide) (by assumption) rfl rfl (s_holdLifts hL2 hM) (fun h1 hq => ?_)
    obtain ⟨f2, rfl, hM2, hF2⟩ := hq
    refine mj_aload_n (i := 0) (q := 136) dX1_passHour_135 rfl rfl rfl ?_
    refine mj_cV0i (K := m_X1_clock) (q := 139) dX1_passHour_136 ln_X1_161 ok_X1_clock (Nat.le_of_ble_eq_true rfl) (by decide) (by assumption) rfl rfl (s_clock hL2 hM2) (fun r_136 h1 hq => ?_)
    obtain ⟨rfl, rfl⟩ := hq
    refine mj_num2 (v := 9) (q := 141) (by decide) dX1_passHour_139 rfl ?_
    refine mj_icmp_lt (tgt := 157) (q := 144) dX1_passHour_141 (by decide) rfl (fun c_141 => ?_) (fun c_141 => ?_)
    · refine mj_return dX1_passHour_157 rfl ⟨rfl, _, rfl, ?_, hF.tr hF2⟩
      rw [ev, if_neg (fun z => absurd c_141 (Int32.not_lt.mpr z.1))]
      exact hM2
    · refine mj_aload_n (i := 0) (q := 145) dX1_passHour_144 rfl rfl rfl ?_
      refine mj_cV0i (K := m_X1_clock) (q := 148) dX1_passHour_145 ln_X1_161 ok_X1_clock (Nat.le_of_ble_eq_true rfl) (by decide) (by assumption) rfl rfl (s_clock hL2 hM2) (fun r_145 h1 hq => ?_)
      obtain ⟨rfl, rfl⟩ := hq
      refine mj_num2 (v := 16) (q := 150) (by decide) dX1_passHour_148 rfl ?_
      refine mj_icmp_gt (tgt := 157) (q := 153) dX1_passHour_150 (by decide) rfl (fun c_150 => ?_) (fun c_150 => ?_)
      · refine mj_return dX1_passHour_157 rfl ⟨rfl, _, rfl, ?_, hF.tr hF2⟩
        rw [ev, if_neg (fun z => absurd c_150 (Int32.not_lt.mpr z.2))]
        exact hM2
      · refine mj_aload_n (i := 0) (q := 154) dX1_passHour_153 rfl rfl rfl ?_
        refine mj_cV0v (K := m_X1_carrySkiers) (q := 157) dX1_passHour_154 ln_X1_185 ok_X1_carrySkiers (Nat.le_of_ble_eq_true rfl) (by decide) (by assumption) rfl rfl (s_carrySkiers hL2 hM2) (fun h1 hq => ?_)
        obtain ⟨f3, rfl, hM3, hF3⟩ := hq
        refine mj_return dX1_passHour_157 rfl ⟨rfl, _, rfl, ?_, (hF.tr hF2).tr hF3⟩
        rw [ev, if_pos ⟨Int32.not_lt.mp c_141, Int32.not_lt.mp c_150⟩]
        exact hM3
  have key : ∀ (j i : Nat) (f1 : Nat → Nat → Int32) (m1 : Nat → Int32) (r1 : Nat → rV) (v3 v4 : Value), i + j = rc → vHourN W mu0 rs i = (m1, r1) → MN f1 m (lc, rc, m1, ls, r1) → mj_Fr m (m + 47) f f1 → mj_W m_X1_passHour (d + 5) 0 0 (fun v h1 => v = none ∧ ∃ f1, h1 = (n, K, f1, g) ∧ MN f1 m (vHour W (lc, rc, mu, ls, rs)) ∧ mj_Fr m (m + 47) f f1) 20 [.ref m, .ref wt, .int (nI i), v3, v4] [] (n, K, f1, g) := by
    intro j
    induction j with
    | zero =>
      intro i f1 m1 r1 v3 v4 hi hh hM hF
      have hi : i = rc := by omega
      subst hi
      have o4 : f1 m 3 = nI i := hM.2.2.2.1
      refine mj_iload_n (i := 2) (q := 21) dX1_passHour_20 rfl rfl rfl ?_
      refine mj_aload_n (i := 0) (q := 22) dX1_passHour_21 rfl rfl rfl ?_
      refine mj_getfv (q := 25) dX1_passHour_22 fl_X1_42 rfl rfl (by assumption) (by assumption) ?_
      refine mj_icmp_ge (tgt := 127) (q := 28) dX1_passHour_25 (by decide) rfl (fun c_25 => ?_) (fun c_25 => absurd (Int32.le_refl _) c_25)
      exact key127 f1 m1 r1 _ _ _ hh hM hF
    | succ j ih =>
      intro i f1 m1 r1 v3 v4 hi hh hM hF
      have hi2 : i < rc := by omega
      have o4 : f1 m 3 = nI rc := hM.2.2.2.1
      have ev : r1 i = rs i := by have := vHourN_ge (W := W) (mu := mu0) (rs := rs) (Nat.le_refl i); rw [hh] at this; exact this
      have o7 : ∀ k, k < rc → RN f1 (m + 7 + 5 * k) (r1 k) := hM.2.2.2.2.2.2.1
      have hg_i : g (m + 6) i = some (m + 7 + 5 * i) := (hLr i (by omega)).1
      have hL_i := (hLr i (by omega)).2
      have kr_i : K (m + 7 + 5 * i) = (2, 2, 0) := hL_i.1
      have gr_i : g (m + 7 + 5 * i) 0 = some ((m + 7 + 5 * i) + 1) := hL_i.2.1
      have ks_i : K ((m + 7 + 5 * i) + 1) = (2, 3, 0) := hL_i.2.2.1
      have hR_i := o7 i (by omega)
      rw [ev] at hR_i
      have hW1 : WN f1 wt W := hW.keep hF (by omega)
      have w0 : f1 wt 0 = W 0 := hW1 0 (by omega)
      have e2 : f1 (m + 7 + 5 * i) 2 = (rs i).2 2 := hR_i.2.1 2 (by omega) (by omega)
      obtain ⟨x1, ex1⟩ : ∃ z : rV, z = (vWeather W ((rs i).2 4) (W 0 - (rs i).2 2 / 2) (m1 4 % 24) (rs i).1, (rs i).2) := ⟨_, rfl⟩
      obtain ⟨G, eG⟩ : ∃ z, z = vMakeG ((W 0 - (rs i).2 2 / 2) - (100 - W 4) / 10) ((rs i).2 6) (m1 6) ((rs i).2 7) := ⟨_, rfl⟩
      obtain ⟨x2, ex2⟩ : ∃ z, z = vMakeRun G.2 x1 := ⟨_, rfl⟩
      obtain ⟨risk, erisk⟩ : ∃ z, z = vRisk (x2.2 3) x2.1 := ⟨_, rfl⟩
      have hrun : vHourRun W m1 (rs i) = if risk < 100 then (upd m1 6 G.1, (x2.1, upd x2.2 14 risk)) else (vSlideMu (upd (upd m1 6 G.1) 12 ((upd m1 6 G.1) 12 + v01 ((upd x2.2 14 risk) 15))) (vSlideSize (x2.1, upd (upd x2.2 14 risk) 15 0)), vSlideRun (x2.1, upd (upd x2.2 14 risk) 15 0)) := by rw [erisk, ex2, eG, ex1]; rfl
      have hstep : vHourN W mu0 rs (i + 1) = ((vHourRun W m1 (rs i)).1, mj_row r1 i (vHourRun W m1 (rs i)).2) := by show ((vHourRun W (vHourN W mu0 rs i).1 (rs i)).1, mj_row (vHourN W mu0 rs i).2 i (vHourRun W (vHourN W mu0 rs i).1 (rs i)).2) = _; rw [hh]
      refine mj_iload_n (i := 2) (q := 21) dX1_passHour_20 rfl rfl rfl ?_
      refine mj_aload_n (i := 0) (q := 22) dX1_passHour_21 rfl rfl rfl ?_
      refine mj_getfv (q := 25) dX1_passHour_22 fl_X1_42 rfl rfl (by assumption) (by assumption) ?_
      refine mj_icmp_ge (tgt := 127) (q := 28) dX1_passHour_25 (by decide) rfl (fun c_25 => absurd c_25 (nI_ge (a := i) (b := rc) (by omega) (by omega))) (fun c_25 => ?_)
      refine mj_aload_n (i := 0) (q := 29) dX1_passHour_28 rfl rfl rfl ?_
      refine mj_getr (q := 32) dX1_passHour_29 fl_X1_20 rfl rfl (by assumption) (by assumption) ?_
      refine mj_iload_n (i := 2) (q := 33) dX1_passHour_32 rfl rfl rfl ?_
      refine mj_aaldn (q := 34) dX1_passHour_33 rfl (by assumption) ⟨by omega, by omega⟩ (by assumption) ?_
      refine mj_astore_n (i := 3) (q := 35) dX1_passHour_34 rfl rfl (by decide) rfl ?_
      dsimp only [List.set]
      refine mj_aload_n (i := 1) (q := 36) dX1_passHour_35 rfl rfl rfl ?_
      refine mj_getfv (q := 39) dX1_passHour_36 fl_X1_155 rfl rfl (by assumption) (by assumption) ?_
      refine mj_aload_n (i := 3) (q := 40) dX1_passHour_39 rfl rfl rfl ?_
      refine mj_getfv (q := 43) dX1_passHour_40 fl_X1_158 rfl rfl (by assumption) (by assumption) ?_
      refine mj_num1 (v := 2) (q := 44) rfl dX1_passHour_43 rfl ?_
      refine mj_idiv (q := 45) (by decide) dX1_passHour_44 rfl ?_
      refine mj_isub (q := 46) dX1_passHour_45 rfl ?_
      refine mj_istore (i := 4) (q := 48) dX1_passHour_46 rfl (by decide) rfl ?_
      dsimp only [List.set]
      refine mj_aload_n (i := 3) (q := 49) dX1_passHour_48 rfl rfl rfl ?_
      refine mj_aload_n (i := 1) (q := 50) dX1_passHour_49 rfl rfl rfl ?_
      refine mj_iload (i := 4) (q := 52) dX1_passHour_50 rfl rfl ?_
      refine mj_aload_n (i := 0) (q := 53) dX1_passHour_52 rfl rfl rfl ?_
      refine mj_cV0i (K := m_X1_clock) (q := 56) dX1_passHour_53 ln_X1_161 ok_X1_clock (Nat.le_of_ble_eq_true rfl) (by decide) (by assumption) rfl rfl (s_clock hL2 hM) (fun r_53 h1 hq => ?_)
      obtain ⟨rfl, rfl⟩ := hq
      refine mj_cV3v (K := m_X2_weatherSnow) (q := 59) dX1_passHour_56 ln_X1_164 ok_X2_weatherSnow (Nat.le_of_ble_eq_true rfl) (by decide) (by assumption) rfl rfl (s_weatherSnow hL_i hR_i kw hW1 (by omega)) (fun h1 hq => ?_)
      obtain ⟨f2, rfl, hS2, hF2⟩ := hq
      have hR2 := hR_i.snow hS2 hF2
      have hM2 := hM.run hi2 hR2 (hF2.wide (by omega) (by omega)) (by rw [ev])
      dsimp only at hM2
      rw [← ex1] at hM2
      have hFa := hF.tr (hF2.wide (lo2 := m) (hi2 := m + 47) (by omega) (by omega))
      have w4 : f2 wt 4 = W 4 := by rw [hFa wt (by omega)]; exact hW 4 (by omega)
      refine mj_aload_n (i := 0) (q := 60) dX1_passHour_59 rfl rfl rfl ?_
      refine mj_aload_n (i := 3) (q := 61) dX1_passHour_60 rfl rfl rfl ?_
      refine mj_iload (i := 4) (q := 63) dX1_passHour_61 rfl rfl ?_
      refine mj_num2 (v := 100) (q := 65) (by decide) dX1_passHour_63 rfl ?_
      refine mj_aload_n (i := 1) (q := 66) dX1_passHour_65 rfl rfl rfl ?_
      refine mj_getfv (q := 69) dX1_passHour_66 fl_X1_168 rfl rfl (by assumption) (by assumption) ?_
      refine mj_isub (q := 70) dX1_passHour_69 rfl ?_
      refine mj_num2 (v := 10) (q := 72) (by decide) dX1_passHour_70 rfl ?_
      refine mj_idiv (q := 73) (by decide) dX1_passHour_72 rfl ?_
      refine mj_isub (q := 74) dX1_passHour_73 rfl ?_
      refine mj_cV2v (K := m_X1_makeSnow) (q := 77) dX1_passHour_74 ln_X1_171 ok_X1_makeSnow (Nat.le_of_ble_eq_true rfl) (by decide) (by assumption) rfl rfl (s_makeSnow hL2 hM2 hi2) (fun h1 hq => ?_)
      obtain ⟨f3, rfl, hM3, hF3⟩ := hq
      dsimp only at hM3
      rw [mj_rowe, mj_row_row, show x1.2 6 = (rs i).2 6 from by rw [ex1], show x1.2 7 = (rs i).2 7 from by rw [ex1], ← eG, ← ex2] at hM3
      have hFb := hFa.tr hF3
      have hR3 : RN f3 (m + 7 + 5 * i) (mj_row r1 i x2 i) := hM3.2.2.2.2.2.2.1 i hi2
      rw [mj_rowe] at hR3
      have hR4 := hR3.put (k0 := 14) (v := risk) (by omega)
      have hl1 : x2.2 1 = (r1 i).2 1 := by rw [ex2, ex1, ev]; rfl
      have hM4 := hM3.run hi2 hR4 (mj_Fr.up mj_Fr.rf (by omega) (by omega)) (by rw [mj_rowe]; simp [upd])
      rw [mj_row_row] at hM4
      have hFc : mj_Fr m (m + 47) f (mj_up f3 (m + 7 + 5 * i) 14 risk) := mj_Fr.up hFb (by omega) (by omega)
      have q14 : mj_up f3 (m + 7 + 5 * i) 14 risk (m + 7 + 5 * i) 14 = risk := mj_upe
      have q12 : mj_up f3 (m + 7 + 5 * i) 14 risk m 12 = upd m1 6 G.1 12 := hM4.2.2.2.2.1 12 (by omega) (by omega)
      have q15 : mj_up f3 (m + 7 + 5 * i) 14 risk (m + 7 + 5 * i) 15 = upd x2.2 14 risk 15 := hR4.2.1 15 (by omega) (by omega)
      refine mj_aload_n (i := 3) (q := 78) dX1_passHour_77 rfl rfl rfl ?_
      refine mj_aload_n (i := 3) (q := 79) dX1_passHour_78 rfl rfl rfl ?_
      refine mj_cV0i (K := m_X2_risk) (q := 82) dX1_passHour_79 ln_X1_105 ok_X2_risk (Nat.le_of_ble_eq_true rfl) (by decide) (by assumption) rfl rfl (s_runRisk hL_i hR3) (fun r_79 h1 hq => ?_)
      obtain ⟨rfl, rfl⟩ := hq
      rw [← erisk]
      refine mj_putf (q := 85) dX1_passHour_82 fl_X1_175 rfl rfl (by assumption) rfl rfl rfl ?_
      refine mj_aload_n (i := 3) (q := 86) dX1_passHour_85 rfl rfl rfl ?_
      refine mj_getfv (q := 89) dX1_passHour_86 fl_X1_175 rfl rfl (by assumption) (by assumption) ?_
      refine mj_num2 (v := 100) (q := 91) (by decide) dX1_passHour_89 rfl ?_
      refine mj_icmp_lt (tgt := 121) (q := 94) dX1_passHour_91 (by decide) rfl (fun c_91 => ?_) (fun c_91 => ?_)
      · refine mj_iinc (i := 2) (q := 124) dX1_passHour_121 rfl rfl (by decide) rfl ?_
        dsimp only [List.set]
        refine mj_goto (q := 20) dX1_passHour_124 (by decide) ?_
        rw [show nI i + Int32.ofInt 1 = nI (i + 1) from nI_1 i]
        rw [if_pos c_91] at hrun
        exact ih (i + 1) _ _ _ _ _ (by omega) (by rw [hstep, hrun]) hM4 hFc
      · refine mj_aload_n (i := 0) (q := 95) dX1_passHour_94 rfl rfl rfl ?_
        refine mj_dup (q := 96) rfl dX1_passHour_95 rfl ?_
        refine mj_getfv (q := 99) dX1_passHour_96 fl_X1_63 rfl rfl (by assumption) (by assumption) ?_
        refine mj_aload_n (i := 3) (q := 100) dX1_passHour_99 rfl rfl rfl ?_
        refine mj_getfv (q := 103) dX1_passHour_100 fl_X1_78 rfl rfl (by assumption) (by assumption) ?_
        refine mj_cSN1i (K := m_X5_oneIf) (q := 106) dX1_passHour_103 (fun _ z => z.2.2.1) ok_X5_oneIf (Nat.le_of_ble_eq_true rfl) (by decide) rfl (s_oneIf) (fun r_103 h1 hq => ?_)
        obtain ⟨rfl, rfl⟩ := hq
        refine mj_iadd (q := 107) dX1_passHour_106 rfl ?_
        refine mj_putf (q := 110) dX1_passHour_107 fl_X1_63 rfl rfl (by assumption) rfl rfl rfl ?_
        have hM5 := hM4.put (k0 := 12) (v := upd m1 6 G.1 12 + v01 (upd x2.2 14 risk 15)) (by omega)
        refine mj_aload_n (i := 3) (q := 111) dX1_passHour_110 rfl rfl rfl ?_
        refine mj_num1 (v := 0) (q := 112) rfl dX1_passHour_111 rfl ?_
        refine mj_putf (q := 115) dX1_passHour_112 fl_X1_78 rfl rfl (by assumption) rfl rfl rfl ?_
        have hR5 : RN (mj_up (mj_up f3 (m + 7 + 5 * i) 14 risk) m 12 (upd m1 6 G.1 12 + v01 (upd x2.2 14 risk 15))) (m + 7 + 5 * i) (x2.1, upd x2.2 14 risk) := hR4.keep (lo := m) (hi := m + 1) (mj_Fr.up mj_Fr.rf (by omega) (by omega)) (by omega)
        have hR6 := hR5.put (k0 := 15) (v := 0) (Or.inr (Or.inl rfl))
        have hM6 := hM5.run hi2 hR6 (mj_Fr.up mj_Fr.rf (by omega) (by omega)) (by rw [mj_rowe]; simp [upd])
        rw [mj_row_row] at hM6
        have hFd := mj_Fr.up (a := (m + 7 + 5 * i)) (k := 15) (v := 0) (mj_Fr.up (a := m) (k := 12) (v := upd m1 6 G.1 12 + v01 (upd x2.2 14 risk 15)) hFc (by omega) (by omega)) (by omega) (by omega)
        refine mj_aload_n (i := 0) (q := 116) dX1_passHour_115 rfl rfl rfl ?_
        refine mj_aload_n (i := 3) (q := 117) dX1_passHour_116 rfl rfl rfl ?_
        refine mj_cV1i (K := m_X1_slideOn) (q := 120) dX1_passHour_117 ln_X1_178 ok_X1_slideOn (Nat.le_of_ble_eq_true rfl) (by decide) (by assumption) rfl rfl (s_slideOn hL2 hM6 hi2) (fun r_117 h1 hq => ?_)
        obtain ⟨f7, rfl, hM7, hF7, -⟩ := hq
        dsimp only at hM7
        rw [mj_rowe, mj_row_row] at hM7
        refine mj_pop (q := 121) rfl dX1_passHour_120 rfl ?_
        refine mj_iinc (i := 2) (q := 124) dX1_passHour_121 rfl rfl (by decide) rfl ?_
        dsimp only [List.set]
        refine mj_goto (q := 20) dX1_passHour_124 (by decide) ?_
        rw [show nI i + Int32.ofInt 1 = nI (i + 1) from nI_1 i]
        rw [if_neg c_91] at hrun
        exact ih (i + 1) _ _ _ _ _ (by omega) (by rw [hstep, hrun]) hM7 (hFd.tr hF7)
  have hM0 := (hN2.put (k0 := 4) (v := mu 4 + 1) (by omega)).put (k0 := 5) (v := W 2) (by omega)
  rw [← emu0] at hM0
  refine mj_entry (by refine ⟨by decide +kernel, by decide, rfl, Nat.le_of_ble_eq_true rfl⟩) ?_
  show mj_W _ _ _ _ _ 0 [.ref m, .ref wt, .null, .null, .null] [] _
  refine mj_aload_n (i := 0) (q := 1) dX1_passHour_0 rfl rfl rfl ?_
  refine mj_dup (q := 2) rfl dX1_passHour_1 rfl ?_
  refine mj_getfv (q := 5) dX1_passHour_2 fl_X1_48 rfl rfl (by assumption) (by assumption) ?_
  refine mj_num1 (v := 1) (q := 6) rfl dX1_passHour_5 rfl ?_
  refine mj_iadd (q := 7) dX1_passHour_6 rfl ?_
  refine mj_putf (q := 10) dX1_passHour_7 fl_X1_48 rfl rfl (by assumption) rfl rfl rfl ?_
  refine mj_aload_n (i := 0) (q := 11) dX1_passHour_10 rfl rfl rfl ?_
  refine mj_aload_n (i := 1) (q := 12) dX1_passHour_11 rfl rfl rfl ?_
  refine mj_getf (q := 15) dX1_passHour_12 fl_X1_150 rfl rfl (by assumption) ?_
  refine mj_top (y := W 2) (by rw [mj_upn (by omega)]; exact w2) ?_
  refine mj_putf (q := 18) dX1_passHour_15 fl_X1_51 rfl rfl (by assumption) rfl rfl rfl ?_
  refine mj_num1 (v := nI 0) (q := 19) (by decide) dX1_passHour_18 rfl ?_
  refine mj_istore_n (i := 2) (q := 20) dX1_passHour_19 rfl rfl (by decide) rfl ?_
  dsimp only [List.set]
  exact key rc 0 _ mu0 rs _ _ (by omega) rfl hM0 (mj_Fr.up (mj_Fr.up mj_Fr.rf (by omega) (by omega)) (by omega) (by omega))
set_option maxHeartbeats 4000000 in
set_option maxRecDepth 100000 in
theorem s_become {d m p : Nat} {n : Nat} {K : Nat → mj_K} {f : Nat → Nat → Int32} {g : Nat → Nat → Option Nat} {y : mV} (hL : LMn K g m) (hP : LMn K g p) (hap : m + 47 ≤ p ∨ p + 47 ≤ m) (hN : MN f m y) : mj_Cv m_X1_become (d + 3) [.ref p, .ref m] (n, K, f, g) (fun h1 => ∃ f1, h1 = (n, K, f1, g) ∧ MN f1 p y ∧ mj_Fr p (p + 47) f f1) := by
  have hL2 := hL
  have hN2 := hN
  obtain ⟨km, gm0, gm1, km1, km6, hLl, hLr⟩ := hL
  obtain ⟨kp, gp0, gp1, kp1, kp6, pLl, pLr⟩ := hP
  obtain ⟨lc, rc, mu, ls, rs⟩ := y
  obtain ⟨n1, n2, n3, n4, n5, n6, n7, n8⟩ := hN
  dsimp only at n1 n2 n3 n4 n5 n6 n7 n8
  have key78 : ∀ (f1 : Nat → Nat → Int32) (v2 : Value), f1 p 2 = nI lc → f1 p 3 = nI rc → (∀ i, i < lc → LN f1 (p + 2 + i) (ls i)) → (∀ i, i < rc → RN f1 (p + 7 + 5 * i) (rs i)) → mj_Fr p (p + 47) f f1 → mj_W m_X1_become (d + 3) 0 0 (fun v h1 => v = none ∧ ∃ f1, h1 = (n, K, f1, g) ∧ MN f1 p (lc, rc, mu, ls, rs) ∧ mj_Fr p (p + 47) f f1) 78 [.ref p, .ref m, v2] [] (n, K, f1, g) := by
    intro f1 v2 h2 h3 hl hr hF
    have hne : ¬ m = p := by omega
    have s4 : f1 m 4 = mu 4 := by rw [hF m (by omega)]; exact n5 4 (by omega) (by omega)
    have s5 : f1 m 5 = mu 5 := by rw [hF m (by omega)]; exact n5 5 (by omega) (by omega)
    have s6 : f1 m 6 = mu 6 := by rw [hF m (by omega)]; exact n5 6 (by omega) (by omega)
    have s7 : f1 m 7 = mu 7 := by rw [hF m (by omega)]; exact n5 7 (by omega) (by omega)
    have s8 : f1 m 8 = mu 8 := by rw [hF m (by omega)]; exact n5 8 (by omega) (by omega)
    have s9 : f1 m 9 = mu 9 := by rw [hF m (by omega)]; exact n5 9 (by omega) (by omega)
    have s10 : f1 m 10 = mu 10 := by rw [hF m (by omega)]; exact n5 10 (by omega) (by omega)
    have s11 : f1 m 11 = mu 11 := by rw [hF m (by omega)]; exact n5 11 (by omega) (by omega)
    have s12 : f1 m 12 = mu 12 := by rw [hF m (by omega)]; exact n5 12 (by omega) (by omega)
    have s13 : f1 m 13 = mu 13 := by rw [hF m (by omega)]; exact n5 13 (by omega) (by omega)
    have s14 : f1 m 14 = mu 14 := by rw [hF m (by omega)]; exact n5 14 (by omega) (by omega)
    have s15 : f1 m 15 = mu 15 := by rw [hF m (by omega)]; exact n5 15 (by omega) (by omega)
    refine mj_aload_n (i := 0) (q := 79) dX1_become_78 rfl rfl rfl ?_
    refine mj_aload_n (i := 1) (q := 80) dX1_become_79 rfl rfl rfl ?_
    refine mj_getf (q := 83) dX1_become_80 fl_X1_48 rfl rfl (by assumption) ?_
    refine mj_putf (q := 86) dX1_become_83 fl_X1_48 rfl rfl (by assumption) rfl rfl rfl ?_
    refine mj_aload_n (i := 0) (q := 87) dX1_become_86 rfl rfl rfl ?_
    refine mj_aload_n (i := 1) (q := 88) dX1_become_87 rfl rfl rfl ?_
    refine mj_getf (q := 91) dX1_become_88 fl_X1_51 rfl rfl (by assumption) ?_
    refine mj_putf (q := 94) dX1_become_91 fl_X1_51 rfl rfl (by assumption) rfl rfl rfl ?_
    refine mj_aload_n (i := 0) (q := 95) dX1_become_94 rfl rfl rfl ?_
    refine mj_aload_n (i := 1) (q := 96) dX1_become_95 rfl rfl rfl ?_
    refine mj_getf (q := 99) dX1_become_96 fl_X1_25 rfl rfl (by assumption) ?_
    refine mj_putf (q := 102) dX1_become_99 fl_X1_25 rfl rfl (by assumption) rfl rfl rfl ?_
    refine mj_aload_n (i := 0) (q := 103) dX1_become_102 rfl rfl rfl ?_
    refine mj_aload_n (i := 1) (q := 104) dX1_become_103 rfl rfl rfl ?_
    refine mj_getf (q := 107) dX1_become_104 fl_X1_29 rfl rfl (by assumption) ?_
    refine mj_putf (q := 110) dX1_become_107 fl_X1_29 rfl rfl (by assumption) rfl rfl rfl ?_
    refine mj_aload_n (i := 0) (q := 111) dX1_become_110 rfl rfl rfl ?_
    refine mj_aload_n (i := 1) (q := 112) dX1_become_111 rfl rfl rfl ?_
    refine mj_getf (q := 115) dX1_become_112 fl_X1_32 rfl rfl (by assumption) ?_
    refine mj_putf (q := 118) dX1_become_115 fl_X1_32 rfl rfl (by assumption) rfl rfl rfl ?_
    refine mj_aload_n (i := 0) (q := 119) dX1_become_118 rfl rfl rfl ?_
    refine mj_aload_n (i := 1) (q := 120) dX1_become_119 rfl rfl rfl ?_
    refine mj_getf (q := 123) dX1_become_120 fl_X1_54 rfl rfl (by assumption) ?_
    refine mj_putf (q := 126) dX1_become_123 fl_X1_54 rfl rfl (by assumption) rfl rfl rfl ?_
    refine mj_aload_n (i := 0) (q := 127) dX1_become_126 rfl rfl rfl ?_
    refine mj_aload_n (i := 1) (q := 128) dX1_become_127 rfl rfl rfl ?_
    refine mj_getf (q := 131) dX1_become_128 fl_X1_57 rfl rfl (by assumption) ?_
    refine mj_putf (q := 134) dX1_become_131 fl_X1_57 rfl rfl (by assumption) rfl rfl rfl ?_
    refine mj_aload_n (i := 0) (q := 135) dX1_become_134 rfl rfl rfl ?_
    refine mj_aload_n (i := 1) (q := 136) dX1_become_135 rfl rfl rfl ?_
    refine mj_getf (q := 139) dX1_become_136 fl_X1_60 rfl rfl (by assumption) ?_
    refine mj_putf (q := 142) dX1_become_139 fl_X1_60 rfl rfl (by assumption) rfl rfl rfl ?_
    refine mj_aload_n (i := 0) (q := 143) dX1_become_142 rfl rfl rfl ?_
    refine mj_aload_n (i := 1) (q := 144) dX1_become_143 rfl rfl rfl ?_
    refine mj_getf (q := 147) dX1_become_144 fl_X1_63 rfl rfl (by assumption) ?_
    refine mj_putf (q := 150) dX1_become_147 fl_X1_63 rfl rfl (by assumption) rfl rfl rfl ?_
    refine mj_aload_n (i := 0) (q := 151) dX1_become_150 rfl rfl rfl ?_
    refine mj_aload_n (i := 1) (q := 152) dX1_become_151 rfl rfl rfl ?_
    refine mj_getf (q := 155) dX1_become_152 fl_X1_66 rfl rfl (by assumption) ?_
    refine mj_putf (q := 158) dX1_become_155 fl_X1_66 rfl rfl (by assumption) rfl rfl rfl ?_
    refine mj_aload_n (i := 0) (q := 159) dX1_become_158 rfl rfl rfl ?_
    refine mj_aload_n (i := 1) (q := 160) dX1_become_159 rfl rfl rfl ?_
    refine mj_getf (q := 163) dX1_become_160 fl_X1_69 rfl rfl (by assumption) ?_
    refine mj_putf (q := 166) dX1_become_163 fl_X1_69 rfl rfl (by assumption) rfl rfl rfl ?_
    refine mj_aload_n (i := 0) (q := 167) dX1_become_166 rfl rfl rfl ?_
    refine mj_aload_n (i := 1) (q := 168) dX1_become_167 rfl rfl rfl ?_
    refine mj_getf (q := 171) dX1_become_168 fl_X1_72 rfl rfl (by assumption) ?_
    refine mj_putf (q := 174) dX1_become_171 fl_X1_72 rfl rfl (by assumption) rfl rfl rfl ?_
    refine mj_return dX1_become_174 rfl ⟨rfl, _, rfl, ⟨n1, n2, ?_, ?_, ?_, ?_, ?_, n8⟩, ?_⟩
    · simp [mj_up, h2]
    · simp [mj_up, h3]
    · intro k hk1 hk2
      have : k = 4 ∨ k = 5 ∨ k = 6 ∨ k = 7 ∨ k = 8 ∨ k = 9 ∨ k = 10 ∨ k = 11 ∨ k = 12 ∨ k = 13 ∨ k = 14 ∨ k = 15 := by omega
      rcases this with rfl | rfl | rfl | rfl | rfl | rfl | rfl | rfl | rfl | rfl | rfl | rfl <;> simp [mj_up, hne, s4, s5, s6, s7, s8, s9, s10, s11, s12, s13, s14, s15]
    · intro i hi
      refine (hl i hi).keep (lo := p) (hi := p + 1) ?_ (by omega)
      repeat (first | exact mj_Fr.rf | exact (by assumption) | refine mj_Fr.up ?_ (by omega) (by omega))
    · intro i hi
      refine (hr i hi).keep (lo := p) (hi := p + 1) ?_ (by omega)
      repeat (first | exact mj_Fr.rf | exact (by assumption) | refine mj_Fr.up ?_ (by omega) (by omega))
    · repeat (first | exact mj_Fr.rf | exact (by assumption) | refine mj_Fr.up ?_ (by omega) (by omega))
  have key49 : ∀ (j i : Nat) (f1 : Nat → Nat → Int32), i + j = rc → f1 p 2 = nI lc → f1 p 3 = nI rc → (∀ i, i < lc → LN f1 (p + 2 + i) (ls i)) → (∀ k, k < i → RN f1 (p + 7 + 5 * k) (rs k)) → mj_Fr p (p + 47) f f1 → mj_W m_X1_become (d + 3) 0 0 (fun v h1 => v = none ∧ ∃ f1, h1 = (n, K, f1, g) ∧ MN f1 p (lc, rc, mu, ls, rs) ∧ mj_Fr p (p + 47) f f1) 49 [.ref p, .ref m, .int (nI i)] [] (n, K, f1, g) := by
    intro j
    induction j with
    | zero =>
      intro i f1 hi h2 h3 hl hr hF
      have hi : i = rc := by omega
      subst hi
      refine mj_iload_n (i := 2) (q := 50) dX1_become_49 rfl rfl rfl ?_
      refine mj_aload_n (i := 0) (q := 51) dX1_become_50 rfl rfl rfl ?_
      refine mj_getfv (q := 54) dX1_become_51 fl_X1_42 rfl rfl (by assumption) (by assumption) ?_
      refine mj_icmp_ge (tgt := 78) (q := 57) dX1_become_54 (by decide) rfl (fun c_54 => ?_) (fun c_54 => absurd (Int32.le_refl _) c_54)
      exact key78 f1 _ h2 h3 hl hr hF
    | succ j ih =>
      intro i f1 hi h2 h3 hl hr hF
      have hi2 : i < rc := by omega
      have hg_i : g (m + 6) i = some (m + 7 + 5 * i) := (hLr i (by omega)).1
      have hL_i := (hLr i (by omega)).2
      have kr_i : K (m + 7 + 5 * i) = (2, 2, 0) := hL_i.1
      have gr_i : g (m + 7 + 5 * i) 0 = some ((m + 7 + 5 * i) + 1) := hL_i.2.1
      have ks_i : K ((m + 7 + 5 * i) + 1) = (2, 3, 0) := hL_i.2.2.1
      have hR_i := n7 i (by omega)
      have hgp : g (p + 6) i = some (p + 7 + 5 * i) := (pLr i (by omega)).1
      have hLp := (pLr i (by omega)).2
      have krp : K (p + 7 + 5 * i) = (2, 2, 0) := hLp.1
      have hR1 := hR_i.keep hF (by omega)
      refine mj_iload_n (i := 2) (q := 50) dX1_become_49 rfl rfl rfl ?_
      refine mj_aload_n (i := 0) (q := 51) dX1_become_50 rfl rfl rfl ?_
      refine mj_getfv (q := 54) dX1_become_51 fl_X1_42 rfl rfl (by assumption) (by assumption) ?_
      refine mj_icmp_ge (tgt := 78) (q := 57) dX1_become_54 (by decide) rfl (fun c_54 => absurd c_54 (nI_ge (a := i) (b := rc) (by omega) (by omega))) (fun c_54 => ?_)
      refine mj_aload_n (i := 0) (q := 58) dX1_become_57 rfl rfl rfl ?_
      refine mj_getr (q := 61) dX1_become_58 fl_X1_20 rfl rfl (by assumption) (by assumption) ?_
      refine mj_iload_n (i := 2) (q := 62) dX1_become_61 rfl rfl rfl ?_
      refine mj_aaldn (q := 63) dX1_become_62 rfl (by assumption) ⟨by omega, by omega⟩ (by assumption) ?_
      refine mj_aload_n (i := 1) (q := 64) dX1_become_63 rfl rfl rfl ?_
      refine mj_getr (q := 67) dX1_become_64 fl_X1_20 rfl rfl (by assumption) (by assumption) ?_
      refine mj_iload_n (i := 2) (q := 68) dX1_become_67 rfl rfl rfl ?_
      refine mj_aaldn (q := 69) dX1_become_68 rfl (by assumption) ⟨by omega, by omega⟩ (by assumption) ?_
      refine mj_cV1v (K := m_X2_become) (q := 72) dX1_become_69 ln_X1_45 ok_X2_become (Nat.le_of_ble_eq_true rfl) (by decide) (by assumption) rfl rfl (s_runBecome hLp hL_i (by omega) hR1) (fun h1 hq => ?_)
      obtain ⟨f2, rfl, hR2, hF2⟩ := hq
      refine mj_iinc (i := 2) (q := 75) dX1_become_72 rfl rfl (by decide) rfl ?_
      dsimp only [List.set]
      refine mj_goto (q := 49) dX1_become_75 (by decide) ?_
      rw [show nI i + Int32.ofInt 1 = nI (i + 1) from nI_1 i]
      refine ih (i + 1) f2 (by omega) (by rw [hF2 p (by omega)]; exact h2) (by rw [hF2 p (by omega)]; exact h3) (fun k hk => (hl k hk).keep hF2 (by omega)) (fun k hk => ?_) (hF.tr (hF2.wide (by omega) (by omega)))
      by_cases hki : k = i
      · subst hki; exact hR2
      · exact (hr k (by omega)).keep hF2 (by omega)
  have key10 : ∀ (j i : Nat) (f1 : Nat → Nat → Int32), i + j = lc → f1 p 2 = nI lc → (∀ k, k < i → LN f1 (p + 2 + k) (ls k)) → mj_Fr p (p + 47) f f1 → mj_W m_X1_become (d + 3) 0 0 (fun v h1 => v = none ∧ ∃ f1, h1 = (n, K, f1, g) ∧ MN f1 p (lc, rc, mu, ls, rs) ∧ mj_Fr p (p + 47) f f1) 10 [.ref p, .ref m, .int (nI i)] [] (n, K, f1, g) := by
    intro j
    induction j with
    | zero =>
      intro i f1 hi h2 hl hF
      have hi : i = lc := by omega
      subst hi
      have a3 : f1 m 3 = nI rc := by rw [hF m (by omega)]; exact n4
      refine mj_iload_n (i := 2) (q := 11) dX1_become_10 rfl rfl rfl ?_
      refine mj_aload_n (i := 0) (q := 12) dX1_become_11 rfl rfl rfl ?_
      refine mj_getfv (q := 15) dX1_become_12 fl_X1_35 rfl rfl (by assumption) (by assumption) ?_
      refine mj_icmp_ge (tgt := 39) (q := 18) dX1_become_15 (by decide) rfl (fun c_15 => ?_) (fun c_15 => absurd (Int32.le_refl _) c_15)
      refine mj_aload_n (i := 0) (q := 40) dX1_become_39 rfl rfl rfl ?_
      refine mj_aload_n (i := 1) (q := 41) dX1_become_40 rfl rfl rfl ?_
      refine mj_getfv (q := 44) dX1_become_41 fl_X1_42 rfl rfl (by assumption) (by assumption) ?_
      refine mj_putf (q := 47) dX1_become_44 fl_X1_42 rfl rfl (by assumption) rfl rfl rfl ?_
      refine mj_num1 (v := nI 0) (q := 48) (by decide) dX1_become_47 rfl ?_
      refine mj_istore_n (i := 2) (q := 49) dX1_become_48 rfl rfl (by decide) rfl ?_
      dsimp only [List.set]
      exact key49 rc 0 _ (by omega) (by rw [mj_up, if_neg (by omega)]; exact h2) mj_upe (fun k hk => (hl k hk).keep (lo := p) (hi := p + 1) (mj_Fr.up mj_Fr.rf (by omega) (by omega)) (by omega)) (fun k hk => absurd hk (Nat.not_lt_zero k)) (mj_Fr.up hF (by omega) (by omega))
    | succ j ih =>
      intro i f1 hi h2 hl hF
      have hi2 : i < lc := by omega
      have hl_i : g (m + 1) i = some (m + 2 + i) := (hLl i (by omega)).1
      have kl_i : K (m + 2 + i) = (2, 0, 0) := (hLl i (by omega)).2
      have hN_i := n6 i (by omega)
      have hgp : g (p + 1) i = some (p + 2 + i) := (pLl i (by omega)).1
      have klp : K (p + 2 + i) = (2, 0, 0) := (pLl i (by omega)).2
      have hN1 := hN_i.keep hF (by omega)
      refine mj_iload_n (i := 2) (q := 11) dX1_become_10 rfl rfl rfl ?_
      refine mj_aload_n (i := 0) (q := 12) dX1_become_11 rfl rfl rfl ?_
      refine mj_getfv (q := 15) dX1_become_12 fl_X1_35 rfl rfl (by assumption) (by assumption) ?_
      refine mj_icmp_ge (tgt := 39) (q := 18) dX1_become_15 (by decide) rfl (fun c_15 => absurd c_15 (nI_ge (a := i) (b := lc) (by omega) (by omega))) (fun c_15 => ?_)
      refine mj_aload_n (i := 0) (q := 19) dX1_become_18 rfl rfl rfl ?_
      refine mj_getr (q := 22) dX1_become_19 fl_X1_11 rfl rfl (by assumption) (by assumption) ?_
      refine mj_iload_n (i := 2) (q := 23) dX1_become_22 rfl rfl rfl ?_
      refine mj_aaldn (q := 24) dX1_become_23 rfl (by assumption) ⟨by omega, by omega⟩ (by assumption) ?_
      refine mj_aload_n (i := 1) (q := 25) dX1_become_24 rfl rfl rfl ?_
      refine mj_getr (q := 28) dX1_become_25 fl_X1_11 rfl rfl (by assumption) (by assumption) ?_
      refine mj_iload_n (i := 2) (q := 29) dX1_become_28 rfl rfl rfl ?_
      refine mj_aaldn (q := 30) dX1_become_29 rfl (by assumption) ⟨by omega, by omega⟩ (by assumption) ?_
      refine mj_cV1v (K := m_X0_become) (q := 33) dX1_become_30 ln_X1_38 ok_X0_become (Nat.le_of_ble_eq_true rfl) (by decide) (by assumption) rfl rfl (s_liftBecome klp kl_i (by omega) hN1) (fun h1 hq => ?_)
      obtain ⟨f2, rfl, hN3, hF2⟩ := hq
      refine mj_iinc (i := 2) (q := 36) dX1_become_33 rfl rfl (by decide) rfl ?_
      dsimp only [List.set]
      refine mj_goto (q := 10) dX1_become_36 (by decide) ?_
      rw [show nI i + Int32.ofInt 1 = nI (i + 1) from nI_1 i]
      refine ih (i + 1) f2 (by omega) (by rw [hF2 p (by omega)]; exact h2) (fun k hk => ?_) (hF.tr (hF2.wide (by omega) (by omega)))
      by_cases hki : k = i
      · subst hki; exact hN3
      · exact (hl k (by omega)).keep hF2 (by omega)
  refine mj_entry (by refine ⟨by decide +kernel, by decide, rfl, Nat.le_of_ble_eq_true rfl⟩) ?_
  show mj_W _ _ _ _ _ 0 [.ref p, .ref m, .null] [] _
  refine mj_aload_n (i := 0) (q := 1) dX1_become_0 rfl rfl rfl ?_
  refine mj_aload_n (i := 1) (q := 2) dX1_become_1 rfl rfl rfl ?_
  refine mj_getfv (q := 5) dX1_become_2 fl_X1_35 rfl rfl (by assumption) (by assumption) ?_
  refine mj_putf (q := 8) dX1_become_5 fl_X1_35 rfl rfl (by assumption) rfl rfl rfl ?_
  refine mj_num1 (v := nI 0) (q := 9) (by decide) dX1_become_8 rfl ?_
  refine mj_istore_n (i := 2) (q := 10) dX1_become_9 rfl rfl (by decide) rfl ?_
  dsimp only [List.set]
  exact key10 lc 0 _ (by omega) mj_upe (fun k hk => absurd hk (Nat.not_lt_zero k)) (mj_Fr.up mj_Fr.rf (by omega) (by omega))
