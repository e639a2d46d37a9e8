/-! PISTEKEEPER: what would be -/
theorem vNextN_pos (rs : Nat → rV) : ∀ n, 0 ≤ (vNextN rs n).2
  | 0 => Int32.le_refl _
  | n + 1 => by
    rw [vNextN]
    split
    · rename_i h
      exact Int32.le_trans (vNextN_pos rs n) (Int32.le_of_lt h.2.2.2)
    · exact vNextN_pos rs n
def wW (a b c d e : Int32) : Nat → Int32 := fun k => if k = 0 then a else if k = 1 then b else if k = 2 then c else if k = 3 then d else e
def vWR (W : Nat → Int32) (i : Nat) : Nat → mV → Int32 → Int32
  | 0, _, g => g
  | n + 1, y, g => vWR W i n (vHour W y) (vMax g (((vHour W y).2.2.2.2 i).2 14))
def vIter (W : Nat → Int32) : Nat → mV → mV
  | 0, y => y
  | n + 1, y => vIter W n (vHour W y)
theorem vHour_cnt (W : Nat → Int32) (y : mV) : (vHour W y).1 = y.1 ∧ (vHour W y).2.1 = y.2.1 := by
  obtain ⟨lc, rc, mu, ls, rs⟩ := y
  unfold vHour
  dsimp only
  split <;> exact ⟨rfl, rfl⟩
theorem vIter_cnt (W : Nat → Int32) : ∀ (n : Nat) (y : mV), (vIter W n y).1 = y.1 ∧ (vIter W n y).2.1 = y.2.1
  | 0, _ => ⟨rfl, rfl⟩
  | n + 1, y => by
    have h := vIter_cnt W n (vHour W y)
    have h2 := vHour_cnt W y
    exact ⟨h.1.trans h2.1, h.2.trans h2.2⟩
def vRiskWould (y : mV) (i hours : Nat) (warmth fall : Int32) : Int32 := vWR (wW warmth fall 0 0 100) i hours y 0
def vBare (y : mV) : mV := (y.1, y.2.1, y.2.2.1, y.2.2.2.1, vGunless y.2.2.2.2 y.2.1)
def vTrial (y : mV) (i : Nat) : mV := (y.1, y.2.1, y.2.2.1, y.2.2.2.1, mj_row (vGunless y.2.2.2.2 y.2.1) i ((vGunless y.2.2.2.2 y.2.1 i).1, upd (vGunless y.2.2.2.2 y.2.1 i).2 6 ((y.2.2.2.2 i).2 6)))
def vMakeWould (y : mV) (i hours : Nat) (warmth humid : Int32) : Int32 := if 1 ≤ (y.2.2.2.2 i).2 6 then vDepth 0 ((vIter (wW warmth 0 0 0 humid) hours (vTrial y i)).2.2.2.2 i).1 - vDepth 0 ((vIter (wW warmth 0 0 0 humid) hours (vBare y)).2.2.2.2 i).1 else 0

def vMean (y : mV) : UInt64 := if 1 ≤ vArea y.2.2.2.2 y.2.1 then FP.ddiv (FP.i2d (vDepthArea y.2.2.2.2 y.2.1)) (FP.i2d (vArea y.2.2.2.2 y.2.1)) else FP.dconst0
set_option maxHeartbeats 4000000 in
set_option maxRecDepth 100000 in
theorem s_meanDepth {d x m : Nat} {n : Nat} {K : Nat → mj_K} {f : Nat → Nat → Int32} {g : Nat → Nat → Option Nat} {y : mV} (hP : LPn K g x m) (hN : MN f m y) (hne : 1 ≤ vArea y.2.2.2.2 y.2.1 → vf_n64 (FP.ddiv (FP.i2d (vDepthArea y.2.2.2.2 y.2.1)) (FP.i2d (vArea y.2.2.2.2 y.2.1)))) : mj_Cd m_X5_meanDepth (d + 4) [.ref x] (n, K, f, g) (fun r h1 => h1 = (n, K, f, g) ∧ r = vMean y) := by
  have hP2 := hP
  have hN2 := hN
  obtain ⟨kx, hxm, gx0, gx1, gx2, gx3, hL, hLt, hLb, kw⟩ := hP
  have hL2 := hL
  obtain ⟨km, gm0, gm1, km1, km6, hLl, hLr⟩ := hL
  obtain ⟨lc, rc, mu, ls, rs⟩ := y
  obtain ⟨n1, n2, n3, n4, n5, n6, n7, n8⟩ := hN
  dsimp only at n1 n2 n3 n4 n5 n6 n7 n8
  refine mj_entry (by refine ⟨by decide +kernel, by decide, rfl, Nat.le_of_ble_eq_true rfl⟩) ?_
  show mj_W _ _ _ _ _ 0 [.ref x, .null] [] _
  refine mj_aload_n (i := 0) (q := 1) dX5_meanDepth_0 rfl rfl rfl ?_
  refine mj_getr (q := 4) dX5_meanDepth_1 fl_X5_10 rfl rfl (by assumption) (by assumption) ?_
  refine mj_cV0i (K := m_X1_wholeArea) (q := 7) dX5_meanDepth_4 ln_X5_267 ok_X1_wholeArea (Nat.le_of_ble_eq_true rfl) (by decide) (by assumption) rfl rfl (s_wholeArea hL2 hN2) (fun r_4 h1 hq => ?_)
  obtain ⟨rfl, rfl⟩ := hq
  refine mj_istore_n (i := 1) (q := 8) dX5_meanDepth_7 rfl rfl (by decide) rfl ?_
  dsimp only [List.set]
  refine mj_iload_n (i := 1) (q := 9) dX5_meanDepth_8 rfl rfl rfl ?_
  refine mj_num1 (v := 1) (q := 10) rfl dX5_meanDepth_9 rfl ?_
  refine mj_icmp_ge (tgt := 17) (q := 13) dX5_meanDepth_10 (by decide) rfl (fun c_10 => ?_) (fun c_10 => ?_)
  · refine mj_aload_n (i := 0) (q := 18) dX5_meanDepth_17 rfl rfl rfl ?_
    refine mj_getr (q := 21) dX5_meanDepth_18 fl_X5_10 rfl rfl (by assumption) (by assumption) ?_
    refine mj_cV0i (K := m_X1_depthByArea) (q := 24) dX5_meanDepth_21 ln_X5_264 ok_X1_depthByArea (Nat.le_of_ble_eq_true rfl) (by decide) (by assumption) rfl rfl (s_depthByArea hL2 hN2) (fun r_21 h1 hq => ?_)
    obtain ⟨rfl, rfl⟩ := hq
    refine mj_i2d (q := 25) dX5_meanDepth_24 rfl ?_
    refine mj_iload_n (i := 1) (q := 26) dX5_meanDepth_25 rfl rfl rfl ?_
    refine mj_i2d (q := 27) dX5_meanDepth_26 rfl ?_
    refine mj_ddiv (q := 28) (hne c_10) dX5_meanDepth_27 rfl ?_
    exact mj_dreturn dX5_meanDepth_28 rfl ⟨_, rfl, rfl, by unfold vMean; rw [if_pos c_10]⟩
  · refine mj_dconst0 (q := 14) dX5_meanDepth_13 rfl ?_
    refine mj_goto (q := 28) dX5_meanDepth_14 (by decide) ?_
    exact mj_dreturn dX5_meanDepth_28 rfl ⟨_, rfl, rfl, by unfold vMean; rw [if_neg c_10]⟩
set_option maxHeartbeats 4000000 in
set_option maxRecDepth 100000 in
theorem s_nextBlast {d x m : Nat} {n : Nat} {K : Nat → mj_K} {f : Nat → Nat → Int32} {g : Nat → Nat → Option Nat} {y : mV} (hP : LPn K g x m) (hN : MN f m y) : mj_Ci m_X5_nextBlast (d + 4) [.ref x] (n, K, f, g) (fun r h1 => h1 = (n, K, f, g) ∧ r = vNext y) := by
  have hP2 := hP
  have hN2 := hN
  obtain ⟨kx, hxm, gx0, gx1, gx2, gx3, hL, hLt, hLb, kw⟩ := hP
  have hL2 := hL
  obtain ⟨km, gm0, gm1, km1, km6, hLl, hLr⟩ := hL
  obtain ⟨lc, rc, mu, ls, rs⟩ := y
  obtain ⟨n1, n2, n3, n4, n5, n6, n7, n8⟩ := hN
  dsimp only at n1 n2 n3 n4 n5 n6 n7 n8
  have key : ∀ (j i : Nat) (v4 v5 v6 : Value), i + j = rc → mj_W m_X5_nextBlast (d + 4) 0 0 (fun v h1 => ∃ r, v = some (.int r) ∧ h1 = (n, K, f, g) ∧ r = (vNextN rs rc).1) 6 [.ref x, .int (vNextN rs i).1, .int (vNextN rs i).2, .int (nI i), v4, v5, v6] [] (n, K, f, g) := by
    intro j
    induction j with
    | zero =>
      intro i v4 v5 v6 hi
      have hi : i = rc := by omega
      subst hi
      refine mj_iload_n (i := 3) (q := 7) dX5_nextBlast_6 rfl rfl rfl ?_
      refine mj_aload_n (i := 0) (q := 8) dX5_nextBlast_7 rfl rfl rfl ?_
      refine mj_getr (q := 11) dX5_nextBlast_8 fl_X5_10 rfl rfl (by assumption) (by assumption) ?_
      refine mj_getfv (q := 14) dX5_nextBlast_11 fl_X5_60 rfl rfl (by assumption) (by assumption) ?_
      refine mj_icmp_ge (tgt := 99) (q := 17) dX5_nextBlast_14 (by decide) rfl (fun c_14 => ?_) (fun c_14 => absurd (Int32.le_refl _) c_14)
      refine mj_iload_n (i := 1) (q := 100) dX5_nextBlast_99 rfl rfl rfl ?_
      exact mj_ireturn dX5_nextBlast_100 ⟨_, rfl, rfl⟩ ⟨_, rfl, ⟨rfl, rfl⟩⟩
    | succ j ih =>
      intro i v4 v5 v6 hi
      have hi2 : i < rc := by omega
      have hg_i : g (m + 6) i = some (m + 7 + 5 * i) := (hLr i (by omega)).1
      have hL_i := (hLr i (by omega)).2
      have kr_i : K (m + 7 + 5 * i) = (2, 2, 0) := hL_i.1
      have gr_i : g (m + 7 + 5 * i) 0 = some ((m + 7 + 5 * i) + 1) := hL_i.2.1
      have ks_i : K ((m + 7 + 5 * i) + 1) = (2, 3, 0) := hL_i.2.2.1
      have hR_i := n7 i (by omega)
      have e10_i : f (m + 7 + 5 * i) 10 = (rs i).2 10 := hR_i.2.1 10 (by omega) (by omega)
      have e15_i : f (m + 7 + 5 * i) 15 = (rs i).2 15 := hR_i.2.1 15 (by omega) (by omega)
      have keyF : ¬ ((rs i).2 15 = 0 ∧ (rs i).2 10 = 0 ∧ 40 ≤ vRisk ((rs i).2 3) (rs i).1) → mj_W m_X5_nextBlast (d + 4) 0 0 (fun v h1 => ∃ r, v = some (.int r) ∧ h1 = (n, K, f, g) ∧ r = (vNextN rs rc).1) 59 [.ref x, .int (vNextN rs i).1, .int (vNextN rs i).2, .int (nI i), .ref (m + 7 + 5 * i), v5, v6] [.int 0] (n, K, f, g) := by
        intro hm
        refine mj_istore (i := 5) (q := 61) dX5_nextBlast_59 rfl (by decide) rfl ?_
        dsimp only [List.set]
        refine mj_iload (i := 5) (q := 63) dX5_nextBlast_61 rfl rfl ?_
        refine mj_if_eq (tgt := 79) (q := 66) dX5_nextBlast_63 (by decide) rfl (fun c_63 => ?_) (fun c_63 => absurd rfl c_63)
        refine mj_num1 (v := 0) (q := 80) rfl dX5_nextBlast_79 rfl ?_
        refine mj_istore (i := 6) (q := 82) dX5_nextBlast_80 rfl (by decide) rfl ?_
        dsimp only [List.set]
        refine mj_iload (i := 6) (q := 84) dX5_nextBlast_82 rfl rfl ?_
        refine mj_iload_n (i := 2) (q := 85) dX5_nextBlast_84 rfl rfl rfl ?_
        refine mj_icmp_le (tgt := 93) (q := 88) dX5_nextBlast_85 (by decide) rfl (fun c_85 => ?_) (fun c_85 => absurd (vNextN_pos rs i) c_85)
        refine mj_iinc (i := 3) (q := 96) dX5_nextBlast_93 rfl rfl (by decide) rfl ?_
        dsimp only [List.set]
        refine mj_goto (q := 6) dX5_nextBlast_96 (by decide) ?_
        rw [show nI i + Int32.ofInt 1 = nI (i + 1) from nI_1 i]
        have e : vNextN rs (i + 1) = vNextN rs i := by rw [vNextN]; exact if_neg (fun z => hm ⟨z.1, z.2.1, z.2.2.1⟩)
        rw [← e]
        exact ih (i + 1) _ _ _ (by omega)
      have keyT : ((rs i).2 15 = 0 ∧ (rs i).2 10 = 0 ∧ 40 ≤ vRisk ((rs i).2 3) (rs i).1) → mj_W m_X5_nextBlast (d + 4) 0 0 (fun v h1 => ∃ r, v = some (.int r) ∧ h1 = (n, K, f, g) ∧ r = (vNextN rs rc).1) 59 [.ref x, .int (vNextN rs i).1, .int (vNextN rs i).2, .int (nI i), .ref (m + 7 + 5 * i), v5, v6] [.int 1] (n, K, f, g) := by
        intro hm
        refine mj_istore (i := 5) (q := 61) dX5_nextBlast_59 rfl (by decide) rfl ?_
        dsimp only [List.set]
        refine mj_iload (i := 5) (q := 63) dX5_nextBlast_61 rfl rfl ?_
        refine mj_if_eq (tgt := 79) (q := 66) dX5_nextBlast_63 (by decide) rfl (fun c_63 => absurd c_63 (by decide)) (fun c_63 => ?_)
        refine mj_aload (i := 4) (q := 68) dX5_nextBlast_66 rfl rfl ?_
        refine mj_aload (i := 4) (q := 70) dX5_nextBlast_68 rfl rfl ?_
        refine mj_cV0i (K := m_X2_shear) (q := 73) dX5_nextBlast_70 ln_X5_212 ok_X2_shear (Nat.le_of_ble_eq_true rfl) (by decide) (by assumption) rfl rfl (s_runShear hL_i hR_i) (fun r_70 h1 hq => ?_)
        obtain ⟨rfl, rfl⟩ := hq
        refine mj_cV1i (K := m_X2_sizeFrom) (q := 76) dX5_nextBlast_73 ln_X5_283 ok_X2_sizeFrom (Nat.le_of_ble_eq_true rfl) (by decide) (by assumption) rfl rfl (s_runSize hL_i hR_i (vShear_rng _ _)) (fun r_73 h1 hq => ?_)
        obtain ⟨rfl, rfl⟩ := hq
        refine mj_goto (q := 80) dX5_nextBlast_76 (by decide) ?_
        refine mj_istore (i := 6) (q := 82) dX5_nextBlast_80 rfl (by decide) rfl ?_
        dsimp only [List.set]
        refine mj_iload (i := 6) (q := 84) dX5_nextBlast_82 rfl rfl ?_
        refine mj_iload_n (i := 2) (q := 85) dX5_nextBlast_84 rfl rfl rfl ?_
        refine mj_icmp_le (tgt := 93) (q := 88) dX5_nextBlast_85 (by decide) rfl (fun c_85 => ?_) (fun c_85 => ?_)
        · refine mj_iinc (i := 3) (q := 96) dX5_nextBlast_93 rfl rfl (by decide) rfl ?_
          dsimp only [List.set]
          refine mj_goto (q := 6) dX5_nextBlast_96 (by decide) ?_
          rw [show nI i + Int32.ofInt 1 = nI (i + 1) from nI_1 i]
          have e : vNextN rs (i + 1) = vNextN rs i := by rw [vNextN]; exact if_neg (fun z => absurd z.2.2.2 (Int32.not_lt.mpr c_85))
          rw [← e]
          exact ih (i + 1) _ _ _ (by omega)
        · refine mj_iload (i := 6) (q := 90) dX5_nextBlast_88 rfl rfl ?_
          refine mj_istore_n (i := 2) (q := 91) dX5_nextBlast_90 rfl rfl (by decide) rfl ?_
          dsimp only [List.set]
          refine mj_iload_n (i := 3) (q := 92) dX5_nextBlast_91 rfl rfl rfl ?_
          refine mj_istore_n (i := 1) (q := 93) dX5_nextBlast_92 rfl rfl (by decide) rfl ?_
          dsimp only [List.set]
          refine mj_iinc (i := 3) (q := 96) dX5_nextBlast_93 rfl rfl (by decide) rfl ?_
          dsimp only [List.set]
          refine mj_goto (q := 6) dX5_nextBlast_96 (by decide) ?_
          rw [show nI i + Int32.ofInt 1 = nI (i + 1) from nI_1 i]
          have e : vNextN rs (i + 1) = (nI i, vSlideSize (rs i)) := by rw [vNextN]; exact if_pos ⟨hm.1, hm.2.1, hm.2.2, Int32.not_le.mp c_85⟩
          have q1 : nI i = (vNextN rs (i + 1)).1 := by rw [e]
          have q2 : vSize (vShear ((rs i).2 3) (rs i).1) ((rs i).2 5) (rs i).1 = (vNextN rs (i + 1)).2 := by rw [e]; rfl
          have fin := ih (i + 1) (.ref (m + 7 + 5 * i)) (.int 1) (.int (vSize (vShear ((rs i).2 3) (rs i).1) ((rs i).2 5) (rs i).1)) (by omega)
          rw [← q1, ← q2] at fin
          exact fin
      refine mj_iload_n (i := 3) (q := 7) dX5_nextBlast_6 rfl rfl rfl ?_
      refine mj_aload_n (i := 0) (q := 8) dX5_nextBlast_7 rfl rfl rfl ?_
      refine mj_getr (q := 11) dX5_nextBlast_8 fl_X5_10 rfl rfl (by assumption) (by assumption) ?_
      refine mj_getfv (q := 14) dX5_nextBlast_11 fl_X5_60 rfl rfl (by assumption) (by assumption) ?_
      refine mj_icmp_ge (tgt := 99) (q := 17) dX5_nextBlast_14 (by decide) rfl (fun c_14 => absurd c_14 (nI_ge (a := i) (b := rc) (by omega) (by omega))) (fun c_14 => ?_)
      refine mj_aload_n (i := 0) (q := 18) dX5_nextBlast_17 rfl rfl rfl ?_
      refine mj_getr (q := 21) dX5_nextBlast_18 fl_X5_10 rfl rfl (by assumption) (by assumption) ?_
      refine mj_getr (q := 24) dX5_nextBlast_21 fl_X5_65 rfl rfl (by assumption) (by assumption) ?_
      refine mj_iload_n (i := 3) (q := 25) dX5_nextBlast_24 rfl rfl rfl ?_
      refine mj_aaldn (q := 26) dX5_nextBlast_25 rfl (by assumption) ⟨by omega, by omega⟩ (by assumption) ?_
      refine mj_astore (i := 4) (q := 28) dX5_nextBlast_26 rfl (by decide) rfl ?_
      dsimp only [List.set]
      refine mj_aload (i := 4) (q := 30) dX5_nextBlast_28 rfl rfl ?_
      refine mj_getfv (q := 33) dX5_nextBlast_30 fl_X5_194 rfl rfl (by assumption) (by assumption) ?_
      refine mj_if_ne (tgt := 58) (q := 36) dX5_nextBlast_33 (by decide) rfl (fun c_33 => ?_) (fun c_33 => ?_)
      · refine mj_num1 (v := 0) (q := 59) rfl dX5_nextBlast_58 rfl ?_
        exact keyF (fun z => c_33 z.1)
      · refine mj_aload (i := 4) (q := 38) dX5_nextBlast_36 rfl rfl ?_
        refine mj_getfv (q := 41) dX5_nextBlast_38 fl_X5_140 rfl rfl (by assumption) (by assumption) ?_
        refine mj_if_ne (tgt := 58) (q := 44) dX5_nextBlast_41 (by decide) rfl (fun c_41 => ?_) (fun c_41 => ?_)
        · refine mj_num1 (v := 0) (q := 59) rfl dX5_nextBlast_58 rfl ?_
          exact keyF (fun z => c_41 z.2.1)
        · refine mj_aload (i := 4) (q := 46) dX5_nextBlast_44 rfl rfl ?_
          refine mj_cV0i (K := m_X2_risk) (q := 49) dX5_nextBlast_46 ln_X5_143 ok_X2_risk (Nat.le_of_ble_eq_true rfl) (by decide) (by assumption) rfl rfl (s_runRisk hL_i hR_i) (fun r_46 h1 hq => ?_)
          obtain ⟨rfl, rfl⟩ := hq
          refine mj_num2 (v := 40) (q := 51) (by decide) dX5_nextBlast_49 rfl ?_
          refine mj_icmp_lt (tgt := 58) (q := 54) dX5_nextBlast_51 (by decide) rfl (fun c_51 => ?_) (fun c_51 => ?_)
          · refine mj_num1 (v := 0) (q := 59) rfl dX5_nextBlast_58 rfl ?_
            exact keyF (fun z => absurd c_51 (Int32.not_lt.mpr z.2.2))
          · refine mj_num1 (v := 1) (q := 55) rfl dX5_nextBlast_54 rfl ?_
            refine mj_goto (q := 59) dX5_nextBlast_55 (by decide) ?_
            exact keyT ⟨c_33, c_41, Int32.not_lt.mp c_51⟩
  refine mj_entry (by refine ⟨by decide +kernel, by decide, rfl, Nat.le_of_ble_eq_true rfl⟩) ?_
  show mj_W _ _ _ _ _ 0 [.ref x, .null, .null, .null, .null, .null, .null] [] _
  refine mj_num1 (v := (-1)) (q := 1) rfl dX5_nextBlast_0 rfl ?_
  refine mj_istore_n (i := 1) (q := 2) dX5_nextBlast_1 rfl rfl (by decide) rfl ?_
  dsimp only [List.set]
  refine mj_num1 (v := 0) (q := 3) rfl dX5_nextBlast_2 rfl ?_
  refine mj_istore_n (i := 2) (q := 4) dX5_nextBlast_3 rfl rfl (by decide) rfl ?_
  dsimp only [List.set]
  refine mj_num1 (v := nI 0) (q := 5) (by decide) dX5_nextBlast_4 rfl ?_
  refine mj_istore_n (i := 3) (q := 6) dX5_nextBlast_5 rfl rfl (by decide) rfl ?_
  dsimp only [List.set]
  exact key rc 0 _ _ _ (by omega)
set_option maxHeartbeats 4000000 in
set_option maxRecDepth 100000 in
theorem s_couldOpen {d x m : Nat} {n : Nat} {K : Nat → mj_K} {f : Nat → Nat → Int32} {g : Nat → Nat → Option Nat} {y : mV} (hP : LPn K g x m) (hN : MN f m y) : mj_Ci m_X5_couldOpen (d + 5) [.ref x] (n, K, f, g) (fun r h1 => h1 = (n, K, f, g) ∧ r = vCouldN y.2.2.1 y.2.2.2.1 y.2.2.2.2 y.2.1) := by
  have hP2 := hP
  have hN2 := hN
  obtain ⟨kx, hxm, gx0, gx1, gx2, gx3, hL, hLt, hLb, kw⟩ := hP
  have hL2 := hL
  obtain ⟨km, gm0, gm1, km1, km6, hLl, hLr⟩ := hL
  obtain ⟨lc, rc, mu, ls, rs⟩ := y
  obtain ⟨n1, n2, n3, n4, n5, n6, n7, n8⟩ := hN
  dsimp only at n1 n2 n3 n4 n5 n6 n7 n8
  have key : ∀ (j i : Nat) (v3 v4 v5 : Value), i + j = rc → mj_W m_X5_couldOpen (d + 5) 0 0 (fun v h1 => ∃ r, v = some (.int r) ∧ h1 = (n, K, f, g) ∧ r = vCouldN mu ls rs rc) 4 [.ref x, .int (vCouldN mu ls rs i), .int (nI i), v3, v4, v5] [] (n, K, f, g) := by
    intro j
    induction j with
    | zero =>
      intro i v3 v4 v5 hi
      have hi : i = rc := by omega
      subst hi
      refine mj_iload_n (i := 2) (q := 5) dX5_couldOpen_4 rfl rfl rfl ?_
      refine mj_aload_n (i := 0) (q := 6) dX5_couldOpen_5 rfl rfl rfl ?_
      refine mj_getr (q := 9) dX5_couldOpen_6 fl_X5_10 rfl rfl (by assumption) (by assumption) ?_
      refine mj_getfv (q := 12) dX5_couldOpen_9 fl_X5_60 rfl rfl (by assumption) (by assumption) ?_
      refine mj_icmp_ge (tgt := 93) (q := 15) dX5_couldOpen_12 (by decide) rfl (fun c_12 => ?_) (fun c_12 => absurd (Int32.le_refl _) c_12)
      refine mj_iload_n (i := 1) (q := 94) dX5_couldOpen_93 rfl rfl rfl ?_
      exact mj_ireturn dX5_couldOpen_94 ⟨_, rfl, rfl⟩ ⟨_, rfl, ⟨rfl, rfl⟩⟩
    | succ j ih =>
      intro i v3 v4 v5 hi
      have hi2 : i < rc := by omega
      have hg_i : g (m + 6) i = some (m + 7 + 5 * i) := (hLr i (by omega)).1
      have hL_i := (hLr i (by omega)).2
      have kr_i : K (m + 7 + 5 * i) = (2, 2, 0) := hL_i.1
      have gr_i : g (m + 7 + 5 * i) 0 = some ((m + 7 + 5 * i) + 1) := hL_i.2.1
      have ks_i : K ((m + 7 + 5 * i) + 1) = (2, 3, 0) := hL_i.2.2.1
      have hR_i := n7 i (by omega)
      have e15_i : f (m + 7 + 5 * i) 15 = (rs i).2 15 := hR_i.2.1 15 (by omega) (by omega)
      have key1 : (vBarNow mu ls (rs i) == 0 || vBar ls (rs i) 1 (vTell mu (nI i) (rs i)) 1 == 0) = true → mj_W m_X5_couldOpen (d + 5) 0 0 (fun v h1 => ∃ r, v = some (.int r) ∧ h1 = (n, K, f, g) ∧ r = vCouldN mu ls rs rc) 67 [.ref x, .int (vCouldN mu ls rs i), .int (nI i), .ref (m + 7 + 5 * i), .int (vTell mu (nI i) (rs i)), v5] [.int 1] (n, K, f, g) := by
        intro hb
        refine mj_istore (i := 5) (q := 69) dX5_couldOpen_67 rfl (by decide) rfl ?_
        dsimp only [List.set]
        refine mj_aload_n (i := 3) (q := 70) dX5_couldOpen_69 rfl rfl rfl ?_
        refine mj_getfv (q := 73) dX5_couldOpen_70 fl_X5_194 rfl rfl (by assumption) (by assumption) ?_
        refine mj_if_ne (tgt := 87) (q := 76) dX5_couldOpen_73 (by decide) rfl (fun c_73 => ?_) (fun c_73 => ?_)
        · refine mj_iinc (i := 2) (q := 90) dX5_couldOpen_87 rfl rfl (by decide) rfl ?_
          dsimp only [List.set]
          refine mj_goto (q := 4) dX5_couldOpen_90 (by decide) ?_
          rw [show nI i + Int32.ofInt 1 = nI (i + 1) from nI_1 i]
          have e : vCouldN mu ls rs (i + 1) = vCouldN mu ls rs i := by rw [vCouldN]; exact if_neg (fun z => by simp only [vCould, Bool.and_eq_true, beq_iff_eq] at z; exact c_73 z.1)
          rw [← e]
          exact ih (i + 1) _ _ _ (by omega)
        · refine mj_iload (i := 5) (q := 78) dX5_couldOpen_76 rfl rfl ?_
          refine mj_if_eq (tgt := 87) (q := 81) dX5_couldOpen_78 (by decide) rfl (fun c_78 => absurd c_78 (by decide)) (fun c_78 => ?_)
          refine mj_iload_n (i := 1) (q := 82) dX5_couldOpen_81 rfl rfl rfl ?_
          refine mj_num1 (v := 1) (q := 83) rfl dX5_couldOpen_82 rfl ?_
          refine mj_iload_n (i := 2) (q := 84) dX5_couldOpen_83 rfl rfl rfl ?_
          refine mj_ishl (q := 85) dX5_couldOpen_84 rfl ?_
          refine mj_ior (q := 86) dX5_couldOpen_85 rfl ?_
          refine mj_istore_n (i := 1) (q := 87) dX5_couldOpen_86 rfl rfl (by decide) rfl ?_
          dsimp only [List.set]
          refine mj_iinc (i := 2) (q := 90) dX5_couldOpen_87 rfl rfl (by decide) rfl ?_
          dsimp only [List.set]
          refine mj_goto (q := 4) dX5_couldOpen_90 (by decide) ?_
          rw [show nI i + Int32.ofInt 1 = nI (i + 1) from nI_1 i]
          have e : vCouldN mu ls rs (i + 1) = vCouldN mu ls rs i ||| ((1 : Int32) <<< (nI i &&& 31)) := by rw [vCouldN]; exact if_pos (by simp only [vCould, hb, Bool.and_true, beq_iff_eq]; exact c_73)
          rw [← e]
          exact ih (i + 1) _ _ _ (by omega)
      have key0 : (vBarNow mu ls (rs i) == 0 || vBar ls (rs i) 1 (vTell mu (nI i) (rs i)) 1 == 0) = false → mj_W m_X5_couldOpen (d + 5) 0 0 (fun v h1 => ∃ r, v = some (.int r) ∧ h1 = (n, K, f, g) ∧ r = vCouldN mu ls rs rc) 67 [.ref x, .int (vCouldN mu ls rs i), .int (nI i), .ref (m + 7 + 5 * i), .int (vTell mu (nI i) (rs i)), v5] [.int 0] (n, K, f, g) := by
        intro hb
        refine mj_istore (i := 5) (q := 69) dX5_couldOpen_67 rfl (by decide) rfl ?_
        dsimp only [List.set]
        refine mj_aload_n (i := 3) (q := 70) dX5_couldOpen_69 rfl rfl rfl ?_
        refine mj_getfv (q := 73) dX5_couldOpen_70 fl_X5_194 rfl rfl (by assumption) (by assumption) ?_
        refine mj_if_ne (tgt := 87) (q := 76) dX5_couldOpen_73 (by decide) rfl (fun c_73 => ?_) (fun c_73 => ?_)
        · refine mj_iinc (i := 2) (q := 90) dX5_couldOpen_87 rfl rfl (by decide) rfl ?_
          dsimp only [List.set]
          refine mj_goto (q := 4) dX5_couldOpen_90 (by decide) ?_
          rw [show nI i + Int32.ofInt 1 = nI (i + 1) from nI_1 i]
          have e : vCouldN mu ls rs (i + 1) = vCouldN mu ls rs i := by rw [vCouldN]; exact if_neg (fun z => by simp only [vCould, Bool.and_eq_true, beq_iff_eq] at z; exact c_73 z.1)
          rw [← e]
          exact ih (i + 1) _ _ _ (by omega)
        · refine mj_iload (i := 5) (q := 78) dX5_couldOpen_76 rfl rfl ?_
          refine mj_if_eq (tgt := 87) (q := 81) dX5_couldOpen_78 (by decide) rfl (fun c_78 => ?_) (fun c_78 => absurd rfl c_78)
          refine mj_iinc (i := 2) (q := 90) dX5_couldOpen_87 rfl rfl (by decide) rfl ?_
          dsimp only [List.set]
          refine mj_goto (q := 4) dX5_couldOpen_90 (by decide) ?_
          rw [show nI i + Int32.ofInt 1 = nI (i + 1) from nI_1 i]
          have e : vCouldN mu ls rs (i + 1) = vCouldN mu ls rs i := by rw [vCouldN]; exact if_neg (fun z => by simp only [vCould, hb, Bool.and_false] at z; exact absurd z (by simp))
          rw [← e]
          exact ih (i + 1) _ _ _ (by omega)
      refine mj_iload_n (i := 2) (q := 5) dX5_couldOpen_4 rfl rfl rfl ?_
      refine mj_aload_n (i := 0) (q := 6) dX5_couldOpen_5 rfl rfl rfl ?_
      refine mj_getr (q := 9) dX5_couldOpen_6 fl_X5_10 rfl rfl (by assumption) (by assumption) ?_
      refine mj_getfv (q := 12) dX5_couldOpen_9 fl_X5_60 rfl rfl (by assumption) (by assumption) ?_
      refine mj_icmp_ge (tgt := 93) (q := 15) dX5_couldOpen_12 (by decide) rfl (fun c_12 => absurd c_12 (nI_ge (a := i) (b := rc) (by omega) (by omega))) (fun c_12 => ?_)
      refine mj_aload_n (i := 0) (q := 16) dX5_couldOpen_15 rfl rfl rfl ?_
      refine mj_getr (q := 19) dX5_couldOpen_16 fl_X5_10 rfl rfl (by assumption) (by assumption) ?_
      refine mj_getr (q := 22) dX5_couldOpen_19 fl_X5_65 rfl rfl (by assumption) (by assumption) ?_
      refine mj_iload_n (i := 2) (q := 23) dX5_couldOpen_22 rfl rfl rfl ?_
      refine mj_aaldn (q := 24) dX5_couldOpen_23 rfl (by assumption) ⟨by omega, by omega⟩ (by assumption) ?_
      refine mj_astore_n (i := 3) (q := 25) dX5_couldOpen_24 rfl rfl (by decide) rfl ?_
      dsimp only [List.set]
      refine mj_aload_n (i := 0) (q := 26) dX5_couldOpen_25 rfl rfl rfl ?_
      refine mj_getr (q := 29) dX5_couldOpen_26 fl_X5_10 rfl rfl (by assumption) (by assumption) ?_
      refine mj_iload_n (i := 2) (q := 30) dX5_couldOpen_29 rfl rfl rfl ?_
      refine mj_aload_n (i := 3) (q := 31) dX5_couldOpen_30 rfl rfl rfl ?_
      refine mj_cV2i (K := m_X1_wouldTell) (q := 34) dX5_couldOpen_31 ln_X5_153 ok_X1_wouldTell (Nat.le_of_ble_eq_true rfl) (by decide) (by assumption) rfl rfl (s_wouldTell hL2 hN2 (i := i) hi2) (fun r_31 h1 hq => ?_)
      obtain ⟨rfl, rfl⟩ := hq
      dsimp only
      refine mj_istore (i := 4) (q := 36) dX5_couldOpen_34 rfl (by decide) rfl ?_
      dsimp only [List.set]
      refine mj_aload_n (i := 0) (q := 37) dX5_couldOpen_36 rfl rfl rfl ?_
      refine mj_getr (q := 40) dX5_couldOpen_37 fl_X5_10 rfl rfl (by assumption) (by assumption) ?_
      refine mj_aload_n (i := 3) (q := 41) dX5_couldOpen_40 rfl rfl rfl ?_
      refine mj_cV1i (K := m_X1_barNow) (q := 44) dX5_couldOpen_41 ln_X5_191 ok_X1_barNow (Nat.le_of_ble_eq_true rfl) (by decide) (by assumption) rfl rfl (s_barNow hL2 hN2 (i := i) hi2) (fun r_41 h1 hq => ?_)
      obtain ⟨rfl, rfl⟩ := hq
      dsimp only
      refine mj_if_eq (tgt := 62) (q := 47) dX5_couldOpen_44 (by decide) rfl (fun c_44 => ?_) (fun c_44 => ?_)
      · refine mj_num1 (v := 1) (q := 63) rfl dX5_couldOpen_62 rfl ?_
        refine mj_goto (q := 67) dX5_couldOpen_63 (by decide) ?_
        exact key1 (by rw [beq_iff_eq.mpr c_44]; rfl)
      · refine mj_aload_n (i := 0) (q := 48) dX5_couldOpen_47 rfl rfl rfl ?_
        refine mj_getr (q := 51) dX5_couldOpen_48 fl_X5_10 rfl rfl (by assumption) (by assumption) ?_
        refine mj_aload_n (i := 3) (q := 52) dX5_couldOpen_51 rfl rfl rfl ?_
        refine mj_num1 (v := 1) (q := 53) rfl dX5_couldOpen_52 rfl ?_
        refine mj_iload (i := 4) (q := 55) dX5_couldOpen_53 rfl rfl ?_
        refine mj_num1 (v := 1) (q := 56) rfl dX5_couldOpen_55 rfl ?_
        refine mj_cV4i (K := m_X1_bar) (q := 59) dX5_couldOpen_56 ln_X5_286 ok_X1_bar (Nat.le_of_ble_eq_true rfl) (by decide) (by assumption) rfl rfl (s_bar hL2 hN2 (i := i) hi2) (fun r_56 h1 hq => ?_)
        obtain ⟨rfl, rfl⟩ := hq
        dsimp only
        refine mj_if_ne (tgt := 66) (q := 62) dX5_couldOpen_59 (by decide) rfl (fun c_59 => ?_) (fun c_59 => ?_)
        · refine mj_num1 (v := 0) (q := 67) rfl dX5_couldOpen_66 rfl ?_
          exact key0 (by rw [beq_eq_false_iff_ne.mpr c_44, beq_eq_false_iff_ne.mpr c_59]; rfl)
        · refine mj_num1 (v := 1) (q := 63) rfl dX5_couldOpen_62 rfl ?_
          refine mj_goto (q := 67) dX5_couldOpen_63 (by decide) ?_
          exact key1 (by rw [beq_iff_eq.mpr c_59, Bool.or_true])
  refine mj_entry (by refine ⟨by decide +kernel, by decide, rfl, Nat.le_of_ble_eq_true rfl⟩) ?_
  show mj_W _ _ _ _ _ 0 [.ref x, .null, .null, .null, .null, .null] [] _
  refine mj_num1 (v := 0) (q := 1) rfl dX5_couldOpen_0 rfl ?_
  refine mj_istore_n (i := 1) (q := 2) dX5_couldOpen_1 rfl rfl (by decide) rfl ?_
  dsimp only [List.set]
  refine mj_num1 (v := nI 0) (q := 3) (by decide) dX5_couldOpen_2 rfl ?_
  refine mj_istore_n (i := 2) (q := 4) dX5_couldOpen_3 rfl rfl (by decide) rfl ?_
  dsimp only [List.set]
  exact key rc 0 _ _ _ (by omega)
set_option maxHeartbeats 4000000 in
set_option maxRecDepth 100000 in
theorem s_wouldRisk {d x m i hh : Nat} {warmth fall : Int32} {n : Nat} {K : Nat → mj_K} {f : Nat → Nat → Int32} {g : Nat → Nat → Option Nat} {y : mV} (hP : LPn K g x m) (hN : MN f m y) (hi : i < y.2.1) (hh1 : 1 ≤ hh) (hh2 : hh ≤ 48) (hw1 : -20 ≤ warmth) (hw2 : warmth ≤ 20) (hf1 : 0 ≤ fall) (hf2 : fall ≤ 9) : mj_Ci m_X5_wouldRisk (d + 6) [.ref x, .int (nI i), .int (nI hh), .int warmth, .int fall] (n, K, f, g) (fun r h1 => r = vRiskWould y i hh warmth fall ∧ ∃ f1, h1 = (n, K, f1, g) ∧ mj_Fr (m + 47) (m + 142) f f1) := by
  have hP2 := hP
  have hN2 := hN
  obtain ⟨kx, hxm, gx0, gx1, gx2, gx3, hL, hLt, hLb, kw⟩ := hP
  have hL2 := hL
  obtain ⟨km, gm0, gm1, km1, km6, hLl, hLr⟩ := hL
  obtain ⟨lc, rc, mu, ls, rs⟩ := y
  obtain ⟨n1, n2, n3, n4, n5, n6, n7, n8⟩ := hN
  dsimp only at n1 n2 n3 n4 n5 n6 n7 n8
  have b1 : (1 : Int32) ≤ nI hh := nI_le (a := 1) hh1 (by omega)
  have b2 : nI hh ≤ 48 := nI_le (b := 48) hh2 (by omega)
  have hi : i < rc := hi
  have km47 : K (m + 47) = (2, 1, 0) := hLt.1
  have gt1 : g (m + 47) 1 = some (m + 47 + 6) := hLt.2.2.1
  have kt6 : K (m + 47 + 6) = (1, 8, 2) := hLt.2.2.2.2.1
  have gti : g (m + 47 + 6) i = some (m + 47 + 7 + 5 * i) := (hLt.2.2.2.2.2.2 i (by omega)).1
  have kti : K (m + 47 + 7 + 5 * i) = (2, 2, 0) := (hLt.2.2.2.2.2.2 i (by omega)).2.1
  have key : ∀ (j t : Nat) (f1 : Nat → Nat → Int32) (z : mV) (gr : Int32), t + j = hh → z.1 = lc → z.2.1 = rc → MN f1 (m + 47) z → WN f1 (m + 141) (wW warmth fall 0 0 100) → vRiskWould (lc, rc, mu, ls, rs) i hh warmth fall = vWR (wW warmth fall 0 0 100) i j z gr → mj_Fr (m + 47) (m + 142) f f1 → mj_W m_X5_wouldRisk (d + 6) 0 0 (fun v h1 => ∃ r, v = some (.int r) ∧ r = vRiskWould (lc, rc, mu, ls, rs) i hh warmth fall ∧ ∃ f1, h1 = (n, K, f1, g) ∧ mj_Fr (m + 47) (m + 142) f f1) 59 [.ref x, .int (nI i), .int (nI hh), .int warmth, .int fall, .int gr, .int (nI t)] [] (n, K, f1, g) := by
    intro j
    induction j with
    | zero =>
      intro t f1 z gr ht h1 h2 hM hW hv hF
      have ht : t = hh := by omega
      subst ht
      refine mj_iload (i := 6) (q := 61) dX5_wouldRisk_59 rfl rfl ?_
      refine mj_iload_n (i := 2) (q := 62) dX5_wouldRisk_61 rfl rfl rfl ?_
      refine mj_icmp_ge (tgt := 101) (q := 65) dX5_wouldRisk_62 (by decide) rfl (fun c_62 => ?_) (fun c_62 => absurd (Int32.le_refl _) c_62)
      refine mj_iload (i := 5) (q := 103) dX5_wouldRisk_101 rfl rfl ?_
      exact mj_ireturn dX5_wouldRisk_103 ⟨_, rfl, rfl⟩ ⟨_, rfl, hv.symm, _, rfl, hF⟩
    | succ j ih =>
      intro t f1 z gr ht h1 h2 hM hW hv hF
      have hz := vHour_cnt (wW warmth fall 0 0 100) z
      refine mj_iload (i := 6) (q := 61) dX5_wouldRisk_59 rfl rfl ?_
      refine mj_iload_n (i := 2) (q := 62) dX5_wouldRisk_61 rfl rfl rfl ?_
      refine mj_icmp_ge (tgt := 101) (q := 65) dX5_wouldRisk_62 (by decide) rfl (fun c_62 => absurd c_62 (nI_ge (a := t) (b := hh) (by omega) (by omega))) (fun c_62 => ?_)
      refine mj_aload_n (i := 0) (q := 66) dX5_wouldRisk_65 rfl rfl rfl ?_
      refine mj_getr (q := 69) dX5_wouldRisk_66 fl_X5_16 rfl rfl (by assumption) (by assumption) ?_
      refine mj_aload_n (i := 0) (q := 70) dX5_wouldRisk_69 rfl rfl rfl ?_
      refine mj_getr (q := 73) dX5_wouldRisk_70 fl_X5_25 rfl rfl (by assumption) (by assumption) ?_
      refine mj_cV1v (K := m_X1_passHour) (q := 76) dX5_wouldRisk_73 ln_X5_128 ok_X1_passHour (Nat.le_of_ble_eq_true rfl) (by decide) (by assumption) rfl rfl (s_passHour hLt hM kw hW (by omega)) (fun h1 hq => ?_)
      obtain ⟨f2, rfl, hM2, hF2⟩ := hq
      have e14 : f2 (m + 47 + 7 + 5 * i) 14 = ((vHour (wW warmth fall 0 0 100) z).2.2.2.2 i).2 14 := (hM2.2.2.2.2.2.2.1 i (by rw [hz.2, h2]; exact hi)).2.1 14 (by omega) (by omega)
      refine mj_iload (i := 5) (q := 78) dX5_wouldRisk_76 rfl rfl ?_
      refine mj_aload_n (i := 0) (q := 79) dX5_wouldRisk_78 rfl rfl rfl ?_
      refine mj_getr (q := 82) dX5_wouldRisk_79 fl_X5_16 rfl rfl (by assumption) (by assumption) ?_
      refine mj_getr (q := 85) dX5_wouldRisk_82 fl_X5_65 rfl rfl (by assumption) (by assumption) ?_
      refine mj_iload_n (i := 1) (q := 86) dX5_wouldRisk_85 rfl rfl rfl ?_
      refine mj_aaldn (q := 87) dX5_wouldRisk_86 rfl (by assumption) ⟨by omega, by omega⟩ (by assumption) ?_
      refine mj_getfv (q := 90) dX5_wouldRisk_87 fl_X5_274 rfl rfl (by assumption) (by assumption) ?_
      refine mj_mmax (q := 93) dX5_wouldRisk_90 ln_X5_277 (Nat.le_of_ble_eq_true rfl) rfl ?_
      refine mj_top (y := vMax gr (((vHour (wW warmth fall 0 0 100) z).2.2.2.2 i).2 14)) rfl ?_
      refine mj_istore (i := 5) (q := 95) dX5_wouldRisk_93 rfl (by decide) rfl ?_
      dsimp only [List.set]
      refine mj_iinc (i := 6) (q := 98) dX5_wouldRisk_95 rfl rfl (by decide) rfl ?_
      dsimp only [List.set]
      refine mj_goto (q := 59) dX5_wouldRisk_98 (by decide) ?_
      rw [show nI t + Int32.ofInt 1 = nI (t + 1) from nI_1 t]
      exact ih (t + 1) f2 _ _ (by omega) (hz.1.trans h1) (hz.2.trans h2) hM2 (hW.keep hF2 (by omega)) hv (hF.tr (hF2.wide (by omega) (by omega)))
  refine mj_entry (by refine ⟨by decide +kernel, by decide, rfl, Nat.le_of_ble_eq_true rfl⟩) ?_
  show mj_W _ _ _ _ _ 0 [.ref x, .int (nI i), .int (nI hh), .int warmth, .int fall, .null, .null] [] _
  refine mj_aload_n (i := 0) (q := 1) dX5_wouldRisk_0 rfl rfl rfl ?_
  refine mj_iload_n (i := 1) (q := 2) dX5_wouldRisk_1 rfl rfl rfl ?_
  refine mj_cV1v (K := m_X5_requireRun) (q := 5) dX5_wouldRisk_2 ln_X5_98 ok_X5_requireRun (Nat.le_of_ble_eq_true rfl) (by decide) (by assumption) rfl rfl (s_reqRun hP2 hN2 hi) (fun h1 hq => ?_)
  obtain rfl := hq
  refine mj_iload_n (i := 2) (q := 6) dX5_wouldRisk_5 rfl rfl rfl ?_
  refine mj_num1 (v := 1) (q := 7) rfl dX5_wouldRisk_6 rfl ?_
  refine mj_num2 (v := 48) (q := 9) (by decide) dX5_wouldRisk_7 rfl ?_
  refine mj_cS3v (K := m_X5_requireWithin) (q := 12) dX5_wouldRisk_9 ln_X5_29 ok_X5_requireWithin (Nat.le_of_ble_eq_true rfl) (by decide) rfl (s_within (by assumption) (by assumption)) (fun h1 hq => ?_)
  obtain rfl := hq
  refine mj_iload_n (i := 3) (q := 13) dX5_wouldRisk_12 rfl rfl rfl ?_
  refine mj_num2 (v := (-20)) (q := 15) (by decide) dX5_wouldRisk_13 rfl ?_
  refine mj_num2 (v := 20) (q := 17) (by decide) dX5_wouldRisk_15 rfl ?_
  refine mj_cS3v (K := m_X5_requireWithin) (q := 20) dX5_wouldRisk_17 ln_X5_29 ok_X5_requireWithin (Nat.le_of_ble_eq_true rfl) (by decide) rfl (s_within (by assumption) (by assumption)) (fun h1 hq => ?_)
  obtain rfl := hq
  refine mj_iload (i := 4) (q := 22) dX5_wouldRisk_20 rfl rfl ?_
  refine mj_num1 (v := 0) (q := 23) rfl dX5_wouldRisk_22 rfl ?_
  refine mj_num2 (v := 9) (q := 25) (by decide) dX5_wouldRisk_23 rfl ?_
  refine mj_cS3v (K := m_X5_requireWithin) (q := 28) dX5_wouldRisk_25 ln_X5_29 ok_X5_requireWithin (Nat.le_of_ble_eq_true rfl) (by decide) rfl (s_within (by assumption) (by assumption)) (fun h1 hq => ?_)
  obtain rfl := hq
  refine mj_aload_n (i := 0) (q := 29) dX5_wouldRisk_28 rfl rfl rfl ?_
  refine mj_getr (q := 32) dX5_wouldRisk_29 fl_X5_25 rfl rfl (by assumption) (by assumption) ?_
  refine mj_iload_n (i := 3) (q := 33) dX5_wouldRisk_32 rfl rfl rfl ?_
  refine mj_iload (i := 4) (q := 35) dX5_wouldRisk_33 rfl rfl ?_
  refine mj_num1 (v := 0) (q := 36) rfl dX5_wouldRisk_35 rfl ?_
  refine mj_num1 (v := 0) (q := 37) rfl dX5_wouldRisk_36 rfl ?_
  refine mj_num2 (v := 100) (q := 39) (by decide) dX5_wouldRisk_37 rfl ?_
  refine mj_cV5v (K := m_X4_tell) (q := 42) dX5_wouldRisk_39 ln_X5_124 ok_X4_tell (Nat.le_of_ble_eq_true rfl) (by decide) (by assumption) rfl rfl (s_tell kw) (fun h1 hq => ?_)
  obtain ⟨f1, rfl, hW1, hF1⟩ := hq
  have hW2 : WN f1 (m + 141) (wW warmth fall 0 0 100) := hW1 _ rfl rfl rfl rfl rfl
  have hM1 := hN2.keep hF1 (by omega)
  refine mj_aload_n (i := 0) (q := 43) dX5_wouldRisk_42 rfl rfl rfl ?_
  refine mj_getr (q := 46) dX5_wouldRisk_43 fl_X5_16 rfl rfl (by assumption) (by assumption) ?_
  refine mj_aload_n (i := 0) (q := 47) dX5_wouldRisk_46 rfl rfl rfl ?_
  refine mj_getr (q := 50) dX5_wouldRisk_47 fl_X5_10 rfl rfl (by assumption) (by assumption) ?_
  refine mj_cV1v (K := m_X1_become) (q := 53) dX5_wouldRisk_50 ln_X5_270 ok_X1_become (Nat.le_of_ble_eq_true rfl) (by decide) (by assumption) rfl rfl (s_become hL2 hLt (by omega) hM1) (fun h1 hq => ?_)
  obtain ⟨f2, rfl, hM2, hF2⟩ := hq
  refine mj_num1 (v := 0) (q := 54) rfl dX5_wouldRisk_53 rfl ?_
  refine mj_istore (i := 5) (q := 56) dX5_wouldRisk_54 rfl (by decide) rfl ?_
  dsimp only [List.set]
  refine mj_num1 (v := nI 0) (q := 57) (by decide) dX5_wouldRisk_56 rfl ?_
  refine mj_istore (i := 6) (q := 59) dX5_wouldRisk_57 rfl (by decide) rfl ?_
  dsimp only [List.set]
  exact key hh 0 f2 _ 0 (by omega) rfl rfl hM2 (hW2.keep hF2 (by omega)) rfl ((hF1.wide (by omega) (by omega)).tr (hF2.wide (by omega) (by omega)))
