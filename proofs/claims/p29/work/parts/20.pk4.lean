/-! PISTEKEEPER: the digest -/
set_option maxHeartbeats 4000000 in
set_option maxRecDepth 100000 in
theorem s_digest {d x m : Nat} {n : Nat} {K : Nat → mj_K} {f : Nat → Nat → Int32} {g : Nat → Nat → Option Nat} {y : mV} (hP : LPn K g x m) (hN : MN f m y) : mj_Cl m_X5_digest (d + 7) [.ref x] (n, K, f, g) (fun r h1 => r = vDigest y ∧ ∃ f1, h1 = (n, K, f1, g) ∧ mj_Fr (m + 47) (m + 142) f f1) := by
  have hP2 := hP
  have hN2 := hN
  obtain ⟨kx, hxm, gx0, gx1, gx2, gx3, hL, hLt, hLb, kw⟩ := hP
  have hL2 := hL
  obtain ⟨km, gm0, gm1, km1, km6, hLl, hLr⟩ := hL
  obtain ⟨lc, rc, mu, ls, rs⟩ := y
  obtain ⟨n1, n2, n3, n4, n5, n6, n7, n8⟩ := hN
  dsimp only at n1 n2 n3 n4 n5 n6 n7 n8
  have linner : ∀ (j w i : Nat) (f1 : Nat → Nat → Int32) (acc : Int64), MN f1 m (lc, rc, mu, ls, rs) → w + j = 6 → i < lc → (mj_W m_X5_digest (d + 7) 0 0 (fun v h1 => ∃ r, v = some (.long r) ∧ r = vDigest (lc, rc, mu, ls, rs) ∧ ∃ f1, h1 = (n, K, f1, g) ∧ mj_Fr (m + 47) (m + 142) f f1) 168 [.ref x, .long (vFoldN (vOfLift (lc, rc, mu, ls, rs) i) 6 acc), .null, .int (nI i), .int (nI 6)] [] (n, K, f1, g)) → mj_W m_X5_digest (d + 7) 0 0 (fun v h1 => ∃ r, v = some (.long r) ∧ r = vDigest (lc, rc, mu, ls, rs) ∧ ∃ f1, h1 = (n, K, f1, g) ∧ mj_Fr (m + 47) (m + 142) f f1) 141 [.ref x, .long (vFoldN (vOfLift (lc, rc, mu, ls, rs) i) w acc), .null, .int (nI i), .int (nI w)] [] (n, K, f1, g) := by
    intro j
    induction j with
    | zero =>
      intro w i f1 acc hM hw hi hk
      have hw : w = 6 := by omega
      subst hw
      refine mj_iload (i := 4) (q := 143) dX5_digest_141 rfl rfl ?_
      refine mj_num1 (v := 5) (q := 144) rfl dX5_digest_143 rfl ?_
      refine mj_icmp_gt (tgt := 168) (q := 147) dX5_digest_144 (by decide) rfl (fun c_144 => ?_) (fun c_144 => absurd (by decide : (5 : Int32) < nI 6) c_144)
      exact hk
    | succ j ih =>
      intro w i f1 acc hM hw hi hk
      refine mj_iload (i := 4) (q := 143) dX5_digest_141 rfl rfl ?_
      refine mj_num1 (v := 5) (q := 144) rfl dX5_digest_143 rfl ?_
      refine mj_icmp_gt (tgt := 168) (q := 147) dX5_digest_144 (by decide) rfl (fun c_144 => absurd c_144 (Int32.not_lt.mpr (nI_le (a := w) (b := 5) (by omega) (by omega)))) (fun c_144 => ?_)
      refine mj_lload_n (i := 1) (q := 148) dX5_digest_147 rfl rfl rfl ?_
      refine mj_ldc2 (q := 151) dX5_digest_148 ct_X5_292 rfl ?_
      refine mj_lmul (q := 152) dX5_digest_151 rfl ?_
      refine mj_aload_n (i := 0) (q := 153) dX5_digest_152 rfl rfl rfl ?_
      refine mj_iload_n (i := 3) (q := 154) dX5_digest_153 rfl rfl rfl ?_
      refine mj_iload (i := 4) (q := 156) dX5_digest_154 rfl rfl ?_
      refine mj_cV2i (K := m_X5_ofLift) (q := 159) dX5_digest_156 ln_X5_311 ok_X5_ofLift (Nat.le_of_ble_eq_true rfl) (by decide) (by assumption) rfl rfl (s_ofLift hP2 hM hi (by omega)) (fun r_156 h1 hq => ?_)
      obtain ⟨rfl, rfl⟩ := hq
      refine mj_i2l (q := 160) dX5_digest_159 rfl ?_
      refine mj_ladd (q := 161) dX5_digest_160 rfl ?_
      refine mj_lstore_n (i := 1) (q := 162) dX5_digest_161 rfl rfl (by decide) rfl ?_
      dsimp only [List.set]
      refine mj_iinc (i := 4) (q := 165) dX5_digest_162 rfl rfl (by decide) rfl ?_
      dsimp only [List.set]
      refine mj_goto (q := 141) dX5_digest_165 (by decide) ?_
      rw [show nI w + Int32.ofInt 1 = nI (w + 1) from nI_1 w]
      exact ih (w + 1) i f1 acc hM (by omega) hi hk
  have louter : ∀ (j i : Nat) (f1 : Nat → Nat → Int32) (v4 : Value), MN f1 m (lc, rc, mu, ls, rs) → mj_Fr (m + 47) (m + 142) f f1 → i + j = lc → mj_W m_X5_digest (d + 7) 0 0 (fun v h1 => ∃ r, v = some (.long r) ∧ r = vDigest (lc, rc, mu, ls, rs) ∧ ∃ f1, h1 = (n, K, f1, g) ∧ mj_Fr (m + 47) (m + 142) f f1) 127 [.ref x, .long (vLiftsN (lc, rc, mu, ls, rs) i (vRunsN (lc, rc, mu, ls, rs) rc (vFoldN (vMany (lc, rc, mu, ls, rs)) 15 58212))), .null, .int (nI i), v4] [] (n, K, f1, g) := by
    intro j
    induction j with
    | zero =>
      intro i f1 v4 hM hF hi
      have hi : i = lc := by omega
      subst hi
      have o3 : f1 m 2 = nI i := hM.2.2.1
      refine mj_iload_n (i := 3) (q := 128) dX5_digest_127 rfl rfl rfl ?_
      refine mj_aload_n (i := 0) (q := 129) dX5_digest_128 rfl rfl rfl ?_
      refine mj_getr (q := 132) dX5_digest_129 fl_X5_10 rfl rfl (by assumption) (by assumption) ?_
      refine mj_getfv (q := 135) dX5_digest_132 fl_X5_33 rfl rfl (by assumption) (by assumption) ?_
      refine mj_icmp_ge (tgt := 174) (q := 138) dX5_digest_135 (by decide) rfl (fun c_135 => ?_) (fun c_135 => absurd (Int32.le_refl _) c_135)
      refine mj_lload_n (i := 1) (q := 175) dX5_digest_174 rfl rfl rfl ?_
      refine mj_ldc2 (q := 178) dX5_digest_175 ct_X5_292 rfl ?_
      refine mj_lmul (q := 179) dX5_digest_178 rfl ?_
      refine mj_aload_n (i := 0) (q := 180) dX5_digest_179 rfl rfl rfl ?_
      refine mj_cV0i (K := m_X5_nextBlast) (q := 183) dX5_digest_180 ln_X5_314 ok_X5_nextBlast (Nat.le_of_ble_eq_true rfl) (by decide) (by assumption) rfl rfl (s_nextBlast hP2 hM) (fun r_180 h1 hq => ?_)
      obtain ⟨rfl, rfl⟩ := hq
      refine mj_i2l (q := 184) dX5_digest_183 rfl ?_
      refine mj_ladd (q := 185) dX5_digest_184 rfl ?_
      refine mj_lstore_n (i := 1) (q := 186) dX5_digest_185 rfl rfl (by decide) rfl ?_
      dsimp only [List.set]
      refine mj_lload_n (i := 1) (q := 187) dX5_digest_186 rfl rfl rfl ?_
      refine mj_ldc2 (q := 190) dX5_digest_187 ct_X5_292 rfl ?_
      refine mj_lmul (q := 191) dX5_digest_190 rfl ?_
      refine mj_aload_n (i := 0) (q := 192) dX5_digest_191 rfl rfl rfl ?_
      refine mj_cV0i (K := m_X5_couldOpen) (q := 195) dX5_digest_192 ln_X5_317 ok_X5_couldOpen (Nat.le_of_ble_eq_true rfl) (by decide) (by assumption) rfl rfl (s_couldOpen hP2 hM) (fun r_192 h1 hq => ?_)
      obtain ⟨rfl, rfl⟩ := hq
      refine mj_i2l (q := 196) dX5_digest_195 rfl ?_
      refine mj_ladd (q := 197) dX5_digest_196 rfl ?_
      exact mj_lreturn dX5_digest_197 rfl ⟨_, rfl, rfl, _, rfl, hF⟩
    | succ j ih =>
      intro i f1 v4 hM hF hi
      have o3 : f1 m 2 = nI lc := hM.2.2.1
      refine mj_iload_n (i := 3) (q := 128) dX5_digest_127 rfl rfl rfl ?_
      refine mj_aload_n (i := 0) (q := 129) dX5_digest_128 rfl rfl rfl ?_
      refine mj_getr (q := 132) dX5_digest_129 fl_X5_10 rfl rfl (by assumption) (by assumption) ?_
      refine mj_getfv (q := 135) dX5_digest_132 fl_X5_33 rfl rfl (by assumption) (by assumption) ?_
      refine mj_icmp_ge (tgt := 174) (q := 138) dX5_digest_135 (by decide) rfl (fun c_135 => absurd c_135 (nI_ge (a := i) (b := lc) (by omega) (by omega))) (fun c_135 => ?_)
      refine mj_num1 (v := nI 0) (q := 139) (by decide) dX5_digest_138 rfl ?_
      refine mj_istore (i := 4) (q := 141) dX5_digest_139 rfl (by decide) rfl ?_
      dsimp only [List.set]
      refine linner 6 0 i f1 (vLiftsN (lc, rc, mu, ls, rs) i (vRunsN (lc, rc, mu, ls, rs) rc (vFoldN (vMany (lc, rc, mu, ls, rs)) 15 58212))) hM (by omega) (by omega) ?_
      refine mj_iinc (i := 3) (q := 171) dX5_digest_168 rfl rfl (by decide) rfl ?_
      dsimp only [List.set]
      refine mj_goto (q := 127) dX5_digest_171 (by decide) ?_
      rw [show nI i + Int32.ofInt 1 = nI (i + 1) from nI_1 i]
      exact ih (i + 1) f1 _ hM hF (by omega)
  have rinner : ∀ (j w i : Nat) (f1 : Nat → Nat → Int32) (acc : Int64), MN f1 m (lc, rc, mu, ls, rs) → w + j = 14 → i < rc → (mj_W m_X5_digest (d + 7) 0 0 (fun v h1 => ∃ r, v = some (.long r) ∧ r = vDigest (lc, rc, mu, ls, rs) ∧ ∃ f1, h1 = (n, K, f1, g) ∧ mj_Fr (m + 47) (m + 142) f f1) 75 [.ref x, .long (vFoldN (vOfRun (lc, rc, mu, ls, rs) i) 14 acc), .null, .int (nI i), .int (nI 14)] [] (n, K, f1, g)) → mj_W m_X5_digest (d + 7) 0 0 (fun v h1 => ∃ r, v = some (.long r) ∧ r = vDigest (lc, rc, mu, ls, rs) ∧ ∃ f1, h1 = (n, K, f1, g) ∧ mj_Fr (m + 47) (m + 142) f f1) 47 [.ref x, .long (vFoldN (vOfRun (lc, rc, mu, ls, rs) i) w acc), .null, .int (nI i), .int (nI w)] [] (n, K, f1, g) := by
    intro j
    induction j with
    | zero =>
      intro w i f1 acc hM hw hi hk
      have hw : w = 14 := by omega
      subst hw
      refine mj_iload (i := 4) (q := 49) dX5_digest_47 rfl rfl ?_
      refine mj_num2 (v := 13) (q := 51) (by decide) dX5_digest_49 rfl ?_
      refine mj_icmp_gt (tgt := 75) (q := 54) dX5_digest_51 (by decide) rfl (fun c_51 => ?_) (fun c_51 => absurd (by decide : (13 : Int32) < nI 14) c_51)
      exact hk
    | succ j ih =>
      intro w i f1 acc hM hw hi hk
      refine mj_iload (i := 4) (q := 49) dX5_digest_47 rfl rfl ?_
      refine mj_num2 (v := 13) (q := 51) (by decide) dX5_digest_49 rfl ?_
      refine mj_icmp_gt (tgt := 75) (q := 54) dX5_digest_51 (by decide) rfl (fun c_51 => absurd c_51 (Int32.not_lt.mpr (nI_le (a := w) (b := 13) (by omega) (by omega)))) (fun c_51 => ?_)
      refine mj_lload_n (i := 1) (q := 55) dX5_digest_54 rfl rfl rfl ?_
      refine mj_ldc2 (q := 58) dX5_digest_55 ct_X5_292 rfl ?_
      refine mj_lmul (q := 59) dX5_digest_58 rfl ?_
      refine mj_aload_n (i := 0) (q := 60) dX5_digest_59 rfl rfl rfl ?_
      refine mj_iload_n (i := 3) (q := 61) dX5_digest_60 rfl rfl rfl ?_
      refine mj_iload (i := 4) (q := 63) dX5_digest_61 rfl rfl ?_
      refine mj_cV2i (K := m_X5_ofRun) (q := 66) dX5_digest_63 ln_X5_297 ok_X5_ofRun (Nat.le_of_ble_eq_true rfl) (by decide) (by assumption) rfl rfl (s_ofRun hP2 hM hi (by omega)) (fun r_63 h1 hq => ?_)
      obtain ⟨rfl, rfl⟩ := hq
      refine mj_i2l (q := 67) dX5_digest_66 rfl ?_
      refine mj_ladd (q := 68) dX5_digest_67 rfl ?_
      refine mj_lstore_n (i := 1) (q := 69) dX5_digest_68 rfl rfl (by decide) rfl ?_
      dsimp only [List.set]
      refine mj_iinc (i := 4) (q := 72) dX5_digest_69 rfl rfl (by decide) rfl ?_
      dsimp only [List.set]
      refine mj_goto (q := 47) dX5_digest_72 (by decide) ?_
      rw [show nI w + Int32.ofInt 1 = nI (w + 1) from nI_1 w]
      exact ih (w + 1) i f1 acc hM (by omega) hi hk
  have router : ∀ (j i : Nat) (f1 : Nat → Nat → Int32) (v4 : Value), MN f1 m (lc, rc, mu, ls, rs) → mj_Fr (m + 47) (m + 142) f f1 → i + j = rc → mj_W m_X5_digest (d + 7) 0 0 (fun v h1 => ∃ r, v = some (.long r) ∧ r = vDigest (lc, rc, mu, ls, rs) ∧ ∃ f1, h1 = (n, K, f1, g) ∧ mj_Fr (m + 47) (m + 142) f f1) 33 [.ref x, .long (vRunsN (lc, rc, mu, ls, rs) i (vFoldN (vMany (lc, rc, mu, ls, rs)) 15 58212)), .null, .int (nI i), v4] [] (n, K, f1, g) := by
    intro j
    induction j with
    | zero =>
      intro i f1 v4 hM hF hi
      have hi : i = rc := by omega
      subst hi
      have o4 : f1 m 3 = nI i := hM.2.2.2.1
      refine mj_iload_n (i := 3) (q := 34) dX5_digest_33 rfl rfl rfl ?_
      refine mj_aload_n (i := 0) (q := 35) dX5_digest_34 rfl rfl rfl ?_
      refine mj_getr (q := 38) dX5_digest_35 fl_X5_10 rfl rfl (by assumption) (by assumption) ?_
      refine mj_getfv (q := 41) dX5_digest_38 fl_X5_60 rfl rfl (by assumption) (by assumption) ?_
      refine mj_icmp_ge (tgt := 125) (q := 44) dX5_digest_41 (by decide) rfl (fun c_41 => ?_) (fun c_41 => absurd (Int32.le_refl _) c_41)
      refine mj_num1 (v := nI 0) (q := 126) (by decide) dX5_digest_125 rfl ?_
      refine mj_istore_n (i := 3) (q := 127) dX5_digest_126 rfl rfl (by decide) rfl ?_
      dsimp only [List.set]
      exact louter lc 0 f1 _ hM hF (by omega)
    | succ j ih =>
      intro i f1 v4 hM hF hi
      have hi2 : i < rc := by omega
      have o4 : f1 m 3 = nI rc := hM.2.2.2.1
      refine mj_iload_n (i := 3) (q := 34) dX5_digest_33 rfl rfl rfl ?_
      refine mj_aload_n (i := 0) (q := 35) dX5_digest_34 rfl rfl rfl ?_
      refine mj_getr (q := 38) dX5_digest_35 fl_X5_10 rfl rfl (by assumption) (by assumption) ?_
      refine mj_getfv (q := 41) dX5_digest_38 fl_X5_60 rfl rfl (by assumption) (by assumption) ?_
      refine mj_icmp_ge (tgt := 125) (q := 44) dX5_digest_41 (by decide) rfl (fun c_41 => absurd c_41 (nI_ge (a := i) (b := rc) (by omega) (by omega))) (fun c_41 => ?_)
      refine mj_num1 (v := nI 0) (q := 45) (by decide) dX5_digest_44 rfl ?_
      refine mj_istore (i := 4) (q := 47) dX5_digest_45 rfl (by decide) rfl ?_
      dsimp only [List.set]
      refine rinner 14 0 i f1 (vRunsN (lc, rc, mu, ls, rs) i (vFoldN (vMany (lc, rc, mu, ls, rs)) 15 58212)) hM (by omega) (by omega) ?_
      refine mj_aload_n (i := 0) (q := 76) dX5_digest_75 rfl rfl rfl ?_
      refine mj_lload_n (i := 1) (q := 77) dX5_digest_76 rfl rfl rfl ?_
      refine mj_iload_n (i := 3) (q := 78) dX5_digest_77 rfl rfl rfl ?_
      refine mj_cV2l (K := m_X5_digestLayers) (q := 81) dX5_digest_78 ln_X5_300 ok_X5_digestLayers (Nat.le_of_ble_eq_true rfl) (by decide) (by assumption) rfl rfl (s_digestLayers hP2 hM hi2) (fun r_78 h1 hq => ?_)
      obtain ⟨rfl, rfl⟩ := hq
      refine mj_lstore_n (i := 1) (q := 82) dX5_digest_81 rfl rfl (by decide) rfl ?_
      dsimp only [List.set]
      refine mj_lload_n (i := 1) (q := 83) dX5_digest_82 rfl rfl rfl ?_
      refine mj_ldc2 (q := 86) dX5_digest_83 ct_X5_292 rfl ?_
      refine mj_lmul (q := 87) dX5_digest_86 rfl ?_
      refine mj_aload_n (i := 0) (q := 88) dX5_digest_87 rfl rfl rfl ?_
      refine mj_iload_n (i := 3) (q := 89) dX5_digest_88 rfl rfl rfl ?_
      refine mj_num2 (v := nI 12) (q := 91) (by decide) dX5_digest_89 rfl ?_
      refine mj_num2 (v := (-6)) (q := 93) (by decide) dX5_digest_91 rfl ?_
      refine mj_num1 (v := 3) (q := 94) rfl dX5_digest_93 rfl ?_
      refine mj_cV4i (K := m_X5_wouldRisk) (q := 97) dX5_digest_94 ln_X5_304 ok_X5_wouldRisk (Nat.le_of_ble_eq_true rfl) (by decide) (by assumption) rfl rfl (s_wouldRisk hP2 hM hi2 (by decide) (by decide) (by decide) (by decide) (by decide) (by decide)) (fun r_94 h1 hq => ?_)
      obtain ⟨rfl, f2, rfl, hF2⟩ := hq
      have hM2 := hM.keep hF2 (by omega)
      refine mj_i2l (q := 98) dX5_digest_97 rfl ?_
      refine mj_ladd (q := 99) dX5_digest_98 rfl ?_
      refine mj_lstore_n (i := 1) (q := 100) dX5_digest_99 rfl rfl (by decide) rfl ?_
      dsimp only [List.set]
      refine mj_lload_n (i := 1) (q := 101) dX5_digest_100 rfl rfl rfl ?_
      refine mj_ldc2 (q := 104) dX5_digest_101 ct_X5_292 rfl ?_
      refine mj_lmul (q := 105) dX5_digest_104 rfl ?_
      refine mj_aload_n (i := 0) (q := 106) dX5_digest_105 rfl rfl rfl ?_
      refine mj_iload_n (i := 3) (q := 107) dX5_digest_106 rfl rfl rfl ?_
      refine mj_num2 (v := nI 9) (q := 109) (by decide) dX5_digest_107 rfl ?_
      refine mj_num2 (v := (-9)) (q := 111) (by decide) dX5_digest_109 rfl ?_
      refine mj_num2 (v := 60) (q := 113) (by decide) dX5_digest_111 rfl ?_
      refine mj_cV4i (K := m_X5_wouldMake) (q := 116) dX5_digest_113 ln_X5_308 ok_X5_wouldMake (Nat.le_of_ble_eq_true rfl) (by decide) (by assumption) rfl rfl (s_wouldMake hP2 hM2 hi2 (by decide) (by decide) (by decide) (by decide) (by decide) (by decide)) (fun r_113 h1 hq => ?_)
      obtain ⟨rfl, f3, rfl, hF3⟩ := hq
      have hM3 := hM2.keep hF3 (by omega)
      refine mj_i2l (q := 117) dX5_digest_116 rfl ?_
      refine mj_ladd (q := 118) dX5_digest_117 rfl ?_
      refine mj_lstore_n (i := 1) (q := 119) dX5_digest_118 rfl rfl (by decide) rfl ?_
      dsimp only [List.set]
      refine mj_iinc (i := 3) (q := 122) dX5_digest_119 rfl rfl (by decide) rfl ?_
      dsimp only [List.set]
      refine mj_goto (q := 33) dX5_digest_122 (by decide) ?_
      rw [show nI i + Int32.ofInt 1 = nI (i + 1) from nI_1 i]
      exact ih (i + 1) f3 _ hM3 ((hF.tr hF2).tr hF3) (by omega)
  have minner : ∀ (j w : Nat) (v4 : Value), w + j = 15 → mj_W m_X5_digest (d + 7) 0 0 (fun v h1 => ∃ r, v = some (.long r) ∧ r = vDigest (lc, rc, mu, ls, rs) ∧ ∃ f1, h1 = (n, K, f1, g) ∧ mj_Fr (m + 47) (m + 142) f f1) 6 [.ref x, .long (vFoldN (vMany (lc, rc, mu, ls, rs)) w 58212), .null, .int (nI w), v4] [] (n, K, f, g) := by
    intro j
    induction j with
    | zero =>
      intro w v4 hw
      have hw : w = 15 := by omega
      subst hw
      refine mj_iload_n (i := 3) (q := 7) dX5_digest_6 rfl rfl rfl ?_
      refine mj_num2 (v := 14) (q := 9) (by decide) dX5_digest_7 rfl ?_
      refine mj_icmp_gt (tgt := 31) (q := 12) dX5_digest_9 (by decide) rfl (fun c_9 => ?_) (fun c_9 => absurd (by decide : (14 : Int32) < nI 15) c_9)
      refine mj_num1 (v := nI 0) (q := 32) (by decide) dX5_digest_31 rfl ?_
      refine mj_istore_n (i := 3) (q := 33) dX5_digest_32 rfl rfl (by decide) rfl ?_
      dsimp only [List.set]
      exact router rc 0 f _ hN2 mj_Fr.rf (by omega)
    | succ j ih =>
      intro w v4 hw
      refine mj_iload_n (i := 3) (q := 7) dX5_digest_6 rfl rfl rfl ?_
      refine mj_num2 (v := 14) (q := 9) (by decide) dX5_digest_7 rfl ?_
      refine mj_icmp_gt (tgt := 31) (q := 12) dX5_digest_9 (by decide) rfl (fun c_9 => absurd c_9 (Int32.not_lt.mpr (nI_le (a := w) (b := 14) (by omega) (by omega)))) (fun c_9 => ?_)
      refine mj_lload_n (i := 1) (q := 13) dX5_digest_12 rfl rfl rfl ?_
      refine mj_ldc2 (q := 16) dX5_digest_13 ct_X5_292 rfl ?_
      refine mj_lmul (q := 17) dX5_digest_16 rfl ?_
      refine mj_aload_n (i := 0) (q := 18) dX5_digest_17 rfl rfl rfl ?_
      refine mj_iload_n (i := 3) (q := 19) dX5_digest_18 rfl rfl rfl ?_
      refine mj_cV1i (K := m_X5_many) (q := 22) dX5_digest_19 ln_X5_294 ok_X5_many (Nat.le_of_ble_eq_true rfl) (by decide) (by assumption) rfl rfl (s_many hP2 hN2 (by omega)) (fun r_19 h1 hq => ?_)
      obtain ⟨rfl, rfl⟩ := hq
      refine mj_i2l (q := 23) dX5_digest_22 rfl ?_
      refine mj_ladd (q := 24) dX5_digest_23 rfl ?_
      refine mj_lstore_n (i := 1) (q := 25) dX5_digest_24 rfl rfl (by decide) rfl ?_
      dsimp only [List.set]
      refine mj_iinc (i := 3) (q := 28) dX5_digest_25 rfl rfl (by decide) rfl ?_
      dsimp only [List.set]
      refine mj_goto (q := 6) dX5_digest_28 (by decide) ?_
      rw [show nI w + Int32.ofInt 1 = nI (w + 1) from nI_1 w]
      exact ih (w + 1) _ (by omega)
  refine mj_entry (by refine ⟨by decide +kernel, by decide, rfl, Nat.le_of_ble_eq_true rfl⟩) ?_
  show mj_W _ _ _ _ _ 0 [.ref x, .null, .null, .null, .null] [] _
  refine mj_ldc2 (q := 3) dX5_digest_0 ct_X5_290 rfl ?_
  refine mj_lstore_n (i := 1) (q := 4) dX5_digest_3 rfl rfl (by decide) rfl ?_
  dsimp only [List.set]
  refine mj_num1 (v := nI 0) (q := 5) (by decide) dX5_digest_4 rfl ?_
  refine mj_istore_n (i := 3) (q := 6) dX5_digest_5 rfl rfl (by decide) rfl ?_
  dsimp only [List.set]
  exact minner 15 0 _ (by omega)
