/-! PISTEKEEPER: the commands, second part -/
set_option maxHeartbeats 4000000 in
set_option maxRecDepth 100000 in
theorem s_groom {d x m i : Nat} {n : Nat} {K : Nat → mj_K} {f : Nat → Nat → Int32} {g : Nat → Nat → Option Nat} {y : mV} (hP : LPn K g x m) (hN : MN f m y) (hi : i < y.2.1) (ho : (y.2.2.2.2 i).2 15 = 0) (h2 : 2 ≤ (y.2.2.2.2 i).1.1) (hck : y.2.2.1 4 % 24 ≤ 6 ∨ 18 ≤ y.2.2.1 4 % 24) (hfu : 5 ≤ y.2.2.1 8) : mj_Ci m_X5_groom (d + 2) [.ref x, .int (nI i)] (n, K, f, g) (fun r h1 => r = (vPress (y.2.2.2.2 i).1).2.2.2.1 ((vPress (y.2.2.2.2 i).1).1 - 1) ∧ ∃ f1, h1 = (n, K, f1, g) ∧ MN f1 m (vGroomV y i) ∧ mj_Fr m (m + 47) f f1) := by
  have hP2 := hP
  have hN2 := hN
  obtain ⟨kx, hxm, gx0, gx1, gx2, gx3, hL, hLt, hLb, kw⟩ := hP
  have hL2 := hL
  obtain ⟨km, gm0, gm1, km1, km6, hLl, hLr⟩ := hL
  obtain ⟨lc, rc, mu, ls, rs⟩ := y
  obtain ⟨n1, n2, n3, n4, n5, n6, n7, n8⟩ := hN
  dsimp only at n1 n2 n3 n4 n5 n6 n7 n8
  have hi : i < rc := hi
  have ho : (rs i).2 15 = 0 := ho
  have h2 : 2 ≤ (rs i).1.1 := h2
  have hck : mu 4 % 24 ≤ 6 ∨ 18 ≤ mu 4 % 24 := hck
  have hfu : 5 ≤ mu 8 := hfu
  have u8 : f m 8 = mu 8 := n5 8 (by omega) (by omega)
  have hg_i : g (m + 6) i = some (m + 7 + 5 * i) := (hLr i (by omega)).1
  have hL_i := (hLr i (by omega)).2
  have kr_i : K (m + 7 + 5 * i) = (2, 2, 0) := hL_i.1
  have gr_i : g (m + 7 + 5 * i) 0 = some ((m + 7 + 5 * i) + 1) := hL_i.2.1
  have ks_i : K ((m + 7 + 5 * i) + 1) = (2, 3, 0) := hL_i.2.2.1
  have hR_i := n7 i (by omega)
  have c3 : f ((m + 7 + 5 * i) + 1) 3 = nI (rs i).1.1 := hR_i.1.2.1
  have h8 : (rs i).1.1 ≤ 8 := hR_i.1.1
  have hN3 := hN2.put (k0 := 8) (v := mu 8 - 5) (by omega)
  have hR3 := hN3.2.2.2.2.2.2.1 i hi
  dsimp only at hR3
  refine mj_entry (by refine ⟨by decide +kernel, by decide, rfl, Nat.le_of_ble_eq_true rfl⟩) ?_
  show mj_W _ _ _ _ _ 0 [.ref x, .int (nI i), .null, .null] [] _
  refine mj_aload_n (i := 0) (q := 1) dX5_groom_0 rfl rfl rfl ?_
  refine mj_iload_n (i := 1) (q := 2) dX5_groom_1 rfl rfl rfl ?_
  refine mj_cV1v (K := m_X5_requireClosed) (q := 5) dX5_groom_2 ln_X5_132 ok_X5_requireClosed (Nat.le_of_ble_eq_true rfl) (by decide) (by assumption) rfl rfl (s_reqClosed hP2 hN2 hi ho) (fun h1 hq => ?_)
  obtain rfl := hq
  refine mj_aload_n (i := 0) (q := 6) dX5_groom_5 rfl rfl rfl ?_
  refine mj_getr (q := 9) dX5_groom_6 fl_X5_10 rfl rfl (by assumption) (by assumption) ?_
  refine mj_getr (q := 12) dX5_groom_9 fl_X5_65 rfl rfl (by assumption) (by assumption) ?_
  refine mj_iload_n (i := 1) (q := 13) dX5_groom_12 rfl rfl rfl ?_
  refine mj_aaldn (q := 14) dX5_groom_13 rfl (by assumption) ⟨by omega, by omega⟩ (by assumption) ?_
  refine mj_getr (q := 17) dX5_groom_14 fl_X5_169 rfl rfl (by assumption) (by assumption) ?_
  refine mj_astore_n (i := 2) (q := 18) dX5_groom_17 rfl rfl (by decide) rfl ?_
  dsimp only [List.set]
  refine mj_aload_n (i := 0) (q := 19) dX5_groom_18 rfl rfl rfl ?_
  refine mj_getr (q := 22) dX5_groom_19 fl_X5_10 rfl rfl (by assumption) (by assumption) ?_
  refine mj_cV0i (K := m_X1_clock) (q := 25) dX5_groom_22 ln_X5_173 ok_X1_clock (Nat.le_of_ble_eq_true rfl) (by decide) (by assumption) rfl rfl (s_clock hL2 hN2) (fun r_22 h1 hq => ?_)
  obtain ⟨rfl, rfl⟩ := hq
  dsimp only
  refine mj_istore_n (i := 3) (q := 26) dX5_groom_25 rfl rfl (by decide) rfl ?_
  dsimp only [List.set]
  refine mj_aload_n (i := 2) (q := 27) dX5_groom_26 rfl rfl rfl ?_
  refine mj_getfv (q := 30) dX5_groom_27 fl_X5_176 rfl rfl (by assumption) (by assumption) ?_
  refine mj_num1 (v := 2) (q := 31) rfl dX5_groom_30 rfl ?_
  refine mj_icmp_lt (tgt := 46) (q := 34) dX5_groom_31 (by decide) rfl (fun c_31 => absurd c_31 (Int32.not_lt.mpr (nI_le (a := 2) h2 (by omega)))) (fun c_31 => ?_)
  refine mj_iload_n (i := 3) (q := 35) dX5_groom_34 rfl rfl rfl ?_
  refine mj_num2 (v := 6) (q := 37) (by decide) dX5_groom_35 rfl ?_
  refine mj_icmp_le (tgt := 56) (q := 40) dX5_groom_37 (by decide) rfl (fun c_37 => ?_) (fun c_37 => ?_)
  · refine mj_aload_n (i := 0) (q := 57) dX5_groom_56 rfl rfl rfl ?_
    refine mj_getr (q := 60) dX5_groom_57 fl_X5_10 rfl rfl (by assumption) (by assumption) ?_
    refine mj_getfv (q := 63) dX5_groom_60 fl_X5_183 rfl rfl (by assumption) (by assumption) ?_
    refine mj_num1 (v := 5) (q := 64) rfl dX5_groom_63 rfl ?_
    refine mj_icmp_ge (tgt := 77) (q := 67) dX5_groom_64 (by decide) rfl (fun c_64 => ?_) (fun c_64 => absurd hfu c_64)
    refine mj_aload_n (i := 0) (q := 78) dX5_groom_77 rfl rfl rfl ?_
    refine mj_getr (q := 81) dX5_groom_78 fl_X5_10 rfl rfl (by assumption) (by assumption) ?_
    refine mj_dup (q := 82) rfl dX5_groom_81 rfl ?_
    refine mj_getfv (q := 85) dX5_groom_82 fl_X5_183 rfl rfl (by assumption) (by assumption) ?_
    refine mj_num1 (v := 5) (q := 86) rfl dX5_groom_85 rfl ?_
    refine mj_isub (q := 87) dX5_groom_86 rfl ?_
    refine mj_putf (q := 90) dX5_groom_87 fl_X5_183 rfl rfl (by assumption) rfl rfl rfl ?_
    refine mj_aload_n (i := 2) (q := 91) dX5_groom_90 rfl rfl rfl ?_
    refine mj_cV0i (K := m_X3_pressTop) (q := 94) dX5_groom_91 ln_X5_188 ok_X3_pressTop (Nat.le_of_ble_eq_true rfl) (by decide) (by assumption) rfl rfl (s_pressTop hL_i.2.2 hR3.1 h2) (fun r_91 h1 hq => ?_)
    obtain ⟨f2, rfl, hS2, hF2, rfl⟩ := hq
    exact mj_ireturn dX5_groom_94 ⟨_, rfl, rfl⟩ ⟨_, rfl, rfl, _, rfl, hN3.run hi (hR3.snow hS2 (hF2.wide (by omega) (by omega))) (hF2.wide (by omega) (by omega)) rfl, (mj_Fr.up mj_Fr.rf (by omega) (by omega) : mj_Fr m (m + 47) f _).tr (hF2.wide (by omega) (by omega))⟩
  · refine mj_iload_n (i := 3) (q := 41) dX5_groom_40 rfl rfl rfl ?_
    refine mj_num2 (v := 18) (q := 43) (by decide) dX5_groom_41 rfl ?_
    refine mj_icmp_ge (tgt := 56) (q := 46) dX5_groom_43 (by decide) rfl (fun c_43 => ?_) (fun c_43 => hck.elim (fun z => absurd z c_37) (fun z => absurd z c_43))
    refine mj_aload_n (i := 0) (q := 57) dX5_groom_56 rfl rfl rfl ?_
    refine mj_getr (q := 60) dX5_groom_57 fl_X5_10 rfl rfl (by assumption) (by assumption) ?_
    refine mj_getfv (q := 63) dX5_groom_60 fl_X5_183 rfl rfl (by assumption) (by assumption) ?_
    refine mj_num1 (v := 5) (q := 64) rfl dX5_groom_63 rfl ?_
    refine mj_icmp_ge (tgt := 77) (q := 67) dX5_groom_64 (by decide) rfl (fun c_64 => ?_) (fun c_64 => absurd hfu c_64)
    refine mj_aload_n (i := 0) (q := 78) dX5_groom_77 rfl rfl rfl ?_
    refine mj_getr (q := 81) dX5_groom_78 fl_X5_10 rfl rfl (by assumption) (by assumption) ?_
    refine mj_dup (q := 82) rfl dX5_groom_81 rfl ?_
    refine mj_getfv (q := 85) dX5_groom_82 fl_X5_183 rfl rfl (by assumption) (by assumption) ?_
    refine mj_num1 (v := 5) (q := 86) rfl dX5_groom_85 rfl ?_
    refine mj_isub (q := 87) dX5_groom_86 rfl ?_
    refine mj_putf (q := 90) dX5_groom_87 fl_X5_183 rfl rfl (by assumption) rfl rfl rfl ?_
    refine mj_aload_n (i := 2) (q := 91) dX5_groom_90 rfl rfl rfl ?_
    refine mj_cV0i (K := m_X3_pressTop) (q := 94) dX5_groom_91 ln_X5_188 ok_X3_pressTop (Nat.le_of_ble_eq_true rfl) (by decide) (by assumption) rfl rfl (s_pressTop hL_i.2.2 hR3.1 h2) (fun r_91 h1 hq => ?_)
    obtain ⟨f2, rfl, hS2, hF2, rfl⟩ := hq
    exact mj_ireturn dX5_groom_94 ⟨_, rfl, rfl⟩ ⟨_, rfl, rfl, _, rfl, hN3.run hi (hR3.snow hS2 (hF2.wide (by omega) (by omega))) (hF2.wide (by omega) (by omega)) rfl, (mj_Fr.up mj_Fr.rf (by omega) (by omega) : mj_Fr m (m + 47) f _).tr (hF2.wide (by omega) (by omega))⟩
set_option maxHeartbeats 4000000 in
set_option maxRecDepth 100000 in
theorem s_open {d x m i : Nat} {n : Nat} {K : Nat → mj_K} {f : Nat → Nat → Int32} {g : Nat → Nat → Option Nat} {y : mV} (hP : LPn K g x m) (hN : MN f m y) (hi : i < y.2.1) (ho : (y.2.2.2.2 i).2 15 = 0) : mj_Ci m_X5_open (d + 5) [.ref x, .int (nI i)] (n, K, f, g) (fun r h1 => r = vBarNow y.2.2.1 y.2.2.2.1 (y.2.2.2.2 i) ∧ ∃ f1, h1 = (n, K, f1, g) ∧ MN f1 m (vOpenV y i) ∧ mj_Fr m (m + 47) f f1) := by
  have hP2 := hP
  have hN2 := hN
  obtain ⟨kx, hxm, gx0, gx1, gx2, gx3, hL, hLt, hLb, kw⟩ := hP
  have hL2 := hL
  obtain ⟨km, gm0, gm1, km1, km6, hLl, hLr⟩ := hL
  obtain ⟨lc, rc, mu, ls, rs⟩ := y
  obtain ⟨n1, n2, n3, n4, n5, n6, n7, n8⟩ := hN
  dsimp only at n1 n2 n3 n4 n5 n6 n7 n8
  have hi : i < rc := hi
  have ho : (rs i).2 15 = 0 := ho
  have u4 : f m 4 = mu 4 := n5 4 (by omega) (by omega)
  have hg_i : g (m + 6) i = some (m + 7 + 5 * i) := (hLr i (by omega)).1
  have hL_i := (hLr i (by omega)).2
  have kr_i : K (m + 7 + 5 * i) = (2, 2, 0) := hL_i.1
  have gr_i : g (m + 7 + 5 * i) 0 = some ((m + 7 + 5 * i) + 1) := hL_i.2.1
  have ks_i : K ((m + 7 + 5 * i) + 1) = (2, 3, 0) := hL_i.2.2.1
  have hR_i := n7 i (by omega)
  refine mj_entry (by refine ⟨by decide +kernel, by decide, rfl, Nat.le_of_ble_eq_true rfl⟩) ?_
  show mj_W _ _ _ _ _ 0 [.ref x, .int (nI i), .null, .null] [] _
  refine mj_aload_n (i := 0) (q := 1) dX5_open_0 rfl rfl rfl ?_
  refine mj_iload_n (i := 1) (q := 2) dX5_open_1 rfl rfl rfl ?_
  refine mj_cV1v (K := m_X5_requireClosed) (q := 5) dX5_open_2 ln_X5_132 ok_X5_requireClosed (Nat.le_of_ble_eq_true rfl) (by decide) (by assumption) rfl rfl (s_reqClosed hP2 hN2 hi ho) (fun h1 hq => ?_)
  obtain rfl := hq
  refine mj_aload_n (i := 0) (q := 6) dX5_open_5 rfl rfl rfl ?_
  refine mj_getr (q := 9) dX5_open_6 fl_X5_10 rfl rfl (by assumption) (by assumption) ?_
  refine mj_getr (q := 12) dX5_open_9 fl_X5_65 rfl rfl (by assumption) (by assumption) ?_
  refine mj_iload_n (i := 1) (q := 13) dX5_open_12 rfl rfl rfl ?_
  refine mj_aaldn (q := 14) dX5_open_13 rfl (by assumption) ⟨by omega, by omega⟩ (by assumption) ?_
  refine mj_astore_n (i := 2) (q := 15) dX5_open_14 rfl rfl (by decide) rfl ?_
  dsimp only [List.set]
  refine mj_aload_n (i := 0) (q := 16) dX5_open_15 rfl rfl rfl ?_
  refine mj_getr (q := 19) dX5_open_16 fl_X5_10 rfl rfl (by assumption) (by assumption) ?_
  refine mj_aload_n (i := 2) (q := 20) dX5_open_19 rfl rfl rfl ?_
  refine mj_cV1i (K := m_X1_barNow) (q := 23) dX5_open_20 ln_X5_191 ok_X1_barNow (Nat.le_of_ble_eq_true rfl) (by decide) (by assumption) rfl rfl (s_barNow hL2 hN2 (i := i) hi) (fun r_20 h1 hq => ?_)
  obtain ⟨rfl, rfl⟩ := hq
  dsimp only
  refine mj_istore_n (i := 3) (q := 24) dX5_open_23 rfl rfl (by decide) rfl ?_
  dsimp only [List.set]
  refine mj_iload_n (i := 3) (q := 25) dX5_open_24 rfl rfl rfl ?_
  refine mj_if_ne (tgt := 44) (q := 28) dX5_open_25 (by decide) rfl (fun c_25 => ?_) (fun c_25 => ?_)
  · refine mj_iload_n (i := 3) (q := 45) dX5_open_44 rfl rfl rfl ?_
    exact mj_ireturn dX5_open_45 ⟨_, rfl, rfl⟩ ⟨_, rfl, rfl, _, rfl, by unfold vOpenV; rw [if_neg c_25]; exact hN2, mj_Fr.rf⟩
  · refine mj_aload_n (i := 2) (q := 29) dX5_open_28 rfl rfl rfl ?_
    refine mj_num1 (v := 1) (q := 30) rfl dX5_open_29 rfl ?_
    refine mj_putf (q := 33) dX5_open_30 fl_X5_194 rfl rfl (by assumption) rfl rfl rfl ?_
    refine mj_aload_n (i := 2) (q := 34) dX5_open_33 rfl rfl rfl ?_
    have u4b : mj_up f (m + 7 + 5 * i) 15 1 m 4 = mu 4 := by simp only [mj_up]; rw [if_neg (by omega)]; exact u4
    refine mj_aload_n (i := 0) (q := 35) dX5_open_34 rfl rfl rfl ?_
    refine mj_getr (q := 38) dX5_open_35 fl_X5_10 rfl rfl (by assumption) (by assumption) ?_
    refine mj_getfv (q := 41) dX5_open_38 fl_X5_116 rfl rfl (by assumption) (by assumption) ?_
    refine mj_putf (q := 44) dX5_open_41 fl_X5_197 rfl rfl (by assumption) rfl rfl rfl ?_
    refine mj_iload_n (i := 3) (q := 45) dX5_open_44 rfl rfl rfl ?_
    exact mj_ireturn dX5_open_45 ⟨_, rfl, rfl⟩ ⟨_, rfl, rfl, _, rfl, by unfold vOpenV; rw [if_pos c_25]; exact hN2.run hi ((hR_i.put (k0 := 15) (v := 1) (Or.inr (Or.inr rfl))).put (k0 := 13) (v := mu 4) (by omega)) (by repeat (first | exact mj_Fr.rf | refine mj_Fr.up ?_ (by omega) (by omega))) (by simp [upd, vSet1]), (by repeat (first | exact mj_Fr.rf | refine mj_Fr.up ?_ (by omega) (by omega)))⟩
set_option maxHeartbeats 4000000 in
set_option maxRecDepth 100000 in
theorem s_blast {d x m i : Nat} {n : Nat} {K : Nat → mj_K} {f : Nat → Nat → Int32} {g : Nat → Nat → Option Nat} {y : mV} (hP : LPn K g x m) (hN : MN f m y) (hi : i < y.2.1) (ho : (y.2.2.2.2 i).2 15 = 0) (hch : 1 ≤ y.2.2.1 7) : mj_Ci m_X5_blast (d + 4) [.ref x, .int (nI i)] (n, K, f, g) (fun r h1 => r = vBlastR y i ∧ ∃ f1, h1 = (n, K, f1, g) ∧ MN f1 m (vBlastV y i) ∧ mj_Fr m (m + 47) f f1) := by
  have hP2 := hP
  have hN2 := hN
  obtain ⟨kx, hxm, gx0, gx1, gx2, gx3, hL, hLt, hLb, kw⟩ := hP
  have hL2 := hL
  obtain ⟨km, gm0, gm1, km1, km6, hLl, hLr⟩ := hL
  obtain ⟨lc, rc, mu, ls, rs⟩ := y
  obtain ⟨n1, n2, n3, n4, n5, n6, n7, n8⟩ := hN
  dsimp only at n1 n2 n3 n4 n5 n6 n7 n8
  have hi : i < rc := hi
  have ho : (rs i).2 15 = 0 := ho
  have hch : 1 ≤ mu 7 := hch
  have u7 : f m 7 = mu 7 := n5 7 (by omega) (by omega)
  have hg_i : g (m + 6) i = some (m + 7 + 5 * i) := (hLr i (by omega)).1
  have hL_i := (hLr i (by omega)).2
  have kr_i : K (m + 7 + 5 * i) = (2, 2, 0) := hL_i.1
  have gr_i : g (m + 7 + 5 * i) 0 = some ((m + 7 + 5 * i) + 1) := hL_i.2.1
  have ks_i : K ((m + 7 + 5 * i) + 1) = (2, 3, 0) := hL_i.2.2.1
  have hR_i := n7 i (by omega)
  have e10_i : f (m + 7 + 5 * i) 10 = (rs i).2 10 := hR_i.2.1 10 (by omega) (by omega)
  have hN3 := hN2.put (k0 := 7) (v := mu 7 - 1) (by omega)
  have hR3 := hN3.2.2.2.2.2.2.1 i hi
  dsimp only at hR3
  have u7b : mj_up f m 7 (mu 7 - 1) m 7 = mu 7 - 1 := by simp [mj_up]
  have e10b : mj_up f m 7 (mu 7 - 1) (m + 7 + 5 * i) 10 = (rs i).2 10 := by simp only [mj_up]; rw [if_neg (by omega)]; exact e10_i
  refine mj_entry (by refine ⟨by decide +kernel, by decide, rfl, Nat.le_of_ble_eq_true rfl⟩) ?_
  show mj_W _ _ _ _ _ 0 [.ref x, .int (nI i), .null] [] _
  refine mj_aload_n (i := 0) (q := 1) dX5_blast_0 rfl rfl rfl ?_
  refine mj_iload_n (i := 1) (q := 2) dX5_blast_1 rfl rfl rfl ?_
  refine mj_cV1v (K := m_X5_requireClosed) (q := 5) dX5_blast_2 ln_X5_132 ok_X5_requireClosed (Nat.le_of_ble_eq_true rfl) (by decide) (by assumption) rfl rfl (s_reqClosed hP2 hN2 hi ho) (fun h1 hq => ?_)
  obtain rfl := hq
  refine mj_aload_n (i := 0) (q := 6) dX5_blast_5 rfl rfl rfl ?_
  refine mj_getr (q := 9) dX5_blast_6 fl_X5_10 rfl rfl (by assumption) (by assumption) ?_
  refine mj_getfv (q := 12) dX5_blast_9 fl_X5_135 rfl rfl (by assumption) (by assumption) ?_
  refine mj_num1 (v := 1) (q := 13) rfl dX5_blast_12 rfl ?_
  refine mj_icmp_ge (tgt := 26) (q := 16) dX5_blast_13 (by decide) rfl (fun c_13 => ?_) (fun c_13 => absurd hch c_13)
  refine mj_aload_n (i := 0) (q := 27) dX5_blast_26 rfl rfl rfl ?_
  refine mj_getr (q := 30) dX5_blast_27 fl_X5_10 rfl rfl (by assumption) (by assumption) ?_
  refine mj_getr (q := 33) dX5_blast_30 fl_X5_65 rfl rfl (by assumption) (by assumption) ?_
  refine mj_iload_n (i := 1) (q := 34) dX5_blast_33 rfl rfl rfl ?_
  refine mj_aaldn (q := 35) dX5_blast_34 rfl (by assumption) ⟨by omega, by omega⟩ (by assumption) ?_
  refine mj_astore_n (i := 2) (q := 36) dX5_blast_35 rfl rfl (by decide) rfl ?_
  dsimp only [List.set]
  refine mj_aload_n (i := 0) (q := 37) dX5_blast_36 rfl rfl rfl ?_
  refine mj_getr (q := 40) dX5_blast_37 fl_X5_10 rfl rfl (by assumption) (by assumption) ?_
  refine mj_dup (q := 41) rfl dX5_blast_40 rfl ?_
  refine mj_getfv (q := 44) dX5_blast_41 fl_X5_135 rfl rfl (by assumption) (by assumption) ?_
  refine mj_num1 (v := 1) (q := 45) rfl dX5_blast_44 rfl ?_
  refine mj_isub (q := 46) dX5_blast_45 rfl ?_
  refine mj_putf (q := 49) dX5_blast_46 fl_X5_135 rfl rfl (by assumption) rfl rfl rfl ?_
  refine mj_num2 (v := 50) (q := 51) (by decide) dX5_blast_49 rfl ?_
  refine mj_aload_n (i := 0) (q := 52) dX5_blast_51 rfl rfl rfl ?_
  refine mj_getr (q := 55) dX5_blast_52 fl_X5_10 rfl rfl (by assumption) (by assumption) ?_
  refine mj_getfv (q := 58) dX5_blast_55 fl_X5_135 rfl rfl (by assumption) (by assumption) ?_
  refine mj_isub (q := 59) dX5_blast_58 rfl ?_
  refine mj_num2 (v := 7) (q := 61) (by decide) dX5_blast_59 rfl ?_
  refine mj_irem (q := 62) (by decide) dX5_blast_61 rfl ?_
  refine mj_if_ne (tgt := 78) (q := 65) dX5_blast_62 (by decide) rfl (fun c_62 => ?_) (fun c_62 => ?_)
  · refine mj_aload_n (i := 2) (q := 79) dX5_blast_78 rfl rfl rfl ?_
    refine mj_cV0i (K := m_X2_risk) (q := 82) dX5_blast_79 ln_X5_143 ok_X2_risk (Nat.le_of_ble_eq_true rfl) (by decide) (by assumption) rfl rfl (s_runRisk hL_i hR3) (fun r_79 h1 hq => ?_)
    obtain ⟨rfl, rfl⟩ := hq
    refine mj_num2 (v := 40) (q := 84) (by decide) dX5_blast_82 rfl ?_
    refine mj_icmp_lt (tgt := 98) (q := 87) dX5_blast_84 (by decide) rfl (fun c_84 => ?_) (fun c_84 => ?_)
    · refine mj_num1 (v := 0) (q := 99) rfl dX5_blast_98 rfl ?_
      have eD : vBlastDud (lc, rc, mu, ls, rs) = false := by unfold vBlastDud; exact beq_eq_false_iff_ne.mpr c_62
      have eF : ¬ vBlastDud (lc, rc, mu, ls, rs) = true := by rw [eD]; decide
      have eN : ¬ 40 ≤ vRisk ((rs i).2 3) (rs i).1 := Int32.not_le.mpr c_84
      exact mj_ireturn dX5_blast_99 ⟨_, rfl, rfl⟩ ⟨_, rfl, by unfold vBlastR; rw [if_neg eF, if_neg eN], _, rfl, by unfold vBlastV; rw [if_neg eF, if_neg eN]; exact hN3, (by repeat (first | exact mj_Fr.rf | refine mj_Fr.up ?_ (by omega) (by omega)))⟩
    · refine mj_aload_n (i := 0) (q := 88) dX5_blast_87 rfl rfl rfl ?_
      refine mj_getr (q := 91) dX5_blast_88 fl_X5_10 rfl rfl (by assumption) (by assumption) ?_
      refine mj_aload_n (i := 2) (q := 92) dX5_blast_91 rfl rfl rfl ?_
      refine mj_cV1i (K := m_X1_slideOn) (q := 95) dX5_blast_92 ln_X5_147 ok_X1_slideOn (Nat.le_of_ble_eq_true rfl) (by decide) (by assumption) rfl rfl (s_slideOn hL2 hN3 (i := i) hi) (fun r_92 h1 hq => ?_)
      obtain ⟨f2, rfl, hM2, hF2, rfl⟩ := hq
      dsimp only
      refine mj_goto (q := 99) dX5_blast_95 (by decide) ?_
      have eD : vBlastDud (lc, rc, mu, ls, rs) = false := by unfold vBlastDud; exact beq_eq_false_iff_ne.mpr c_62
      have eF : ¬ vBlastDud (lc, rc, mu, ls, rs) = true := by rw [eD]; decide
      have eN : 40 ≤ vRisk ((rs i).2 3) (rs i).1 := Int32.not_lt.mp c_84
      exact mj_ireturn dX5_blast_99 ⟨_, rfl, rfl⟩ ⟨_, rfl, by unfold vBlastR; rw [if_neg eF, if_pos eN], _, rfl, by unfold vBlastV; rw [if_neg eF, if_pos eN]; exact hM2, (mj_Fr.up mj_Fr.rf (by omega) (by omega) : mj_Fr m (m + 47) f _).tr hF2⟩
  · refine mj_aload_n (i := 2) (q := 66) dX5_blast_65 rfl rfl rfl ?_
    refine mj_dup (q := 67) rfl dX5_blast_66 rfl ?_
    refine mj_getfv (q := 70) dX5_blast_67 fl_X5_140 rfl rfl (by assumption) (by assumption) ?_
    refine mj_num1 (v := 1) (q := 71) rfl dX5_blast_70 rfl ?_
    refine mj_iadd (q := 72) dX5_blast_71 rfl ?_
    refine mj_putf (q := 75) dX5_blast_72 fl_X5_140 rfl rfl (by assumption) rfl rfl rfl ?_
    refine mj_num2 (v := (-2)) (q := 77) (by decide) dX5_blast_75 rfl ?_
    have eD : vBlastDud (lc, rc, mu, ls, rs) = true := by unfold vBlastDud; exact beq_iff_eq.mpr c_62
    exact mj_ireturn dX5_blast_77 ⟨_, rfl, rfl⟩ ⟨_, rfl, by unfold vBlastR; rw [if_pos eD], _, rfl, by unfold vBlastV; rw [if_pos eD]; exact hN3.run hi (hR3.put (k0 := 10) (v := (rs i).2 10 + 1) (by omega)) (mj_Fr.up mj_Fr.rf (by omega) (by omega)) (by simp [upd, vSet1]), (by repeat (first | exact mj_Fr.rf | refine mj_Fr.up ?_ (by omega) (by omega)))⟩
set_option maxHeartbeats 4000000 in
set_option maxRecDepth 100000 in
theorem s_pass {d x m hh : Nat} {wa fa wi fr hu : Int32} {n : Nat} {K : Nat → mj_K} {f : Nat → Nat → Int32} {g : Nat → Nat → Option Nat} {y : mV} (hP : LPn K g x m) (hN : MN f m y) (hh1 : 1 ≤ hh) (hh2 : hh ≤ 48) (w1 : -20 ≤ wa) (w2 : wa ≤ 20) (w3 : 0 ≤ fa) (w4 : fa ≤ 9) (w5 : 0 ≤ wi) (w6 : wi ≤ 9) (w7 : 0 ≤ fr) (w8 : fr ≤ 3) (w9 : 0 ≤ hu) (w10 : hu ≤ 100) (hlate : y.2.2.1 4 + nI hh ≤ 9999) : mj_Ci m_X5_pass (d + 6) [.ref x, .int (nI hh), .int wa, .int fa, .int wi, .int fr, .int hu] (n, K, f, g) (fun r h1 => r = (vIter (wW wa fa wi fr hu) hh y).2.2.1 10 - y.2.2.1 10 ∧ ∃ f1, h1 = (n, K, f1, g) ∧ MN f1 m (vIter (wW wa fa wi fr hu) hh y) ∧ mj_Fr m (m + 142) f f1) := by
  have hP2 := hP
  have hN2 := hN
  obtain ⟨kx, hxm, gx0, gx1, gx2, gx3, hL, hLt, hLb, kw⟩ := hP
  have hL2 := hL
  obtain ⟨km, gm0, gm1, km1, km6, hLl, hLr⟩ := hL
  obtain ⟨lc, rc, mu, ls, rs⟩ := y
  obtain ⟨n1, n2, n3, n4, n5, n6, n7, n8⟩ := hN
  dsimp only at n1 n2 n3 n4 n5 n6 n7 n8
  have b1 : (1 : Int32) ≤ nI hh := nI_le (a := 1) hh1 (by omega)
  have b2 : nI hh ≤ 48 := nI_le (b := 48) hh2 (by omega)
  have hlate : mu 4 + nI hh ≤ 9999 := hlate
  have u4 : f m 4 = mu 4 := n5 4 (by omega) (by omega)
  have u10 : f m 10 = mu 10 := n5 10 (by omega) (by omega)
  have key : ∀ (j t : Nat) (f1 : Nat → Nat → Int32) (z : mV), t + j = hh → MN f1 m z → WN f1 (m + 141) (wW wa fa wi fr hu) → vIter (wW wa fa wi fr hu) hh (lc, rc, mu, ls, rs) = vIter (wW wa fa wi fr hu) j z → mj_Fr m (m + 142) f f1 → mj_W m_X5_pass (d + 6) 0 0 (fun v h1 => ∃ r, v = some (.int r) ∧ r = (vIter (wW wa fa wi fr hu) hh (lc, rc, mu, ls, rs)).2.2.1 10 - mu 10 ∧ ∃ f1, h1 = (n, K, f1, g) ∧ MN f1 m (vIter (wW wa fa wi fr hu) hh (lc, rc, mu, ls, rs)) ∧ mj_Fr m (m + 142) f f1) 97 [.ref x, .int (nI hh), .int wa, .int fa, .int wi, .int fr, .int hu, .int (mu 10), .int (nI t)] [] (n, K, f1, g) := by
    intro j
    induction j with
    | zero =>
      intro t f1 z ht hM hW hv hF
      have ht : t = hh := by omega
      subst ht
      have u10b : f1 m 10 = z.2.2.1 10 := hM.2.2.2.2.1 10 (by omega) (by omega)
      refine mj_iload (i := 8) (q := 99) dX5_pass_97 rfl rfl ?_
      refine mj_iload_n (i := 1) (q := 100) dX5_pass_99 rfl rfl rfl ?_
      refine mj_icmp_ge (tgt := 120) (q := 103) dX5_pass_100 (by decide) rfl (fun c_100 => ?_) (fun c_100 => absurd (Int32.le_refl _) c_100)
      refine mj_aload_n (i := 0) (q := 121) dX5_pass_120 rfl rfl rfl ?_
      refine mj_getr (q := 124) dX5_pass_121 fl_X5_10 rfl rfl (by assumption) (by assumption) ?_
      refine mj_getfv (q := 127) dX5_pass_124 fl_X5_121 rfl rfl (by assumption) (by assumption) ?_
      refine mj_iload (i := 7) (q := 129) dX5_pass_127 rfl rfl ?_
      refine mj_isub (q := 130) dX5_pass_129 rfl ?_
      exact mj_ireturn dX5_pass_130 ⟨_, rfl, rfl⟩ ⟨_, rfl, by rw [hv]; rfl, _, rfl, by rw [hv]; exact hM, hF⟩
    | succ j ih =>
      intro t f1 z ht hM hW hv hF
      refine mj_iload (i := 8) (q := 99) dX5_pass_97 rfl rfl ?_
      refine mj_iload_n (i := 1) (q := 100) dX5_pass_99 rfl rfl rfl ?_
      refine mj_icmp_ge (tgt := 120) (q := 103) dX5_pass_100 (by decide) rfl (fun c_100 => absurd c_100 (nI_ge (a := t) (b := hh) (by omega) (by omega))) (fun c_100 => ?_)
      refine mj_aload_n (i := 0) (q := 104) dX5_pass_103 rfl rfl rfl ?_
      refine mj_getr (q := 107) dX5_pass_104 fl_X5_10 rfl rfl (by assumption) (by assumption) ?_
      refine mj_aload_n (i := 0) (q := 108) dX5_pass_107 rfl rfl rfl ?_
      refine mj_getr (q := 111) dX5_pass_108 fl_X5_25 rfl rfl (by assumption) (by assumption) ?_
      refine mj_cV1v (K := m_X1_passHour) (q := 114) dX5_pass_111 ln_X5_128 ok_X1_passHour (Nat.le_of_ble_eq_true rfl) (by decide) (by assumption) rfl rfl (s_passHour hL2 hM kw hW (by omega)) (fun h1 hq => ?_)
      obtain ⟨f2, rfl, hM2, hF2⟩ := hq
      refine mj_iinc (i := 8) (q := 117) dX5_pass_114 rfl rfl (by decide) rfl ?_
      dsimp only [List.set]
      refine mj_goto (q := 97) dX5_pass_117 (by decide) ?_
      rw [show nI t + Int32.ofInt 1 = nI (t + 1) from nI_1 t]
      exact ih (t + 1) f2 _ (by omega) hM2 (hW.keep hF2 (by omega)) hv (hF.tr (hF2.wide (by omega) (by omega)))
  refine mj_entry (by refine ⟨by decide +kernel, by decide, rfl, Nat.le_of_ble_eq_true rfl⟩) ?_
  show mj_W _ _ _ _ _ 0 [.ref x, .int (nI hh), .int wa, .int fa, .int wi, .int fr, .int hu, .null, .null] [] _
  refine mj_iload_n (i := 1) (q := 1) dX5_pass_0 rfl rfl rfl ?_
  refine mj_num1 (v := 1) (q := 2) rfl dX5_pass_1 rfl ?_
  refine mj_num2 (v := 48) (q := 4) (by decide) dX5_pass_2 rfl ?_
  refine mj_cS3v (K := m_X5_requireWithin) (q := 7) dX5_pass_4 ln_X5_29 ok_X5_requireWithin (Nat.le_of_ble_eq_true rfl) (by decide) rfl (s_within (by assumption) (by assumption)) (fun h1 hq => ?_)
  obtain rfl := hq
  refine mj_iload_n (i := 2) (q := 8) dX5_pass_7 rfl rfl rfl ?_
  refine mj_num2 (v := (-20)) (q := 10) (by decide) dX5_pass_8 rfl ?_
  refine mj_num2 (v := 20) (q := 12) (by decide) dX5_pass_10 rfl ?_
  refine mj_cS3v (K := m_X5_requireWithin) (q := 15) dX5_pass_12 ln_X5_29 ok_X5_requireWithin (Nat.le_of_ble_eq_true rfl) (by decide) rfl (s_within (by assumption) (by assumption)) (fun h1 hq => ?_)
  obtain rfl := hq
  refine mj_iload_n (i := 3) (q := 16) dX5_pass_15 rfl rfl rfl ?_
  refine mj_num1 (v := 0) (q := 17) rfl dX5_pass_16 rfl ?_
  refine mj_num2 (v := 9) (q := 19) (by decide) dX5_pass_17 rfl ?_
  refine mj_cS3v (K := m_X5_requireWithin) (q := 22) dX5_pass_19 ln_X5_29 ok_X5_requireWithin (Nat.le_of_ble_eq_true rfl) (by decide) rfl (s_within (by assumption) (by assumption)) (fun h1 hq => ?_)
  obtain rfl := hq
  refine mj_iload (i := 4) (q := 24) dX5_pass_22 rfl rfl ?_
  refine mj_num1 (v := 0) (q := 25) rfl dX5_pass_24 rfl ?_
  refine mj_num2 (v := 9) (q := 27) (by decide) dX5_pass_25 rfl ?_
  refine mj_cS3v (K := m_X5_requireWithin) (q := 30) dX5_pass_27 ln_X5_29 ok_X5_requireWithin (Nat.le_of_ble_eq_true rfl) (by decide) rfl (s_within (by assumption) (by assumption)) (fun h1 hq => ?_)
  obtain rfl := hq
  refine mj_iload (i := 5) (q := 32) dX5_pass_30 rfl rfl ?_
  refine mj_num1 (v := 0) (q := 33) rfl dX5_pass_32 rfl ?_
  refine mj_num1 (v := 3) (q := 34) rfl dX5_pass_33 rfl ?_
  refine mj_cS3v (K := m_X5_requireWithin) (q := 37) dX5_pass_34 ln_X5_29 ok_X5_requireWithin (Nat.le_of_ble_eq_true rfl) (by decide) rfl (s_within (by assumption) (by assumption)) (fun h1 hq => ?_)
  obtain rfl := hq
  refine mj_iload (i := 6) (q := 39) dX5_pass_37 rfl rfl ?_
  refine mj_num1 (v := 0) (q := 40) rfl dX5_pass_39 rfl ?_
  refine mj_num2 (v := 100) (q := 42) (by decide) dX5_pass_40 rfl ?_
  refine mj_cS3v (K := m_X5_requireWithin) (q := 45) dX5_pass_42 ln_X5_29 ok_X5_requireWithin (Nat.le_of_ble_eq_true rfl) (by decide) rfl (s_within (by assumption) (by assumption)) (fun h1 hq => ?_)
  obtain rfl := hq
  refine mj_aload_n (i := 0) (q := 46) dX5_pass_45 rfl rfl rfl ?_
  refine mj_getr (q := 49) dX5_pass_46 fl_X5_10 rfl rfl (by assumption) (by assumption) ?_
  refine mj_getfv (q := 52) dX5_pass_49 fl_X5_116 rfl rfl (by assumption) (by assumption) ?_
  refine mj_iload_n (i := 1) (q := 53) dX5_pass_52 rfl rfl rfl ?_
  refine mj_iadd (q := 54) dX5_pass_53 rfl ?_
  refine mj_num3 (v := 9999) (q := 57) (by decide) dX5_pass_54 rfl ?_
  refine mj_icmp_le (tgt := 70) (q := 60) dX5_pass_57 (by decide) rfl (fun c_57 => ?_) (fun c_57 => absurd hlate c_57)
  refine mj_aload_n (i := 0) (q := 71) dX5_pass_70 rfl rfl rfl ?_
  refine mj_getr (q := 74) dX5_pass_71 fl_X5_10 rfl rfl (by assumption) (by assumption) ?_
  refine mj_getfv (q := 77) dX5_pass_74 fl_X5_121 rfl rfl (by assumption) (by assumption) ?_
  refine mj_istore (i := 7) (q := 79) dX5_pass_77 rfl (by decide) rfl ?_
  dsimp only [List.set]
  refine mj_aload_n (i := 0) (q := 80) dX5_pass_79 rfl rfl rfl ?_
  refine mj_getr (q := 83) dX5_pass_80 fl_X5_25 rfl rfl (by assumption) (by assumption) ?_
  refine mj_iload_n (i := 2) (q := 84) dX5_pass_83 rfl rfl rfl ?_
  refine mj_iload_n (i := 3) (q := 85) dX5_pass_84 rfl rfl rfl ?_
  refine mj_iload (i := 4) (q := 87) dX5_pass_85 rfl rfl ?_
  refine mj_iload (i := 5) (q := 89) dX5_pass_87 rfl rfl ?_
  refine mj_iload (i := 6) (q := 91) dX5_pass_89 rfl rfl ?_
  refine mj_cV5v (K := m_X4_tell) (q := 94) dX5_pass_91 ln_X5_124 ok_X4_tell (Nat.le_of_ble_eq_true rfl) (by decide) (by assumption) rfl rfl (s_tell kw) (fun h1 hq => ?_)
  obtain ⟨f1, rfl, hW1, hF1⟩ := hq
  have hW2 : WN f1 (m + 141) (wW wa fa wi fr hu) := hW1 _ rfl rfl rfl rfl rfl
  refine mj_num1 (v := nI 0) (q := 95) (by decide) dX5_pass_94 rfl ?_
  refine mj_istore (i := 8) (q := 97) dX5_pass_95 rfl (by decide) rfl ?_
  dsimp only [List.set]
  exact key hh 0 f1 _ (by omega) (hN2.keep hF1 (by omega)) hW2 rfl (hF1.wide (by omega) (by omega))
set_option maxHeartbeats 4000000 in
set_option maxRecDepth 100000 in
theorem s_lift {d x m : Nat} {cap lim : Int32} {z : Nat → Int32} {n : Nat} {K : Nat → mj_K} {f : Nat → Nat → Int32} {g : Nat → Nat → Option Nat} {y : mV} (hP : LPn K g x m) (hN : MN f m y) (hl4 : y.1 < 4) (hz : LN f (m + 2 + y.1) z) (w1 : 10 ≤ cap) (w2 : cap ≤ 999) (w3 : 3 ≤ lim) (w4 : lim ≤ 9) : mj_Ci m_X5_lift (d + 1) [.ref x, .int cap, .int lim] (n, K, f, g) (fun r h1 => r = nI y.1 ∧ ∃ f1, h1 = (n, K, f1, g) ∧ MN f1 m (y.1 + 1, y.2.1, y.2.2.1, mj_row y.2.2.2.1 y.1 (vNewLift z cap lim), y.2.2.2.2) ∧ ∀ a, a ≠ m → a ≠ m + 2 + y.1 → f1 a = f a) := by
  have hP2 := hP
  have hN2 := hN
  obtain ⟨kx, hxm, gx0, gx1, gx2, gx3, hL, hLt, hLb, kw⟩ := hP
  have hL2 := hL
  obtain ⟨km, gm0, gm1, km1, km6, hLl, hLr⟩ := hL
  obtain ⟨lc, rc, mu, ls, rs⟩ := y
  obtain ⟨n1, n2, n3, n4, n5, n6, n7, n8⟩ := hN
  dsimp only at n1 n2 n3 n4 n5 n6 n7 n8
  have hl4 : lc < 4 := hl4
  have hz : LN f (m + 2 + lc) z := hz
  have hg : g (m + 1) lc = some (m + 2 + lc) := (hLl lc (by omega)).1
  have kl : K (m + 2 + lc) = (2, 0, 0) := (hLl lc (by omega)).2
  have n3b : mj_up (mj_up f (m + 2 + lc) 0 cap) (m + 2 + lc) 1 lim m 2 = nI lc := by simp only [mj_up]; rw [if_neg (by omega), if_neg (by omega)]; exact n3
  have hfr : ∀ a, a ≠ m → a ≠ (m + 2 + lc) → mj_up (mj_up (mj_up f (m + 2 + lc) 0 cap) (m + 2 + lc) 1 lim) m 2 (nI lc + 1) a = f a := fun a h1 h2 => (mj_upr h1).trans ((mj_upr h2).trans (mj_upr h2))
  have hok := hN2.addLift (f1 := mj_up (mj_up (mj_up f (m + 2 + lc) 0 cap) (m + 2 + lc) 1 lim) m 2 (nI lc + 1)) hl4 (((hz.put (k0 := 0) (v := cap) (by omega)).put (k0 := 1) (v := lim) (by omega)).keep (lo := m) (hi := m + 1) (mj_Fr.up mj_Fr.rf (by omega) (by omega)) (by omega)) (by show (if m = m ∧ 2 = 2 then nI lc + 1 else _) = _; rw [if_pos ⟨rfl, rfl⟩]; exact nI_1 lc) (fun k hk => by simp only [mj_up]; rw [if_neg (by omega), if_neg (by omega), if_neg (by omega)]) hfr
  refine mj_entry (by refine ⟨by decide +kernel, by decide, rfl, Nat.le_of_ble_eq_true rfl⟩) ?_
  show mj_W _ _ _ _ _ 0 [.ref x, .int cap, .int lim, .null] [] _
  refine mj_iload_n (i := 1) (q := 1) dX5_lift_0 rfl rfl rfl ?_
  refine mj_num2 (v := 10) (q := 3) (by decide) dX5_lift_1 rfl ?_
  refine mj_num3 (v := 999) (q := 6) (by decide) dX5_lift_3 rfl ?_
  refine mj_cS3v (K := m_X5_requireWithin) (q := 9) dX5_lift_6 ln_X5_29 ok_X5_requireWithin (Nat.le_of_ble_eq_true rfl) (by decide) rfl (s_within (by assumption) (by assumption)) (fun h1 hq => ?_)
  obtain rfl := hq
  refine mj_iload_n (i := 2) (q := 10) dX5_lift_9 rfl rfl rfl ?_
  refine mj_num1 (v := 3) (q := 11) rfl dX5_lift_10 rfl ?_
  refine mj_num2 (v := 9) (q := 13) (by decide) dX5_lift_11 rfl ?_
  refine mj_cS3v (K := m_X5_requireWithin) (q := 16) dX5_lift_13 ln_X5_29 ok_X5_requireWithin (Nat.le_of_ble_eq_true rfl) (by decide) rfl (s_within (by assumption) (by assumption)) (fun h1 hq => ?_)
  obtain rfl := hq
  refine mj_aload_n (i := 0) (q := 17) dX5_lift_16 rfl rfl rfl ?_
  refine mj_getr (q := 20) dX5_lift_17 fl_X5_10 rfl rfl (by assumption) (by assumption) ?_
  refine mj_getfv (q := 23) dX5_lift_20 fl_X5_33 rfl rfl (by assumption) (by assumption) ?_
  refine mj_num1 (v := 4) (q := 24) rfl dX5_lift_23 rfl ?_
  refine mj_icmp_lt (tgt := 37) (q := 27) dX5_lift_24 (by decide) rfl (fun c_24 => ?_) (fun c_24 => absurd (nI_lt hl4 (by omega)) c_24)
  refine mj_aload_n (i := 0) (q := 38) dX5_lift_37 rfl rfl rfl ?_
  refine mj_getr (q := 41) dX5_lift_38 fl_X5_10 rfl rfl (by assumption) (by assumption) ?_
  refine mj_getfv (q := 44) dX5_lift_41 fl_X5_33 rfl rfl (by assumption) (by assumption) ?_
  refine mj_istore_n (i := 3) (q := 45) dX5_lift_44 rfl rfl (by decide) rfl ?_
  dsimp only [List.set]
  refine mj_aload_n (i := 0) (q := 46) dX5_lift_45 rfl rfl rfl ?_
  refine mj_getr (q := 49) dX5_lift_46 fl_X5_10 rfl rfl (by assumption) (by assumption) ?_
  refine mj_getr (q := 52) dX5_lift_49 fl_X5_44 rfl rfl (by assumption) (by assumption) ?_
  refine mj_iload_n (i := 3) (q := 53) dX5_lift_52 rfl rfl rfl ?_
  refine mj_aaldn (q := 54) dX5_lift_53 rfl (by assumption) ⟨by omega, by omega⟩ (by assumption) ?_
  refine mj_iload_n (i := 1) (q := 55) dX5_lift_54 rfl rfl rfl ?_
  refine mj_putf (q := 58) dX5_lift_55 fl_X5_48 rfl rfl (by assumption) rfl rfl rfl ?_
  refine mj_aload_n (i := 0) (q := 59) dX5_lift_58 rfl rfl rfl ?_
  refine mj_getr (q := 62) dX5_lift_59 fl_X5_10 rfl rfl (by assumption) (by assumption) ?_
  refine mj_getr (q := 65) dX5_lift_62 fl_X5_44 rfl rfl (by assumption) (by assumption) ?_
  refine mj_iload_n (i := 3) (q := 66) dX5_lift_65 rfl rfl rfl ?_
  refine mj_aaldn (q := 67) dX5_lift_66 rfl (by assumption) ⟨by omega, by omega⟩ (by assumption) ?_
  refine mj_iload_n (i := 2) (q := 68) dX5_lift_67 rfl rfl rfl ?_
  refine mj_putf (q := 71) dX5_lift_68 fl_X5_53 rfl rfl (by assumption) rfl rfl rfl ?_
  refine mj_aload_n (i := 0) (q := 72) dX5_lift_71 rfl rfl rfl ?_
  refine mj_getr (q := 75) dX5_lift_72 fl_X5_10 rfl rfl (by assumption) (by assumption) ?_
  refine mj_dup (q := 76) rfl dX5_lift_75 rfl ?_
  refine mj_getfv (q := 79) dX5_lift_76 fl_X5_33 rfl rfl (by assumption) (by assumption) ?_
  refine mj_num1 (v := 1) (q := 80) rfl dX5_lift_79 rfl ?_
  refine mj_iadd (q := 81) dX5_lift_80 rfl ?_
  refine mj_putf (q := 84) dX5_lift_81 fl_X5_33 rfl rfl (by assumption) rfl rfl rfl ?_
  refine mj_iload_n (i := 3) (q := 85) dX5_lift_84 rfl rfl rfl ?_
  exact mj_ireturn dX5_lift_85 ⟨_, rfl, rfl⟩ ⟨_, rfl, rfl, _, rfl, hok, hfr⟩
set_option maxHeartbeats 4000000 in
set_option maxRecDepth 100000 in
theorem s_run {d x m l : Nat} {he sl ap ar : Int32} {z : rV} {n : Nat} {K : Nat → mj_K} {f : Nat → Nat → Int32} {g : Nat → Nat → Option Nat} {y : mV} (hP : LPn K g x m) (hN : MN f m y) (hr8 : y.2.1 < 8) (hz : RN f (m + 7 + 5 * y.2.1) z) (hi : l < y.1) (w1 : 0 ≤ he) (w2 : he ≤ 30) (w3 : 5 ≤ sl) (w4 : sl ≤ 45) (w5 : 0 ≤ ap) (w6 : ap ≤ 3) (w7 : 1 ≤ ar) (w8 : ar ≤ 9) : mj_Ci m_X5_run (d + 1) [.ref x, .int (nI l), .int he, .int sl, .int ap, .int ar] (n, K, f, g) (fun r h1 => r = nI y.2.1 ∧ ∃ f1, h1 = (n, K, f1, g) ∧ MN f1 m (y.1, y.2.1 + 1, y.2.2.1, y.2.2.2.1, mj_row y.2.2.2.2 y.2.1 (vNewRun z (nI l) he sl ap ar)) ∧ ∀ a, a ≠ m → a ≠ m + 7 + 5 * y.2.1 → f1 a = f a) := by
  have hP2 := hP
  have hN2 := hN
  obtain ⟨kx, hxm, gx0, gx1, gx2, gx3, hL, hLt, hLb, kw⟩ := hP
  have hL2 := hL
  obtain ⟨km, gm0, gm1, km1, km6, hLl, hLr⟩ := hL
  obtain ⟨lc, rc, mu, ls, rs⟩ := y
  obtain ⟨n1, n2, n3, n4, n5, n6, n7, n8⟩ := hN
  dsimp only at n1 n2 n3 n4 n5 n6 n7 n8
  have hr8 : rc < 8 := hr8
  have hz : RN f (m + 7 + 5 * rc) z := hz
  have hgr : g (m + 6) rc = some (m + 7 + 5 * rc) := (hLr rc (by omega)).1
  have kr : K (m + 7 + 5 * rc) = (2, 2, 0) := (hLr rc (by omega)).2.1
  have n4b : (mj_up (mj_up (mj_up (mj_up (mj_up f (m + 7 + 5 * rc) 1 (nI l)) (m + 7 + 5 * rc) 2 he) (m + 7 + 5 * rc) 3 sl) (m + 7 + 5 * rc) 4 ap) (m + 7 + 5 * rc) 5 ar) m 3 = nI rc := by simp only [mj_up]; rw [if_neg (by omega), if_neg (by omega), if_neg (by omega), if_neg (by omega), if_neg (by omega)]; exact n4
  have hfr : ∀ a, a ≠ m → a ≠ (m + 7 + 5 * rc) → (mj_up (mj_up (mj_up (mj_up (mj_up (mj_up f (m + 7 + 5 * rc) 1 (nI l)) (m + 7 + 5 * rc) 2 he) (m + 7 + 5 * rc) 3 sl) (m + 7 + 5 * rc) 4 ap) (m + 7 + 5 * rc) 5 ar) m 3 (nI rc + 1)) a = f a := fun a h1 h2 => (mj_upr h1).trans ((mj_upr h2).trans ((mj_upr h2).trans ((mj_upr h2).trans ((mj_upr h2).trans (mj_upr h2)))))
  have hok := hN2.addRun (f1 := mj_up (mj_up (mj_up (mj_up (mj_up (mj_up f (m + 7 + 5 * rc) 1 (nI l)) (m + 7 + 5 * rc) 2 he) (m + 7 + 5 * rc) 3 sl) (m + 7 + 5 * rc) 4 ap) (m + 7 + 5 * rc) 5 ar) m 3 (nI rc + 1)) hr8 ((((((hz.put (k0 := 1) (v := nI l) (by omega)).put (k0 := 2) (v := he) (by omega)).put (k0 := 3) (v := sl) (by omega)).put (k0 := 4) (v := ap) (by omega)).put (k0 := 5) (v := ar) (by omega)).keep (lo := m) (hi := m + 1) (mj_Fr.up mj_Fr.rf (by omega) (by omega)) (by omega)) (by show (if m = m ∧ 3 = 3 then nI rc + 1 else _) = _; rw [if_pos ⟨rfl, rfl⟩]; exact nI_1 rc) hi (by simp [upd]) (fun k hk => by simp only [mj_up]; rw [if_neg (by omega), if_neg (by omega), if_neg (by omega), if_neg (by omega), if_neg (by omega), if_neg (by omega)]) hfr
  refine mj_entry (by refine ⟨by decide +kernel, by decide, rfl, Nat.le_of_ble_eq_true rfl⟩) ?_
  show mj_W _ _ _ _ _ 0 [.ref x, .int (nI l), .int he, .int sl, .int ap, .int ar, .null, .null] [] _
  refine mj_aload_n (i := 0) (q := 1) dX5_run_0 rfl rfl rfl ?_
  refine mj_iload_n (i := 1) (q := 2) dX5_run_1 rfl rfl rfl ?_
  refine mj_cV1v (K := m_X5_requireLift) (q := 5) dX5_run_2 ln_X5_56 ok_X5_requireLift (Nat.le_of_ble_eq_true rfl) (by decide) (by assumption) rfl rfl (s_reqLift hP2 hN2 hi) (fun h1 hq => ?_)
  obtain rfl := hq
  refine mj_iload_n (i := 2) (q := 6) dX5_run_5 rfl rfl rfl ?_
  refine mj_num1 (v := 0) (q := 7) rfl dX5_run_6 rfl ?_
  refine mj_num2 (v := 30) (q := 9) (by decide) dX5_run_7 rfl ?_
  refine mj_cS3v (K := m_X5_requireWithin) (q := 12) dX5_run_9 ln_X5_29 ok_X5_requireWithin (Nat.le_of_ble_eq_true rfl) (by decide) rfl (s_within (by assumption) (by assumption)) (fun h1 hq => ?_)
  obtain rfl := hq
  refine mj_iload_n (i := 3) (q := 13) dX5_run_12 rfl rfl rfl ?_
  refine mj_num1 (v := 5) (q := 14) rfl dX5_run_13 rfl ?_
  refine mj_num2 (v := 45) (q := 16) (by decide) dX5_run_14 rfl ?_
  refine mj_cS3v (K := m_X5_requireWithin) (q := 19) dX5_run_16 ln_X5_29 ok_X5_requireWithin (Nat.le_of_ble_eq_true rfl) (by decide) rfl (s_within (by assumption) (by assumption)) (fun h1 hq => ?_)
  obtain rfl := hq
  refine mj_iload (i := 4) (q := 21) dX5_run_19 rfl rfl ?_
  refine mj_num1 (v := 0) (q := 22) rfl dX5_run_21 rfl ?_
  refine mj_num1 (v := 3) (q := 23) rfl dX5_run_22 rfl ?_
  refine mj_cS3v (K := m_X5_requireWithin) (q := 26) dX5_run_23 ln_X5_29 ok_X5_requireWithin (Nat.le_of_ble_eq_true rfl) (by decide) rfl (s_within (by assumption) (by assumption)) (fun h1 hq => ?_)
  obtain rfl := hq
  refine mj_iload (i := 5) (q := 28) dX5_run_26 rfl rfl ?_
  refine mj_num1 (v := 1) (q := 29) rfl dX5_run_28 rfl ?_
  refine mj_num2 (v := 9) (q := 31) (by decide) dX5_run_29 rfl ?_
  refine mj_cS3v (K := m_X5_requireWithin) (q := 34) dX5_run_31 ln_X5_29 ok_X5_requireWithin (Nat.le_of_ble_eq_true rfl) (by decide) rfl (s_within (by assumption) (by assumption)) (fun h1 hq => ?_)
  obtain rfl := hq
  refine mj_aload_n (i := 0) (q := 35) dX5_run_34 rfl rfl rfl ?_
  refine mj_getr (q := 38) dX5_run_35 fl_X5_10 rfl rfl (by assumption) (by assumption) ?_
  refine mj_getfv (q := 41) dX5_run_38 fl_X5_60 rfl rfl (by assumption) (by assumption) ?_
  refine mj_num2 (v := 8) (q := 43) (by decide) dX5_run_41 rfl ?_
  refine mj_icmp_lt (tgt := 56) (q := 46) dX5_run_43 (by decide) rfl (fun c_43 => ?_) (fun c_43 => absurd (nI_lt hr8 (by omega)) c_43)
  refine mj_aload_n (i := 0) (q := 57) dX5_run_56 rfl rfl rfl ?_
  refine mj_getr (q := 60) dX5_run_57 fl_X5_10 rfl rfl (by assumption) (by assumption) ?_
  refine mj_getfv (q := 63) dX5_run_60 fl_X5_60 rfl rfl (by assumption) (by assumption) ?_
  refine mj_istore (i := 6) (q := 65) dX5_run_63 rfl (by decide) rfl ?_
  dsimp only [List.set]
  refine mj_aload_n (i := 0) (q := 66) dX5_run_65 rfl rfl rfl ?_
  refine mj_getr (q := 69) dX5_run_66 fl_X5_10 rfl rfl (by assumption) (by assumption) ?_
  refine mj_getr (q := 72) dX5_run_69 fl_X5_65 rfl rfl (by assumption) (by assumption) ?_
  refine mj_iload (i := 6) (q := 74) dX5_run_72 rfl rfl ?_
  refine mj_aaldn (q := 75) dX5_run_74 rfl (by assumption) ⟨by omega, by omega⟩ (by assumption) ?_
  refine mj_astore (i := 7) (q := 77) dX5_run_75 rfl (by decide) rfl ?_
  dsimp only [List.set]
  refine mj_aload (i := 7) (q := 79) dX5_run_77 rfl rfl ?_
  refine mj_iload_n (i := 1) (q := 80) dX5_run_79 rfl rfl rfl ?_
  refine mj_putf (q := 83) dX5_run_80 fl_X5_69 rfl rfl (by assumption) rfl rfl rfl ?_
  refine mj_aload (i := 7) (q := 85) dX5_run_83 rfl rfl ?_
  refine mj_iload_n (i := 2) (q := 86) dX5_run_85 rfl rfl rfl ?_
  refine mj_putf (q := 89) dX5_run_86 fl_X5_74 rfl rfl (by assumption) rfl rfl rfl ?_
  refine mj_aload (i := 7) (q := 91) dX5_run_89 rfl rfl ?_
  refine mj_iload_n (i := 3) (q := 92) dX5_run_91 rfl rfl rfl ?_
  refine mj_putf (q := 95) dX5_run_92 fl_X5_77 rfl rfl (by assumption) rfl rfl rfl ?_
  refine mj_aload (i := 7) (q := 97) dX5_run_95 rfl rfl ?_
  refine mj_iload (i := 4) (q := 99) dX5_run_97 rfl rfl ?_
  refine mj_putf (q := 102) dX5_run_99 fl_X5_80 rfl rfl (by assumption) rfl rfl rfl ?_
  refine mj_aload (i := 7) (q := 104) dX5_run_102 rfl rfl ?_
  refine mj_iload (i := 5) (q := 106) dX5_run_104 rfl rfl ?_
  refine mj_putf (q := 109) dX5_run_106 fl_X5_83 rfl rfl (by assumption) rfl rfl rfl ?_
  refine mj_aload_n (i := 0) (q := 110) dX5_run_109 rfl rfl rfl ?_
  refine mj_getr (q := 113) dX5_run_110 fl_X5_10 rfl rfl (by assumption) (by assumption) ?_
  refine mj_dup (q := 114) rfl dX5_run_113 rfl ?_
  refine mj_getfv (q := 117) dX5_run_114 fl_X5_60 rfl rfl (by assumption) (by assumption) ?_
  refine mj_num1 (v := 1) (q := 118) rfl dX5_run_117 rfl ?_
  refine mj_iadd (q := 119) dX5_run_118 rfl ?_
  refine mj_putf (q := 122) dX5_run_119 fl_X5_60 rfl rfl (by assumption) rfl rfl rfl ?_
  refine mj_iload (i := 6) (q := 124) dX5_run_122 rfl rfl ?_
  exact mj_ireturn dX5_run_124 ⟨_, rfl, rfl⟩ ⟨_, rfl, rfl, _, rfl, hok, hfr⟩
